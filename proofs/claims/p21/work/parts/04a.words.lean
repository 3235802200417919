/-! which words stand in the tables, by their places -/
theorem wi_L : Cond.initialized RL ∈ lw_all := List.mem_filter.mpr ⟨List.mem_append_right _ (List.mem_of_getElem? (i := 0) (by decide +kernel)), by decide⟩
theorem wi_X2 : Cond.initialized RX2 ∈ lw_all := List.mem_filter.mpr ⟨List.mem_append_right _ (List.mem_of_getElem? (i := 1) (by decide +kernel)), by decide⟩
theorem wi_X0 : Cond.initialized RX0 ∈ lw_all := List.mem_filter.mpr ⟨List.mem_append_right _ (List.mem_of_getElem? (i := 2) (by decide +kernel)), by decide⟩
theorem wi_X1 : Cond.initialized RX1 ∈ lw_all := List.mem_filter.mpr ⟨List.mem_append_right _ (List.mem_of_getElem? (i := 3) (by decide +kernel)), by decide⟩
theorem wi_J9 : Cond.initialized RJ9 ∈ lw_all := List.mem_filter.mpr ⟨List.mem_append_right _ (List.mem_of_getElem? (i := 4) (by decide +kernel)), by decide⟩
theorem wi_Throwable : Cond.initialized "java/lang/Throwable" ∈ lw_all := List.mem_filter.mpr ⟨List.mem_append_right _ (List.mem_of_getElem? (i := 5) (by decide +kernel)), by decide⟩
theorem wi_Exception : Cond.initialized "java/lang/Exception" ∈ lw_all := List.mem_filter.mpr ⟨List.mem_append_right _ (List.mem_of_getElem? (i := 6) (by decide +kernel)), by decide⟩
theorem wi_RuntimeException : Cond.initialized "java/lang/RuntimeException" ∈ lw_all := List.mem_filter.mpr ⟨List.mem_append_right _ (List.mem_of_getElem? (i := 7) (by decide +kernel)), by decide⟩
theorem wi_IllegalArgumentException : Cond.initialized "java/lang/IllegalArgumentException" ∈ lw_all := List.mem_filter.mpr ⟨List.mem_append_right _ (List.mem_of_getElem? (i := 8) (by decide +kernel)), by decide⟩
theorem wi_X4 : Cond.initialized RX4 ∈ lw_all := List.mem_filter.mpr ⟨List.mem_append_right _ (List.mem_of_getElem? (i := 9) (by decide +kernel)), by decide⟩
theorem wi_X3 : Cond.initialized RX3 ∈ lw_all := List.mem_filter.mpr ⟨List.mem_append_right _ (List.mem_of_getElem? (i := 10) (by decide +kernel)), by decide⟩
theorem wi_IndexOutOfBoundsException : Cond.initialized "java/lang/IndexOutOfBoundsException" ∈ lw_all := List.mem_filter.mpr ⟨List.mem_append_right _ (List.mem_of_getElem? (i := 11) (by decide +kernel)), by decide⟩
theorem wi_IllegalStateException : Cond.initialized "java/lang/IllegalStateException" ∈ lw_all := List.mem_filter.mpr ⟨List.mem_append_right _ (List.mem_of_getElem? (i := 12) (by decide +kernel)), by decide⟩
theorem wi_J10 : Cond.initialized RJ10 ∈ lw_all := List.mem_filter.mpr ⟨List.mem_append_right _ (List.mem_of_getElem? (i := 13) (by decide +kernel)), by decide⟩
theorem wl_L_28 : Cond.classLink RL 28 RX2 ∈ lw_all := List.mem_filter.mpr ⟨List.mem_append_right _ (List.mem_of_getElem? (i := 14) (by decide +kernel)), by decide⟩
theorem wz_X2 : Cond.instantiable RX2 2 ∈ lw_all := List.mem_filter.mpr ⟨List.mem_append_right _ (List.mem_of_getElem? (i := 15) (by decide +kernel)), by decide⟩
theorem wm_L_96 : Cond.methodLink RL 96 yX2_init ∈ lw_all := List.mem_filter.mpr ⟨List.mem_append_right _ (List.mem_of_getElem? (i := 16) (by decide +kernel)), by decide⟩
theorem wn_yX2_init : Cond.instanceMethod yX2_init ∈ lw_all := List.mem_filter.mpr ⟨List.mem_append_right _ (List.mem_of_getElem? (i := 17) (by decide +kernel)), by decide⟩
set_option maxRecDepth 100000 in
theorem wk_yX2_init : Cond.code yX2_init cX2_init 1 none ∈ lw_all := List.mem_filter.mpr ⟨List.mem_append_right _ (List.mem_of_getElem? (i := 18) rfl), by decide⟩
theorem wm_X2_1 : Cond.methodLink RX2 1 objectInit ∈ lw_all := List.mem_filter.mpr ⟨List.mem_append_right _ (List.mem_of_getElem? (i := 19) (by decide +kernel)), by decide⟩
theorem wn_objectInit : Cond.instanceMethod objectInit ∈ lw_all := List.mem_filter.mpr ⟨List.mem_append_right _ (List.mem_of_getElem? (i := 20) (by decide +kernel)), by decide⟩
theorem wk_oinit : Cond.code objectInit ⟨#[0xb1]⟩ 1 none ∈ lw_all := List.mem_filter.mpr ⟨List.mem_append_right _ (List.mem_of_getElem? (i := 21) (by decide +kernel)), by decide⟩
theorem wl_X2_7 : Cond.classLink RX2 7 RX0 ∈ lw_all := List.mem_filter.mpr ⟨List.mem_append_right _ (List.mem_of_getElem? (i := 22) (by decide +kernel)), by decide⟩
theorem wz_X0 : Cond.instantiable RX0 13 ∈ lw_all := List.mem_filter.mpr ⟨List.mem_append_right _ (List.mem_of_getElem? (i := 23) (by decide +kernel)), by decide⟩
theorem wm_X2_9 : Cond.methodLinkNest RX2 9 yX0_init "FleetTerms" ∈ lw_env := List.mem_filter.mpr ⟨List.mem_append_right _ (List.mem_of_getElem? (i := 24) (by decide +kernel)), by decide⟩
theorem wn_yX0_init : Cond.instanceMethod yX0_init ∈ lw_all := List.mem_filter.mpr ⟨List.mem_append_right _ (List.mem_of_getElem? (i := 25) (by decide +kernel)), by decide⟩
set_option maxRecDepth 100000 in
theorem wk_yX0_init : Cond.code yX0_init cX0_init 1 none ∈ lw_all := List.mem_filter.mpr ⟨List.mem_append_right _ (List.mem_of_getElem? (i := 26) rfl), by decide⟩
theorem wm_X0_3 : Cond.methodLink RX0 3 objectInit ∈ lw_all := List.mem_filter.mpr ⟨List.mem_append_right _ (List.mem_of_getElem? (i := 27) (by decide +kernel)), by decide⟩
theorem wl_X0_34 : Cond.classLink RX0 34 RX1 ∈ lw_all := List.mem_filter.mpr ⟨List.mem_append_right _ (List.mem_of_getElem? (i := 28) (by decide +kernel)), by decide⟩
theorem wz_X1 : Cond.instantiable RX1 4 ∈ lw_all := List.mem_filter.mpr ⟨List.mem_append_right _ (List.mem_of_getElem? (i := 29) (by decide +kernel)), by decide⟩
theorem wm_X0_36 : Cond.methodLinkNest RX0 36 yX1_init "FleetTerms" ∈ lw_env := List.mem_filter.mpr ⟨List.mem_append_right _ (List.mem_of_getElem? (i := 30) (by decide +kernel)), by decide⟩
theorem wn_yX1_init : Cond.instanceMethod yX1_init ∈ lw_all := List.mem_filter.mpr ⟨List.mem_append_right _ (List.mem_of_getElem? (i := 31) (by decide +kernel)), by decide⟩
set_option maxRecDepth 100000 in
theorem wk_yX1_init : Cond.code yX1_init cX1_init 1 none ∈ lw_all := List.mem_filter.mpr ⟨List.mem_append_right _ (List.mem_of_getElem? (i := 32) rfl), by decide⟩
theorem wm_X1_3 : Cond.methodLink RX1 3 objectInit ∈ lw_all := List.mem_filter.mpr ⟨List.mem_append_right _ (List.mem_of_getElem? (i := 33) (by decide +kernel)), by decide⟩
theorem wf_X1_9 : Cond.fieldLink RX1 9 (TX1 0).1 (TX1 0).2.1 (TX1 0).2.2.1 ∈ lw_all := List.mem_filter.mpr ⟨List.mem_append_right _ (List.mem_of_getElem? (i := 34) (by decide +kernel)), by decide⟩
theorem wf_X2_68 : Cond.fieldLink RX2 68 (TX1 0).1 (TX1 0).2.1 (TX1 0).2.2.1 ∈ lw_all := List.mem_filter.mpr ⟨List.mem_append_right _ (List.mem_of_getElem? (i := 35) (by decide +kernel)), by decide⟩
theorem wf_X0_128 : Cond.fieldLink RX0 128 (TX1 0).1 (TX1 0).2.1 (TX1 0).2.2.1 ∈ lw_all := List.mem_filter.mpr ⟨List.mem_append_right _ (List.mem_of_getElem? (i := 36) (by decide +kernel)), by decide⟩
theorem wf_X1_15 : Cond.fieldLink RX1 15 (TX1 1).1 (TX1 1).2.1 (TX1 1).2.2.1 ∈ lw_all := List.mem_filter.mpr ⟨List.mem_append_right _ (List.mem_of_getElem? (i := 37) (by decide +kernel)), by decide⟩
theorem wf_X0_74 : Cond.fieldLink RX0 74 (TX1 1).1 (TX1 1).2.1 (TX1 1).2.2.1 ∈ lw_all := List.mem_filter.mpr ⟨List.mem_append_right _ (List.mem_of_getElem? (i := 38) (by decide +kernel)), by decide⟩
theorem wf_X2_142 : Cond.fieldLink RX2 142 (TX1 1).1 (TX1 1).2.1 (TX1 1).2.2.1 ∈ lw_all := List.mem_filter.mpr ⟨List.mem_append_right _ (List.mem_of_getElem? (i := 39) (by decide +kernel)), by decide⟩
theorem wf_X1_18 : Cond.fieldLink RX1 18 (TX1 2).1 (TX1 2).2.1 (TX1 2).2.2.1 ∈ lw_all := List.mem_filter.mpr ⟨List.mem_append_right _ (List.mem_of_getElem? (i := 40) (by decide +kernel)), by decide⟩
theorem wf_X1_21 : Cond.fieldLink RX1 21 (TX1 3).1 (TX1 3).2.1 (TX1 3).2.2.1 ∈ lw_all := List.mem_filter.mpr ⟨List.mem_append_right _ (List.mem_of_getElem? (i := 41) (by decide +kernel)), by decide⟩
theorem wa_int : Cond.arrayClass .int ∈ lw_all := List.mem_filter.mpr ⟨List.mem_append_right _ (List.mem_of_getElem? (i := 51) (by decide +kernel)), by decide⟩
theorem wa_boolean : Cond.arrayClass .boolean ∈ lw_all := List.mem_filter.mpr ⟨List.mem_append_right _ (List.mem_of_getElem? (i := 52) (by decide +kernel)), by decide⟩
theorem wf_X0_50 : Cond.fieldLink RX0 50 (TX0 0).1 (TX0 0).2.1 (TX0 0).2.2.1 ∈ lw_all := List.mem_filter.mpr ⟨List.mem_append_right _ (List.mem_of_getElem? (i := 53) (by decide +kernel)), by decide⟩
theorem wf_X2_107 : Cond.fieldLink RX2 107 (TX0 0).1 (TX0 0).2.1 (TX0 0).2.2.1 ∈ lw_all := List.mem_filter.mpr ⟨List.mem_append_right _ (List.mem_of_getElem? (i := 54) (by decide +kernel)), by decide⟩
theorem wf_X0_54 : Cond.fieldLink RX0 54 (TX0 1).1 (TX0 1).2.1 (TX0 1).2.2.1 ∈ lw_all := List.mem_filter.mpr ⟨List.mem_append_right _ (List.mem_of_getElem? (i := 55) (by decide +kernel)), by decide⟩
theorem wf_X0_57 : Cond.fieldLink RX0 57 (TX0 2).1 (TX0 2).2.1 (TX0 2).2.2.1 ∈ lw_all := List.mem_filter.mpr ⟨List.mem_append_right _ (List.mem_of_getElem? (i := 56) (by decide +kernel)), by decide⟩
theorem wf_X0_60 : Cond.fieldLink RX0 60 (TX0 3).1 (TX0 3).2.1 (TX0 3).2.2.1 ∈ lw_all := List.mem_filter.mpr ⟨List.mem_append_right _ (List.mem_of_getElem? (i := 57) (by decide +kernel)), by decide⟩
theorem wf_X2_85 : Cond.fieldLink RX2 85 (TX0 3).1 (TX0 3).2.1 (TX0 3).2.2.1 ∈ lw_all := List.mem_filter.mpr ⟨List.mem_append_right _ (List.mem_of_getElem? (i := 58) (by decide +kernel)), by decide⟩
theorem wf_X0_63 : Cond.fieldLink RX0 63 (TX0 4).1 (TX0 4).2.1 (TX0 4).2.2.1 ∈ lw_all := List.mem_filter.mpr ⟨List.mem_append_right _ (List.mem_of_getElem? (i := 59) (by decide +kernel)), by decide⟩
theorem wf_X0_9 : Cond.fieldLink RX0 9 (TX0 5).1 (TX0 5).2.1 (TX0 5).2.2.1 ∈ lw_all := List.mem_filter.mpr ⟨List.mem_append_right _ (List.mem_of_getElem? (i := 60) (by decide +kernel)), by decide⟩
theorem wf_X2_35 : Cond.fieldLink RX2 35 (TX0 5).1 (TX0 5).2.1 (TX0 5).2.2.1 ∈ lw_all := List.mem_filter.mpr ⟨List.mem_append_right _ (List.mem_of_getElem? (i := 61) (by decide +kernel)), by decide⟩
theorem wf_X0_15 : Cond.fieldLink RX0 15 (TX0 6).1 (TX0 6).2.1 (TX0 6).2.2.1 ∈ lw_all := List.mem_filter.mpr ⟨List.mem_append_right _ (List.mem_of_getElem? (i := 62) (by decide +kernel)), by decide⟩
theorem wf_X0_18 : Cond.fieldLink RX0 18 (TX0 7).1 (TX0 7).2.1 (TX0 7).2.2.1 ∈ lw_all := List.mem_filter.mpr ⟨List.mem_append_right _ (List.mem_of_getElem? (i := 63) (by decide +kernel)), by decide⟩
theorem wf_X2_75 : Cond.fieldLink RX2 75 (TX0 7).1 (TX0 7).2.1 (TX0 7).2.2.1 ∈ lw_all := List.mem_filter.mpr ⟨List.mem_append_right _ (List.mem_of_getElem? (i := 64) (by decide +kernel)), by decide⟩
theorem wf_X0_21 : Cond.fieldLink RX0 21 (TX0 8).1 (TX0 8).2.1 (TX0 8).2.2.1 ∈ lw_all := List.mem_filter.mpr ⟨List.mem_append_right _ (List.mem_of_getElem? (i := 65) (by decide +kernel)), by decide⟩
theorem wf_X0_24 : Cond.fieldLink RX0 24 (TX0 9).1 (TX0 9).2.1 (TX0 9).2.2.1 ∈ lw_all := List.mem_filter.mpr ⟨List.mem_append_right _ (List.mem_of_getElem? (i := 66) (by decide +kernel)), by decide⟩
theorem wf_X0_27 : Cond.fieldLink RX0 27 (TX0 10).1 (TX0 10).2.1 (TX0 10).2.2.1 ∈ lw_all := List.mem_filter.mpr ⟨List.mem_append_right _ (List.mem_of_getElem? (i := 67) (by decide +kernel)), by decide⟩
theorem wf_X2_43 : Cond.fieldLink RX2 43 (TX0 10).1 (TX0 10).2.1 (TX0 10).2.2.1 ∈ lw_all := List.mem_filter.mpr ⟨List.mem_append_right _ (List.mem_of_getElem? (i := 68) (by decide +kernel)), by decide⟩
theorem wf_X0_30 : Cond.fieldLink RX0 30 (TX0 11).1 (TX0 11).2.1 (TX0 11).2.2.1 ∈ lw_all := List.mem_filter.mpr ⟨List.mem_append_right _ (List.mem_of_getElem? (i := 69) (by decide +kernel)), by decide⟩
theorem wf_X2_46 : Cond.fieldLink RX2 46 (TX0 11).1 (TX0 11).2.1 (TX0 11).2.2.1 ∈ lw_all := List.mem_filter.mpr ⟨List.mem_append_right _ (List.mem_of_getElem? (i := 70) (by decide +kernel)), by decide⟩
theorem wf_X0_37 : Cond.fieldLink RX0 37 (TX0 12).1 (TX0 12).2.1 (TX0 12).2.2.1 ∈ lw_all := List.mem_filter.mpr ⟨List.mem_append_right _ (List.mem_of_getElem? (i := 71) (by decide +kernel)), by decide⟩
theorem wf_X2_64 : Cond.fieldLink RX2 64 (TX0 12).1 (TX0 12).2.1 (TX0 12).2.2.1 ∈ lw_all := List.mem_filter.mpr ⟨List.mem_append_right _ (List.mem_of_getElem? (i := 72) (by decide +kernel)), by decide⟩
theorem wm_X2_19 : Cond.methodLink RX2 19 yX0_begin ∈ lw_all := List.mem_filter.mpr ⟨List.mem_append_right _ (List.mem_of_getElem? (i := 100) (by decide +kernel)), by decide⟩
theorem wn_yX0_begin : Cond.instanceMethod yX0_begin ∈ lw_all := List.mem_filter.mpr ⟨List.mem_append_right _ (List.mem_of_getElem? (i := 101) (by decide +kernel)), by decide⟩
theorem wo_yX0_begin : Cond.selects yX0_begin.cls yX0_begin yX0_begin ∈ lw_all := List.mem_filter.mpr ⟨List.mem_append_right _ (List.mem_of_getElem? (i := 102) (by decide +kernel)), by decide⟩
set_option maxRecDepth 100000 in
theorem wk_yX0_begin : Cond.code yX0_begin cX0_begin 3 none ∈ lw_all := List.mem_filter.mpr ⟨List.mem_append_right _ (List.mem_of_getElem? (i := 103) rfl), by decide⟩
theorem wm_X0_41 : Cond.methodLink RX0 41 yJ9_min_7cf53 ∈ lw_all := List.mem_filter.mpr ⟨List.mem_append_right _ (List.mem_of_getElem? (i := 104) (by decide +kernel)), by decide⟩
theorem ws_yJ9_min_7cf53 : Cond.static yJ9_min_7cf53 ∈ lw_all := List.mem_filter.mpr ⟨List.mem_append_right _ (List.mem_of_getElem? (i := 105) (by decide +kernel)), by decide⟩
set_option maxRecDepth 100000 in
theorem wk_yJ9_min_7cf53 : Cond.code yJ9_min_7cf53 cJ9_min_7cf53 2 (some .int) ∈ lw_all := List.mem_filter.mpr ⟨List.mem_append_right _ (List.mem_of_getElem? (i := 106) rfl), by decide⟩
theorem wm_X0_47 : Cond.methodLink RX0 47 yJ9_max_7cf53 ∈ lw_all := List.mem_filter.mpr ⟨List.mem_append_right _ (List.mem_of_getElem? (i := 107) (by decide +kernel)), by decide⟩
theorem ws_yJ9_max_7cf53 : Cond.static yJ9_max_7cf53 ∈ lw_all := List.mem_filter.mpr ⟨List.mem_append_right _ (List.mem_of_getElem? (i := 108) (by decide +kernel)), by decide⟩
set_option maxRecDepth 100000 in
theorem wk_yJ9_max_7cf53 : Cond.code yJ9_max_7cf53 cJ9_max_7cf53 2 (some .int) ∈ lw_all := List.mem_filter.mpr ⟨List.mem_append_right _ (List.mem_of_getElem? (i := 109) rfl), by decide⟩
theorem wm_X0_66 : Cond.methodLink RX0 66 yX1_clear ∈ lw_all := List.mem_filter.mpr ⟨List.mem_append_right _ (List.mem_of_getElem? (i := 110) (by decide +kernel)), by decide⟩
theorem wn_yX1_clear : Cond.instanceMethod yX1_clear ∈ lw_all := List.mem_filter.mpr ⟨List.mem_append_right _ (List.mem_of_getElem? (i := 111) (by decide +kernel)), by decide⟩
theorem wo_yX1_clear : Cond.selects yX1_clear.cls yX1_clear yX1_clear ∈ lw_all := List.mem_filter.mpr ⟨List.mem_append_right _ (List.mem_of_getElem? (i := 112) (by decide +kernel)), by decide⟩
set_option maxRecDepth 100000 in
theorem wk_yX1_clear : Cond.code yX1_clear cX1_clear 2 none ∈ lw_all := List.mem_filter.mpr ⟨List.mem_append_right _ (List.mem_of_getElem? (i := 113) rfl), by decide⟩
theorem wf_X2_10 : Cond.fieldLink RX2 10 (TX2 0).1 (TX2 0).2.1 (TX2 0).2.2.1 ∈ lw_all := List.mem_filter.mpr ⟨List.mem_append_right _ (List.mem_of_getElem? (i := 114) (by decide +kernel)), by decide⟩
theorem wf_X2_16 : Cond.fieldLink RX2 16 (TX2 1).1 (TX2 1).2.1 (TX2 1).2.2.1 ∈ lw_all := List.mem_filter.mpr ⟨List.mem_append_right _ (List.mem_of_getElem? (i := 115) (by decide +kernel)), by decide⟩
theorem wm_L_78 : Cond.methodLink RL 78 yX2_pass ∈ lw_all := List.mem_filter.mpr ⟨List.mem_append_right _ (List.mem_of_getElem? (i := 121) (by decide +kernel)), by decide⟩
theorem wn_yX2_pass : Cond.instanceMethod yX2_pass ∈ lw_all := List.mem_filter.mpr ⟨List.mem_append_right _ (List.mem_of_getElem? (i := 122) (by decide +kernel)), by decide⟩
theorem wo_yX2_pass : Cond.selects yX2_pass.cls yX2_pass yX2_pass ∈ lw_all := List.mem_filter.mpr ⟨List.mem_append_right _ (List.mem_of_getElem? (i := 123) (by decide +kernel)), by decide⟩
set_option maxRecDepth 100000 in
theorem wk_yX2_pass : Cond.code yX2_pass cX2_pass 3 (some .int) ∈ lw_all := List.mem_filter.mpr ⟨List.mem_append_right _ (List.mem_of_getElem? (i := 124) rfl), by decide⟩
theorem wm_X2_82 : Cond.methodLink RX2 82 yX2_needHours ∈ lw_all := List.mem_filter.mpr ⟨List.mem_append_right _ (List.mem_of_getElem? (i := 125) (by decide +kernel)), by decide⟩
theorem wn_yX2_needHours : Cond.instanceMethod yX2_needHours ∈ lw_all := List.mem_filter.mpr ⟨List.mem_append_right _ (List.mem_of_getElem? (i := 127) (by decide +kernel)), by decide⟩
set_option maxRecDepth 100000 in
theorem wk_yX2_needHours : Cond.code yX2_needHours cX2_needHours 3 none ∈ lw_all := List.mem_filter.mpr ⟨List.mem_append_right _ (List.mem_of_getElem? (i := 128) rfl), by decide⟩
theorem wl_X2_23 : Cond.classLink RX2 23 "java/lang/IllegalArgumentException" ∈ lw_all := List.mem_filter.mpr ⟨List.mem_append_right _ (List.mem_of_getElem? (i := 129) (by decide +kernel)), by decide⟩
theorem wt_IllegalArgumentException : Cond.castable "java/lang/IllegalArgumentException" "java/lang/IllegalArgumentException" ∈ lw_env := List.mem_filter.mpr ⟨List.mem_append_right _ (List.mem_of_getElem? (i := 131) (by decide +kernel)), by decide⟩
theorem wm_X2_27 : Cond.methodLink RX2 27 (⟨"java/lang/IllegalArgumentException", "<init>", "(Ljava/lang/String;)V"⟩ : MethodName) ∈ lw_all := List.mem_filter.mpr ⟨List.mem_append_right _ (List.mem_of_getElem? (i := 171) (by decide +kernel)), by decide⟩
theorem wa_byte : Cond.arrayClass .byte ∈ lw_all := List.mem_filter.mpr ⟨List.mem_append_right _ (List.mem_of_getElem? (i := 196) (by decide +kernel)), by decide⟩
theorem wm_X2_89 : Cond.methodLink RX2 89 yX0_passHours ∈ lw_all := List.mem_filter.mpr ⟨List.mem_append_right _ (List.mem_of_getElem? (i := 197) (by decide +kernel)), by decide⟩
theorem wn_yX0_passHours : Cond.instanceMethod yX0_passHours ∈ lw_all := List.mem_filter.mpr ⟨List.mem_append_right _ (List.mem_of_getElem? (i := 198) (by decide +kernel)), by decide⟩
