/-! which words stand in the tables, by their places -/
theorem wi_L : Cond.initialized RL ∈ lw_all := List.mem_filter.mpr ⟨List.mem_append_right _ (List.mem_of_getElem? (i := 0) (by decide +kernel)), by decide⟩
theorem wi_X2 : Cond.initialized RX2 ∈ lw_all := List.mem_filter.mpr ⟨List.mem_append_right _ (List.mem_of_getElem? (i := 1) (by decide +kernel)), by decide⟩
theorem wi_X0 : Cond.initialized RX0 ∈ lw_all := List.mem_filter.mpr ⟨List.mem_append_right _ (List.mem_of_getElem? (i := 2) (by decide +kernel)), by decide⟩
theorem wi_X1 : Cond.initialized RX1 ∈ lw_all := List.mem_filter.mpr ⟨List.mem_append_right _ (List.mem_of_getElem? (i := 3) (by decide +kernel)), by decide⟩
theorem wi_J9 : Cond.initialized RJ9 ∈ lw_all := List.mem_filter.mpr ⟨List.mem_append_right _ (List.mem_of_getElem? (i := 4) (by decide +kernel)), by decide⟩
theorem wi_X4 : Cond.initialized RX4 ∈ lw_all := List.mem_filter.mpr ⟨List.mem_append_right _ (List.mem_of_getElem? (i := 5) (by decide +kernel)), by decide⟩
theorem wi_X3 : Cond.initialized RX3 ∈ lw_all := List.mem_filter.mpr ⟨List.mem_append_right _ (List.mem_of_getElem? (i := 6) (by decide +kernel)), by decide⟩
theorem wi_Throwable : Cond.initialized "java/lang/Throwable" ∈ lw_all := List.mem_filter.mpr ⟨List.mem_append_right _ (List.mem_of_getElem? (i := 7) (by decide +kernel)), by decide⟩
theorem wi_Exception : Cond.initialized "java/lang/Exception" ∈ lw_all := List.mem_filter.mpr ⟨List.mem_append_right _ (List.mem_of_getElem? (i := 8) (by decide +kernel)), by decide⟩
theorem wi_RuntimeException : Cond.initialized "java/lang/RuntimeException" ∈ lw_all := List.mem_filter.mpr ⟨List.mem_append_right _ (List.mem_of_getElem? (i := 9) (by decide +kernel)), by decide⟩
theorem wi_IllegalArgumentException : Cond.initialized "java/lang/IllegalArgumentException" ∈ lw_all := List.mem_filter.mpr ⟨List.mem_append_right _ (List.mem_of_getElem? (i := 10) (by decide +kernel)), by decide⟩
theorem wi_IndexOutOfBoundsException : Cond.initialized "java/lang/IndexOutOfBoundsException" ∈ lw_all := List.mem_filter.mpr ⟨List.mem_append_right _ (List.mem_of_getElem? (i := 11) (by decide +kernel)), by decide⟩
theorem wi_IllegalStateException : Cond.initialized "java/lang/IllegalStateException" ∈ lw_all := List.mem_filter.mpr ⟨List.mem_append_right _ (List.mem_of_getElem? (i := 12) (by decide +kernel)), by decide⟩
theorem wi_J10 : Cond.initialized RJ10 ∈ lw_all := List.mem_filter.mpr ⟨List.mem_append_right _ (List.mem_of_getElem? (i := 13) (by decide +kernel)), by decide⟩
theorem wl_L_8 : Cond.classLink RL 8 RX2 ∈ lw_all := List.mem_filter.mpr ⟨List.mem_append_right _ (List.mem_of_getElem? (i := 14) (by decide +kernel)), by decide⟩
theorem wz_X2 : Cond.instantiable RX2 2 ∈ lw_all := List.mem_filter.mpr ⟨List.mem_append_right _ (List.mem_of_getElem? (i := 15) (by decide +kernel)), by decide⟩
theorem wm_L_62 : Cond.methodLink RL 62 yX2_init ∈ lw_all := List.mem_filter.mpr ⟨List.mem_append_right _ (List.mem_of_getElem? (i := 16) (by decide +kernel)), by decide⟩
theorem wn_yX2_init : Cond.instanceMethod yX2_init ∈ lw_all := List.mem_filter.mpr ⟨List.mem_append_right _ (List.mem_of_getElem? (i := 17) (by decide +kernel)), by decide⟩
theorem wk_yX2_init : Cond.code yX2_init cX2_init 1 none ∈ lw_all := List.mem_filter.mpr ⟨List.mem_append_right _ (List.mem_of_getElem? (i := 18) (by decide +kernel)), by decide⟩
theorem wm_X2_1 : Cond.methodLink RX2 1 objectInit ∈ lw_all := List.mem_filter.mpr ⟨List.mem_append_right _ (List.mem_of_getElem? (i := 19) (by decide +kernel)), by decide⟩
theorem wn_objectInit : Cond.instanceMethod objectInit ∈ lw_all := List.mem_filter.mpr ⟨List.mem_append_right _ (List.mem_of_getElem? (i := 20) (by decide +kernel)), by decide⟩
theorem wk_oinit : Cond.code objectInit ⟨#[0xb1]⟩ 1 none ∈ lw_all := List.mem_filter.mpr ⟨List.mem_append_right _ (List.mem_of_getElem? (i := 21) (by decide +kernel)), by decide⟩
theorem wl_X2_7 : Cond.classLink RX2 7 RX0 ∈ lw_all := List.mem_filter.mpr ⟨List.mem_append_right _ (List.mem_of_getElem? (i := 22) (by decide +kernel)), by decide⟩
theorem wz_X0 : Cond.instantiable RX0 13 ∈ lw_all := List.mem_filter.mpr ⟨List.mem_append_right _ (List.mem_of_getElem? (i := 23) (by decide +kernel)), by decide⟩
theorem wm_X2_9 : Cond.methodLinkNest RX2 9 yX0_init "FleetTerms" ∈ lw_env := List.mem_filter.mpr ⟨List.mem_append_right _ (List.mem_of_getElem? (i := 24) (by decide +kernel)), by decide⟩
theorem wn_yX0_init : Cond.instanceMethod yX0_init ∈ lw_all := List.mem_filter.mpr ⟨List.mem_append_right _ (List.mem_of_getElem? (i := 25) (by decide +kernel)), by decide⟩
theorem wk_yX0_init : Cond.code yX0_init cX0_init 1 none ∈ lw_all := List.mem_filter.mpr ⟨List.mem_append_right _ (List.mem_of_getElem? (i := 26) (by decide +kernel)), by decide⟩
theorem wm_X0_3 : Cond.methodLink RX0 3 objectInit ∈ lw_all := List.mem_filter.mpr ⟨List.mem_append_right _ (List.mem_of_getElem? (i := 27) (by decide +kernel)), by decide⟩
theorem wl_X0_34 : Cond.classLink RX0 34 RX1 ∈ lw_all := List.mem_filter.mpr ⟨List.mem_append_right _ (List.mem_of_getElem? (i := 28) (by decide +kernel)), by decide⟩
theorem wz_X1 : Cond.instantiable RX1 4 ∈ lw_all := List.mem_filter.mpr ⟨List.mem_append_right _ (List.mem_of_getElem? (i := 29) (by decide +kernel)), by decide⟩
theorem wm_X0_36 : Cond.methodLinkNest RX0 36 yX1_init "FleetTerms" ∈ lw_env := List.mem_filter.mpr ⟨List.mem_append_right _ (List.mem_of_getElem? (i := 30) (by decide +kernel)), by decide⟩
theorem wn_yX1_init : Cond.instanceMethod yX1_init ∈ lw_all := List.mem_filter.mpr ⟨List.mem_append_right _ (List.mem_of_getElem? (i := 31) (by decide +kernel)), by decide⟩
theorem wk_yX1_init : Cond.code yX1_init cX1_init 1 none ∈ lw_all := List.mem_filter.mpr ⟨List.mem_append_right _ (List.mem_of_getElem? (i := 32) (by decide +kernel)), by decide⟩
theorem wm_X1_3 : Cond.methodLink RX1 3 objectInit ∈ lw_all := List.mem_filter.mpr ⟨List.mem_append_right _ (List.mem_of_getElem? (i := 33) (by decide +kernel)), by decide⟩
theorem wf_X1_9 : Cond.fieldLink RX1 9 (TX1 0).1 (TX1 0).2.1 (TX1 0).2.2.1 ∈ lw_all := List.mem_filter.mpr ⟨List.mem_append_right _ (List.mem_of_getElem? (i := 34) (by decide +kernel)), by decide⟩
theorem wf_X2_68 : Cond.fieldLink RX2 68 (TX1 0).1 (TX1 0).2.1 (TX1 0).2.2.1 ∈ lw_all := List.mem_filter.mpr ⟨List.mem_append_right _ (List.mem_of_getElem? (i := 35) (by decide +kernel)), by decide⟩
theorem wf_X0_128 : Cond.fieldLink RX0 128 (TX1 0).1 (TX1 0).2.1 (TX1 0).2.2.1 ∈ lw_all := List.mem_filter.mpr ⟨List.mem_append_right _ (List.mem_of_getElem? (i := 36) (by decide +kernel)), by decide⟩
theorem wf_X1_15 : Cond.fieldLink RX1 15 (TX1 1).1 (TX1 1).2.1 (TX1 1).2.2.1 ∈ lw_all := List.mem_filter.mpr ⟨List.mem_append_right _ (List.mem_of_getElem? (i := 37) (by decide +kernel)), by decide⟩
theorem wf_X0_74 : Cond.fieldLink RX0 74 (TX1 1).1 (TX1 1).2.1 (TX1 1).2.2.1 ∈ lw_all := List.mem_filter.mpr ⟨List.mem_append_right _ (List.mem_of_getElem? (i := 38) (by decide +kernel)), by decide⟩
theorem wf_X2_142 : Cond.fieldLink RX2 142 (TX1 1).1 (TX1 1).2.1 (TX1 1).2.2.1 ∈ lw_all := List.mem_filter.mpr ⟨List.mem_append_right _ (List.mem_of_getElem? (i := 39) (by decide +kernel)), by decide⟩
theorem wf_X1_18 : Cond.fieldLink RX1 18 (TX1 2).1 (TX1 2).2.1 (TX1 2).2.2.1 ∈ lw_all := List.mem_filter.mpr ⟨List.mem_append_right _ (List.mem_of_getElem? (i := 40) (by decide +kernel)), by decide⟩
theorem wf_X1_21 : Cond.fieldLink RX1 21 (TX1 3).1 (TX1 3).2.1 (TX1 3).2.2.1 ∈ lw_all := List.mem_filter.mpr ⟨List.mem_append_right _ (List.mem_of_getElem? (i := 41) (by decide +kernel)), by decide⟩
theorem wa_int : Cond.arrayClass .int ∈ lw_all := List.mem_filter.mpr ⟨List.mem_append_right _ (List.mem_of_getElem? (i := 51) (by decide +kernel)), by decide⟩
theorem wa_boolean : Cond.arrayClass .boolean ∈ lw_all := List.mem_filter.mpr ⟨List.mem_append_right _ (List.mem_of_getElem? (i := 52) (by decide +kernel)), by decide⟩
theorem wf_X0_50 : Cond.fieldLink RX0 50 (TX0 0).1 (TX0 0).2.1 (TX0 0).2.2.1 ∈ lw_all := List.mem_filter.mpr ⟨List.mem_append_right _ (List.mem_of_getElem? (i := 53) (by decide +kernel)), by decide⟩
theorem wf_X2_107 : Cond.fieldLink RX2 107 (TX0 0).1 (TX0 0).2.1 (TX0 0).2.2.1 ∈ lw_all := List.mem_filter.mpr ⟨List.mem_append_right _ (List.mem_of_getElem? (i := 54) (by decide +kernel)), by decide⟩
theorem wf_X0_54 : Cond.fieldLink RX0 54 (TX0 1).1 (TX0 1).2.1 (TX0 1).2.2.1 ∈ lw_all := List.mem_filter.mpr ⟨List.mem_append_right _ (List.mem_of_getElem? (i := 55) (by decide +kernel)), by decide⟩
theorem wf_X0_57 : Cond.fieldLink RX0 57 (TX0 2).1 (TX0 2).2.1 (TX0 2).2.2.1 ∈ lw_all := List.mem_filter.mpr ⟨List.mem_append_right _ (List.mem_of_getElem? (i := 56) (by decide +kernel)), by decide⟩
theorem wf_X0_60 : Cond.fieldLink RX0 60 (TX0 3).1 (TX0 3).2.1 (TX0 3).2.2.1 ∈ lw_all := List.mem_filter.mpr ⟨List.mem_append_right _ (List.mem_of_getElem? (i := 57) (by decide +kernel)), by decide⟩
theorem wf_X2_85 : Cond.fieldLink RX2 85 (TX0 3).1 (TX0 3).2.1 (TX0 3).2.2.1 ∈ lw_all := List.mem_filter.mpr ⟨List.mem_append_right _ (List.mem_of_getElem? (i := 58) (by decide +kernel)), by decide⟩
theorem wf_X0_63 : Cond.fieldLink RX0 63 (TX0 4).1 (TX0 4).2.1 (TX0 4).2.2.1 ∈ lw_all := List.mem_filter.mpr ⟨List.mem_append_right _ (List.mem_of_getElem? (i := 59) (by decide +kernel)), by decide⟩
theorem wf_X0_9 : Cond.fieldLink RX0 9 (TX0 5).1 (TX0 5).2.1 (TX0 5).2.2.1 ∈ lw_all := List.mem_filter.mpr ⟨List.mem_append_right _ (List.mem_of_getElem? (i := 60) (by decide +kernel)), by decide⟩
theorem wf_X2_35 : Cond.fieldLink RX2 35 (TX0 5).1 (TX0 5).2.1 (TX0 5).2.2.1 ∈ lw_all := List.mem_filter.mpr ⟨List.mem_append_right _ (List.mem_of_getElem? (i := 61) (by decide +kernel)), by decide⟩
theorem wf_X0_15 : Cond.fieldLink RX0 15 (TX0 6).1 (TX0 6).2.1 (TX0 6).2.2.1 ∈ lw_all := List.mem_filter.mpr ⟨List.mem_append_right _ (List.mem_of_getElem? (i := 62) (by decide +kernel)), by decide⟩
theorem wf_X0_18 : Cond.fieldLink RX0 18 (TX0 7).1 (TX0 7).2.1 (TX0 7).2.2.1 ∈ lw_all := List.mem_filter.mpr ⟨List.mem_append_right _ (List.mem_of_getElem? (i := 63) (by decide +kernel)), by decide⟩
theorem wf_X2_75 : Cond.fieldLink RX2 75 (TX0 7).1 (TX0 7).2.1 (TX0 7).2.2.1 ∈ lw_all := List.mem_filter.mpr ⟨List.mem_append_right _ (List.mem_of_getElem? (i := 64) (by decide +kernel)), by decide⟩
theorem wf_X0_21 : Cond.fieldLink RX0 21 (TX0 8).1 (TX0 8).2.1 (TX0 8).2.2.1 ∈ lw_all := List.mem_filter.mpr ⟨List.mem_append_right _ (List.mem_of_getElem? (i := 65) (by decide +kernel)), by decide⟩
theorem wf_X0_24 : Cond.fieldLink RX0 24 (TX0 9).1 (TX0 9).2.1 (TX0 9).2.2.1 ∈ lw_all := List.mem_filter.mpr ⟨List.mem_append_right _ (List.mem_of_getElem? (i := 66) (by decide +kernel)), by decide⟩
theorem wf_X0_27 : Cond.fieldLink RX0 27 (TX0 10).1 (TX0 10).2.1 (TX0 10).2.2.1 ∈ lw_all := List.mem_filter.mpr ⟨List.mem_append_right _ (List.mem_of_getElem? (i := 67) (by decide +kernel)), by decide⟩
theorem wf_X2_43 : Cond.fieldLink RX2 43 (TX0 10).1 (TX0 10).2.1 (TX0 10).2.2.1 ∈ lw_all := List.mem_filter.mpr ⟨List.mem_append_right _ (List.mem_of_getElem? (i := 68) (by decide +kernel)), by decide⟩
theorem wf_X0_30 : Cond.fieldLink RX0 30 (TX0 11).1 (TX0 11).2.1 (TX0 11).2.2.1 ∈ lw_all := List.mem_filter.mpr ⟨List.mem_append_right _ (List.mem_of_getElem? (i := 69) (by decide +kernel)), by decide⟩
theorem wf_X2_46 : Cond.fieldLink RX2 46 (TX0 11).1 (TX0 11).2.1 (TX0 11).2.2.1 ∈ lw_all := List.mem_filter.mpr ⟨List.mem_append_right _ (List.mem_of_getElem? (i := 70) (by decide +kernel)), by decide⟩
theorem wf_X0_37 : Cond.fieldLink RX0 37 (TX0 12).1 (TX0 12).2.1 (TX0 12).2.2.1 ∈ lw_all := List.mem_filter.mpr ⟨List.mem_append_right _ (List.mem_of_getElem? (i := 71) (by decide +kernel)), by decide⟩
theorem wf_X2_64 : Cond.fieldLink RX2 64 (TX0 12).1 (TX0 12).2.1 (TX0 12).2.2.1 ∈ lw_all := List.mem_filter.mpr ⟨List.mem_append_right _ (List.mem_of_getElem? (i := 72) (by decide +kernel)), by decide⟩
theorem wm_X2_19 : Cond.methodLink RX2 19 yX0_begin ∈ lw_all := List.mem_filter.mpr ⟨List.mem_append_right _ (List.mem_of_getElem? (i := 100) (by decide +kernel)), by decide⟩
theorem wn_yX0_begin : Cond.instanceMethod yX0_begin ∈ lw_all := List.mem_filter.mpr ⟨List.mem_append_right _ (List.mem_of_getElem? (i := 101) (by decide +kernel)), by decide⟩
theorem wo_yX0_begin : Cond.selects yX0_begin.cls yX0_begin yX0_begin ∈ lw_all := List.mem_filter.mpr ⟨List.mem_append_right _ (List.mem_of_getElem? (i := 102) (by decide +kernel)), by decide⟩
theorem wk_yX0_begin : Cond.code yX0_begin cX0_begin 3 none ∈ lw_all := List.mem_filter.mpr ⟨List.mem_append_right _ (List.mem_of_getElem? (i := 103) (by decide +kernel)), by decide⟩
theorem wm_X0_41 : Cond.methodLink RX0 41 yJ9_min_7cf53 ∈ lw_all := List.mem_filter.mpr ⟨List.mem_append_right _ (List.mem_of_getElem? (i := 104) (by decide +kernel)), by decide⟩
theorem ws_yJ9_min_7cf53 : Cond.static yJ9_min_7cf53 ∈ lw_all := List.mem_filter.mpr ⟨List.mem_append_right _ (List.mem_of_getElem? (i := 105) (by decide +kernel)), by decide⟩
theorem wk_yJ9_min_7cf53 : Cond.code yJ9_min_7cf53 cJ9_min_7cf53 2 (some .int) ∈ lw_all := List.mem_filter.mpr ⟨List.mem_append_right _ (List.mem_of_getElem? (i := 106) (by decide +kernel)), by decide⟩
theorem wm_X0_47 : Cond.methodLink RX0 47 yJ9_max_7cf53 ∈ lw_all := List.mem_filter.mpr ⟨List.mem_append_right _ (List.mem_of_getElem? (i := 107) (by decide +kernel)), by decide⟩
theorem ws_yJ9_max_7cf53 : Cond.static yJ9_max_7cf53 ∈ lw_all := List.mem_filter.mpr ⟨List.mem_append_right _ (List.mem_of_getElem? (i := 108) (by decide +kernel)), by decide⟩
theorem wk_yJ9_max_7cf53 : Cond.code yJ9_max_7cf53 cJ9_max_7cf53 2 (some .int) ∈ lw_all := List.mem_filter.mpr ⟨List.mem_append_right _ (List.mem_of_getElem? (i := 109) (by decide +kernel)), by decide⟩
theorem wm_X0_66 : Cond.methodLink RX0 66 yX1_clear ∈ lw_all := List.mem_filter.mpr ⟨List.mem_append_right _ (List.mem_of_getElem? (i := 110) (by decide +kernel)), by decide⟩
theorem wn_yX1_clear : Cond.instanceMethod yX1_clear ∈ lw_all := List.mem_filter.mpr ⟨List.mem_append_right _ (List.mem_of_getElem? (i := 111) (by decide +kernel)), by decide⟩
theorem wo_yX1_clear : Cond.selects yX1_clear.cls yX1_clear yX1_clear ∈ lw_all := List.mem_filter.mpr ⟨List.mem_append_right _ (List.mem_of_getElem? (i := 112) (by decide +kernel)), by decide⟩
theorem wk_yX1_clear : Cond.code yX1_clear cX1_clear 2 none ∈ lw_all := List.mem_filter.mpr ⟨List.mem_append_right _ (List.mem_of_getElem? (i := 113) (by decide +kernel)), by decide⟩
theorem wf_X2_10 : Cond.fieldLink RX2 10 (TX2 0).1 (TX2 0).2.1 (TX2 0).2.2.1 ∈ lw_all := List.mem_filter.mpr ⟨List.mem_append_right _ (List.mem_of_getElem? (i := 114) (by decide +kernel)), by decide⟩
theorem wf_X2_16 : Cond.fieldLink RX2 16 (TX2 1).1 (TX2 1).2.1 (TX2 1).2.2.1 ∈ lw_all := List.mem_filter.mpr ⟨List.mem_append_right _ (List.mem_of_getElem? (i := 115) (by decide +kernel)), by decide⟩
theorem wm_L_105 : Cond.methodLink RL 105 yX2_leader ∈ lw_all := List.mem_filter.mpr ⟨List.mem_append_right _ (List.mem_of_getElem? (i := 121) (by decide +kernel)), by decide⟩
theorem wn_yX2_leader : Cond.instanceMethod yX2_leader ∈ lw_all := List.mem_filter.mpr ⟨List.mem_append_right _ (List.mem_of_getElem? (i := 122) (by decide +kernel)), by decide⟩
theorem wo_yX2_leader : Cond.selects yX2_leader.cls yX2_leader yX2_leader ∈ lw_all := List.mem_filter.mpr ⟨List.mem_append_right _ (List.mem_of_getElem? (i := 123) (by decide +kernel)), by decide⟩
theorem wk_yX2_leader : Cond.code yX2_leader cX2_leader 3 (some .int) ∈ lw_all := List.mem_filter.mpr ⟨List.mem_append_right _ (List.mem_of_getElem? (i := 124) (by decide +kernel)), by decide⟩
theorem wm_X2_55 : Cond.methodLink RX2 55 yX0_leadsNow ∈ lw_all := List.mem_filter.mpr ⟨List.mem_append_right _ (List.mem_of_getElem? (i := 125) (by decide +kernel)), by decide⟩
theorem wn_yX0_leadsNow : Cond.instanceMethod yX0_leadsNow ∈ lw_all := List.mem_filter.mpr ⟨List.mem_append_right _ (List.mem_of_getElem? (i := 126) (by decide +kernel)), by decide⟩
theorem wo_yX0_leadsNow : Cond.selects yX0_leadsNow.cls yX0_leadsNow yX0_leadsNow ∈ lw_all := List.mem_filter.mpr ⟨List.mem_append_right _ (List.mem_of_getElem? (i := 127) (by decide +kernel)), by decide⟩
theorem wk_yX0_leadsNow : Cond.code yX0_leadsNow cX0_leadsNow 2 (some .boolean) ∈ lw_all := List.mem_filter.mpr ⟨List.mem_append_right _ (List.mem_of_getElem? (i := 128) (by decide +kernel)), by decide⟩
theorem wm_L_115 : Cond.methodLink RL 115 yX2_until ∈ lw_all := List.mem_filter.mpr ⟨List.mem_append_right _ (List.mem_of_getElem? (i := 129) (by decide +kernel)), by decide⟩
theorem wn_yX2_until : Cond.instanceMethod yX2_until ∈ lw_all := List.mem_filter.mpr ⟨List.mem_append_right _ (List.mem_of_getElem? (i := 130) (by decide +kernel)), by decide⟩
theorem wo_yX2_until : Cond.selects yX2_until.cls yX2_until yX2_until ∈ lw_all := List.mem_filter.mpr ⟨List.mem_append_right _ (List.mem_of_getElem? (i := 131) (by decide +kernel)), by decide⟩
theorem wk_yX2_until : Cond.code yX2_until cX2_until 2 (some .int) ∈ lw_all := List.mem_filter.mpr ⟨List.mem_append_right _ (List.mem_of_getElem? (i := 132) (by decide +kernel)), by decide⟩
theorem wm_X2_123 : Cond.methodLink RX2 123 yX0_copyFrom ∈ lw_all := List.mem_filter.mpr ⟨List.mem_append_right _ (List.mem_of_getElem? (i := 133) (by decide +kernel)), by decide⟩
theorem wn_yX0_copyFrom : Cond.instanceMethod yX0_copyFrom ∈ lw_all := List.mem_filter.mpr ⟨List.mem_append_right _ (List.mem_of_getElem? (i := 134) (by decide +kernel)), by decide⟩
theorem wo_yX0_copyFrom : Cond.selects yX0_copyFrom.cls yX0_copyFrom yX0_copyFrom ∈ lw_all := List.mem_filter.mpr ⟨List.mem_append_right _ (List.mem_of_getElem? (i := 135) (by decide +kernel)), by decide⟩
theorem wk_yX0_copyFrom : Cond.code yX0_copyFrom cX0_copyFrom 3 none ∈ lw_all := List.mem_filter.mpr ⟨List.mem_append_right _ (List.mem_of_getElem? (i := 136) (by decide +kernel)), by decide⟩
theorem wm_X0_70 : Cond.methodLink RX0 70 yX1_copyFrom ∈ lw_all := List.mem_filter.mpr ⟨List.mem_append_right _ (List.mem_of_getElem? (i := 137) (by decide +kernel)), by decide⟩
theorem wn_yX1_copyFrom : Cond.instanceMethod yX1_copyFrom ∈ lw_all := List.mem_filter.mpr ⟨List.mem_append_right _ (List.mem_of_getElem? (i := 138) (by decide +kernel)), by decide⟩
theorem wo_yX1_copyFrom : Cond.selects yX1_copyFrom.cls yX1_copyFrom yX1_copyFrom ∈ lw_all := List.mem_filter.mpr ⟨List.mem_append_right _ (List.mem_of_getElem? (i := 139) (by decide +kernel)), by decide⟩
theorem wk_yX1_copyFrom : Cond.code yX1_copyFrom cX1_copyFrom 2 none ∈ lw_all := List.mem_filter.mpr ⟨List.mem_append_right _ (List.mem_of_getElem? (i := 140) (by decide +kernel)), by decide⟩
theorem wm_X1_24 : Cond.methodLink RX1 24 arraycopyName ∈ lw_all := List.mem_filter.mpr ⟨List.mem_append_right _ (List.mem_of_getElem? (i := 141) (by decide +kernel)), by decide⟩
theorem ws_arraycopyName : Cond.static arraycopyName ∈ lw_all := List.mem_filter.mpr ⟨List.mem_append_right _ (List.mem_of_getElem? (i := 142) (by decide +kernel)), by decide⟩
theorem wnat_arraycopyName : Cond.native arraycopyName ∈ lw_all := List.mem_filter.mpr ⟨List.mem_append_right _ (List.mem_of_getElem? (i := 143) (by decide +kernel)), by decide⟩
theorem wm_X2_127 : Cond.methodLink RX2 127 yX0_isLed ∈ lw_all := List.mem_filter.mpr ⟨List.mem_append_right _ (List.mem_of_getElem? (i := 144) (by decide +kernel)), by decide⟩
theorem wn_yX0_isLed : Cond.instanceMethod yX0_isLed ∈ lw_all := List.mem_filter.mpr ⟨List.mem_append_right _ (List.mem_of_getElem? (i := 145) (by decide +kernel)), by decide⟩
theorem wo_yX0_isLed : Cond.selects yX0_isLed.cls yX0_isLed yX0_isLed ∈ lw_all := List.mem_filter.mpr ⟨List.mem_append_right _ (List.mem_of_getElem? (i := 146) (by decide +kernel)), by decide⟩
theorem wk_yX0_isLed : Cond.code yX0_isLed cX0_isLed 2 (some .boolean) ∈ lw_all := List.mem_filter.mpr ⟨List.mem_append_right _ (List.mem_of_getElem? (i := 147) (by decide +kernel)), by decide⟩
theorem wm_X0_89 : Cond.methodLink RX0 89 yX0_leadsNow ∈ lw_all := List.mem_filter.mpr ⟨List.mem_append_right _ (List.mem_of_getElem? (i := 148) (by decide +kernel)), by decide⟩
theorem wm_X0_140 : Cond.methodLink RX0 140 yX0_upIn ∈ lw_all := List.mem_filter.mpr ⟨List.mem_append_right _ (List.mem_of_getElem? (i := 149) (by decide +kernel)), by decide⟩
theorem wn_yX0_upIn : Cond.instanceMethod yX0_upIn ∈ lw_all := List.mem_filter.mpr ⟨List.mem_append_right _ (List.mem_of_getElem? (i := 150) (by decide +kernel)), by decide⟩
theorem wo_yX0_upIn : Cond.selects yX0_upIn.cls yX0_upIn yX0_upIn ∈ lw_all := List.mem_filter.mpr ⟨List.mem_append_right _ (List.mem_of_getElem? (i := 151) (by decide +kernel)), by decide⟩
theorem wk_yX0_upIn : Cond.code yX0_upIn cX0_upIn 4 (some .int) ∈ lw_all := List.mem_filter.mpr ⟨List.mem_append_right _ (List.mem_of_getElem? (i := 152) (by decide +kernel)), by decide⟩
theorem wm_X0_106 : Cond.methodLink RX0 106 yX0_isMoreThanHalf ∈ lw_all := List.mem_filter.mpr ⟨List.mem_append_right _ (List.mem_of_getElem? (i := 153) (by decide +kernel)), by decide⟩
theorem wn_yX0_isMoreThanHalf : Cond.instanceMethod yX0_isMoreThanHalf ∈ lw_all := List.mem_filter.mpr ⟨List.mem_append_right _ (List.mem_of_getElem? (i := 154) (by decide +kernel)), by decide⟩
theorem wo_yX0_isMoreThanHalf : Cond.selects yX0_isMoreThanHalf.cls yX0_isMoreThanHalf yX0_isMoreThanHalf ∈ lw_all := List.mem_filter.mpr ⟨List.mem_append_right _ (List.mem_of_getElem? (i := 155) (by decide +kernel)), by decide⟩
theorem wk_yX0_isMoreThanHalf : Cond.code yX0_isMoreThanHalf cX0_isMoreThanHalf 2 (some .boolean) ∈ lw_all := List.mem_filter.mpr ⟨List.mem_append_right _ (List.mem_of_getElem? (i := 156) (by decide +kernel)), by decide⟩
theorem wm_X2_89 : Cond.methodLink RX2 89 yX0_passHours ∈ lw_all := List.mem_filter.mpr ⟨List.mem_append_right _ (List.mem_of_getElem? (i := 157) (by decide +kernel)), by decide⟩
theorem wn_yX0_passHours : Cond.instanceMethod yX0_passHours ∈ lw_all := List.mem_filter.mpr ⟨List.mem_append_right _ (List.mem_of_getElem? (i := 158) (by decide +kernel)), by decide⟩
theorem wo_yX0_passHours : Cond.selects yX0_passHours.cls yX0_passHours yX0_passHours ∈ lw_all := List.mem_filter.mpr ⟨List.mem_append_right _ (List.mem_of_getElem? (i := 159) (by decide +kernel)), by decide⟩
theorem wk_yX0_passHours : Cond.code yX0_passHours cX0_passHours 3 none ∈ lw_all := List.mem_filter.mpr ⟨List.mem_append_right _ (List.mem_of_getElem? (i := 160) (by decide +kernel)), by decide⟩
theorem wm_X0_77 : Cond.methodLink RX0 77 yX0_runClocks ∈ lw_all := List.mem_filter.mpr ⟨List.mem_append_right _ (List.mem_of_getElem? (i := 161) (by decide +kernel)), by decide⟩
theorem wn_yX0_runClocks : Cond.instanceMethod yX0_runClocks ∈ lw_all := List.mem_filter.mpr ⟨List.mem_append_right _ (List.mem_of_getElem? (i := 162) (by decide +kernel)), by decide⟩
theorem wo_yX0_runClocks : Cond.selects yX0_runClocks.cls yX0_runClocks yX0_runClocks ∈ lw_all := List.mem_filter.mpr ⟨List.mem_append_right _ (List.mem_of_getElem? (i := 163) (by decide +kernel)), by decide⟩
theorem wk_yX0_runClocks : Cond.code yX0_runClocks cX0_runClocks 2 none ∈ lw_all := List.mem_filter.mpr ⟨List.mem_append_right _ (List.mem_of_getElem? (i := 164) (by decide +kernel)), by decide⟩
theorem wm_X0_86 : Cond.methodLink RX0 86 yX0_stand ∈ lw_all := List.mem_filter.mpr ⟨List.mem_append_right _ (List.mem_of_getElem? (i := 165) (by decide +kernel)), by decide⟩
theorem wn_yX0_stand : Cond.instanceMethod yX0_stand ∈ lw_all := List.mem_filter.mpr ⟨List.mem_append_right _ (List.mem_of_getElem? (i := 166) (by decide +kernel)), by decide⟩
theorem wo_yX0_stand : Cond.selects yX0_stand.cls yX0_stand yX0_stand ∈ lw_all := List.mem_filter.mpr ⟨List.mem_append_right _ (List.mem_of_getElem? (i := 167) (by decide +kernel)), by decide⟩
theorem wk_yX0_stand : Cond.code yX0_stand cX0_stand 4 none ∈ lw_all := List.mem_filter.mpr ⟨List.mem_append_right _ (List.mem_of_getElem? (i := 168) (by decide +kernel)), by decide⟩
theorem wm_X0_99 : Cond.methodLink RX0 99 yX0_hear ∈ lw_all := List.mem_filter.mpr ⟨List.mem_append_right _ (List.mem_of_getElem? (i := 169) (by decide +kernel)), by decide⟩
theorem wn_yX0_hear : Cond.instanceMethod yX0_hear ∈ lw_all := List.mem_filter.mpr ⟨List.mem_append_right _ (List.mem_of_getElem? (i := 170) (by decide +kernel)), by decide⟩
theorem wo_yX0_hear : Cond.selects yX0_hear.cls yX0_hear yX0_hear ∈ lw_all := List.mem_filter.mpr ⟨List.mem_append_right _ (List.mem_of_getElem? (i := 171) (by decide +kernel)), by decide⟩
theorem wk_yX0_hear : Cond.code yX0_hear cX0_hear 3 (some .boolean) ∈ lw_all := List.mem_filter.mpr ⟨List.mem_append_right _ (List.mem_of_getElem? (i := 172) (by decide +kernel)), by decide⟩
theorem wm_X0_103 : Cond.methodLink RX0 103 yX0_givesVote ∈ lw_all := List.mem_filter.mpr ⟨List.mem_append_right _ (List.mem_of_getElem? (i := 173) (by decide +kernel)), by decide⟩
theorem wn_yX0_givesVote : Cond.instanceMethod yX0_givesVote ∈ lw_all := List.mem_filter.mpr ⟨List.mem_append_right _ (List.mem_of_getElem? (i := 174) (by decide +kernel)), by decide⟩
theorem wo_yX0_givesVote : Cond.selects yX0_givesVote.cls yX0_givesVote yX0_givesVote ∈ lw_all := List.mem_filter.mpr ⟨List.mem_append_right _ (List.mem_of_getElem? (i := 175) (by decide +kernel)), by decide⟩
theorem wk_yX0_givesVote : Cond.code yX0_givesVote cX0_givesVote 4 (some .boolean) ∈ lw_all := List.mem_filter.mpr ⟨List.mem_append_right _ (List.mem_of_getElem? (i := 176) (by decide +kernel)), by decide⟩
theorem wm_X0_109 : Cond.methodLink RX0 109 yX0_meetTerms ∈ lw_all := List.mem_filter.mpr ⟨List.mem_append_right _ (List.mem_of_getElem? (i := 177) (by decide +kernel)), by decide⟩
theorem wn_yX0_meetTerms : Cond.instanceMethod yX0_meetTerms ∈ lw_all := List.mem_filter.mpr ⟨List.mem_append_right _ (List.mem_of_getElem? (i := 178) (by decide +kernel)), by decide⟩
theorem wo_yX0_meetTerms : Cond.selects yX0_meetTerms.cls yX0_meetTerms yX0_meetTerms ∈ lw_all := List.mem_filter.mpr ⟨List.mem_append_right _ (List.mem_of_getElem? (i := 179) (by decide +kernel)), by decide⟩
theorem wk_yX0_meetTerms : Cond.code yX0_meetTerms cX0_meetTerms 3 (some .boolean) ∈ lw_all := List.mem_filter.mpr ⟨List.mem_append_right _ (List.mem_of_getElem? (i := 180) (by decide +kernel)), by decide⟩
theorem wm_X0_125 : Cond.methodLink RX0 125 yX0_takeTerm ∈ lw_all := List.mem_filter.mpr ⟨List.mem_append_right _ (List.mem_of_getElem? (i := 181) (by decide +kernel)), by decide⟩
theorem wn_yX0_takeTerm : Cond.instanceMethod yX0_takeTerm ∈ lw_all := List.mem_filter.mpr ⟨List.mem_append_right _ (List.mem_of_getElem? (i := 182) (by decide +kernel)), by decide⟩
theorem wo_yX0_takeTerm : Cond.selects yX0_takeTerm.cls yX0_takeTerm yX0_takeTerm ∈ lw_all := List.mem_filter.mpr ⟨List.mem_append_right _ (List.mem_of_getElem? (i := 183) (by decide +kernel)), by decide⟩
theorem wk_yX0_takeTerm : Cond.code yX0_takeTerm cX0_takeTerm 3 none ∈ lw_all := List.mem_filter.mpr ⟨List.mem_append_right _ (List.mem_of_getElem? (i := 184) (by decide +kernel)), by decide⟩
theorem wm_X0_112 : Cond.methodLink RX0 112 yX1_asNew ∈ lw_all := List.mem_filter.mpr ⟨List.mem_append_right _ (List.mem_of_getElem? (i := 185) (by decide +kernel)), by decide⟩
theorem wn_yX1_asNew : Cond.instanceMethod yX1_asNew ∈ lw_all := List.mem_filter.mpr ⟨List.mem_append_right _ (List.mem_of_getElem? (i := 186) (by decide +kernel)), by decide⟩
theorem wo_yX1_asNew : Cond.selects yX1_asNew.cls yX1_asNew yX1_asNew ∈ lw_all := List.mem_filter.mpr ⟨List.mem_append_right _ (List.mem_of_getElem? (i := 187) (by decide +kernel)), by decide⟩
theorem wk_yX1_asNew : Cond.code yX1_asNew cX1_asNew 5 (some .boolean) ∈ lw_all := List.mem_filter.mpr ⟨List.mem_append_right _ (List.mem_of_getElem? (i := 188) (by decide +kernel)), by decide⟩
theorem wm_X1_36 : Cond.methodLink RX1 36 yX1_lastTerm ∈ lw_all := List.mem_filter.mpr ⟨List.mem_append_right _ (List.mem_of_getElem? (i := 189) (by decide +kernel)), by decide⟩
theorem wn_yX1_lastTerm : Cond.instanceMethod yX1_lastTerm ∈ lw_all := List.mem_filter.mpr ⟨List.mem_append_right _ (List.mem_of_getElem? (i := 190) (by decide +kernel)), by decide⟩
theorem wo_yX1_lastTerm : Cond.selects yX1_lastTerm.cls yX1_lastTerm yX1_lastTerm ∈ lw_all := List.mem_filter.mpr ⟨List.mem_append_right _ (List.mem_of_getElem? (i := 191) (by decide +kernel)), by decide⟩
theorem wk_yX1_lastTerm : Cond.code yX1_lastTerm cX1_lastTerm 2 (some .int) ∈ lw_all := List.mem_filter.mpr ⟨List.mem_append_right _ (List.mem_of_getElem? (i := 192) (by decide +kernel)), by decide⟩
theorem wm_X0_80 : Cond.methodLink RX0 80 yX0_tellAll ∈ lw_all := List.mem_filter.mpr ⟨List.mem_append_right _ (List.mem_of_getElem? (i := 193) (by decide +kernel)), by decide⟩
theorem wn_yX0_tellAll : Cond.instanceMethod yX0_tellAll ∈ lw_all := List.mem_filter.mpr ⟨List.mem_append_right _ (List.mem_of_getElem? (i := 194) (by decide +kernel)), by decide⟩
theorem wo_yX0_tellAll : Cond.selects yX0_tellAll.cls yX0_tellAll yX0_tellAll ∈ lw_all := List.mem_filter.mpr ⟨List.mem_append_right _ (List.mem_of_getElem? (i := 195) (by decide +kernel)), by decide⟩
theorem wk_yX0_tellAll : Cond.code yX0_tellAll cX0_tellAll 2 none ∈ lw_all := List.mem_filter.mpr ⟨List.mem_append_right _ (List.mem_of_getElem? (i := 196) (by decide +kernel)), by decide⟩
theorem wm_X0_93 : Cond.methodLink RX0 93 yX0_tellOthers ∈ lw_all := List.mem_filter.mpr ⟨List.mem_append_right _ (List.mem_of_getElem? (i := 197) (by decide +kernel)), by decide⟩
theorem wn_yX0_tellOthers : Cond.instanceMethod yX0_tellOthers ∈ lw_all := List.mem_filter.mpr ⟨List.mem_append_right _ (List.mem_of_getElem? (i := 198) (by decide +kernel)), by decide⟩
theorem wo_yX0_tellOthers : Cond.selects yX0_tellOthers.cls yX0_tellOthers yX0_tellOthers ∈ lw_all := List.mem_filter.mpr ⟨List.mem_append_right _ (List.mem_of_getElem? (i := 199) (by decide +kernel)), by decide⟩
theorem wk_yX0_tellOthers : Cond.code yX0_tellOthers cX0_tellOthers 3 none ∈ lw_all := List.mem_filter.mpr ⟨List.mem_append_right _ (List.mem_of_getElem? (i := 200) (by decide +kernel)), by decide⟩
theorem wm_X0_115 : Cond.methodLink RX0 115 yX0_tell ∈ lw_all := List.mem_filter.mpr ⟨List.mem_append_right _ (List.mem_of_getElem? (i := 201) (by decide +kernel)), by decide⟩
theorem wn_yX0_tell : Cond.instanceMethod yX0_tell ∈ lw_all := List.mem_filter.mpr ⟨List.mem_append_right _ (List.mem_of_getElem? (i := 202) (by decide +kernel)), by decide⟩
theorem wo_yX0_tell : Cond.selects yX0_tell.cls yX0_tell yX0_tell ∈ lw_all := List.mem_filter.mpr ⟨List.mem_append_right _ (List.mem_of_getElem? (i := 203) (by decide +kernel)), by decide⟩
theorem wk_yX0_tell : Cond.code yX0_tell cX0_tell 3 none ∈ lw_all := List.mem_filter.mpr ⟨List.mem_append_right _ (List.mem_of_getElem? (i := 204) (by decide +kernel)), by decide⟩
theorem wm_X0_119 : Cond.methodLink RX0 119 yX1_mend ∈ lw_all := List.mem_filter.mpr ⟨List.mem_append_right _ (List.mem_of_getElem? (i := 205) (by decide +kernel)), by decide⟩
theorem wn_yX1_mend : Cond.instanceMethod yX1_mend ∈ lw_all := List.mem_filter.mpr ⟨List.mem_append_right _ (List.mem_of_getElem? (i := 206) (by decide +kernel)), by decide⟩
theorem wo_yX1_mend : Cond.selects yX1_mend.cls yX1_mend yX1_mend ∈ lw_all := List.mem_filter.mpr ⟨List.mem_append_right _ (List.mem_of_getElem? (i := 207) (by decide +kernel)), by decide⟩
theorem wk_yX1_mend : Cond.code yX1_mend cX1_mend 4 (some .boolean) ∈ lw_all := List.mem_filter.mpr ⟨List.mem_append_right _ (List.mem_of_getElem? (i := 208) (by decide +kernel)), by decide⟩
theorem wm_X1_40 : Cond.methodLink RX1 40 yX1_agreement ∈ lw_all := List.mem_filter.mpr ⟨List.mem_append_right _ (List.mem_of_getElem? (i := 209) (by decide +kernel)), by decide⟩
theorem wn_yX1_agreement : Cond.instanceMethod yX1_agreement ∈ lw_all := List.mem_filter.mpr ⟨List.mem_append_right _ (List.mem_of_getElem? (i := 210) (by decide +kernel)), by decide⟩
theorem wo_yX1_agreement : Cond.selects yX1_agreement.cls yX1_agreement yX1_agreement ∈ lw_all := List.mem_filter.mpr ⟨List.mem_append_right _ (List.mem_of_getElem? (i := 211) (by decide +kernel)), by decide⟩
theorem wk_yX1_agreement : Cond.code yX1_agreement cX1_agreement 7 (some .int) ∈ lw_all := List.mem_filter.mpr ⟨List.mem_append_right _ (List.mem_of_getElem? (i := 212) (by decide +kernel)), by decide⟩
theorem wm_X1_30 : Cond.methodLink RX1 30 yJ9_min_7cf53 ∈ lw_all := List.mem_filter.mpr ⟨List.mem_append_right _ (List.mem_of_getElem? (i := 213) (by decide +kernel)), by decide⟩
theorem wm_X1_43 : Cond.methodLink RX1 43 yX1_loseLast ∈ lw_all := List.mem_filter.mpr ⟨List.mem_append_right _ (List.mem_of_getElem? (i := 214) (by decide +kernel)), by decide⟩
theorem wn_yX1_loseLast : Cond.instanceMethod yX1_loseLast ∈ lw_all := List.mem_filter.mpr ⟨List.mem_append_right _ (List.mem_of_getElem? (i := 215) (by decide +kernel)), by decide⟩
theorem wo_yX1_loseLast : Cond.selects yX1_loseLast.cls yX1_loseLast yX1_loseLast ∈ lw_all := List.mem_filter.mpr ⟨List.mem_append_right _ (List.mem_of_getElem? (i := 216) (by decide +kernel)), by decide⟩
theorem wk_yX1_loseLast : Cond.code yX1_loseLast cX1_loseLast 2 none ∈ lw_all := List.mem_filter.mpr ⟨List.mem_append_right _ (List.mem_of_getElem? (i := 217) (by decide +kernel)), by decide⟩
theorem wm_X1_47 : Cond.methodLink RX1 47 yX1_termAt ∈ lw_all := List.mem_filter.mpr ⟨List.mem_append_right _ (List.mem_of_getElem? (i := 218) (by decide +kernel)), by decide⟩
theorem wn_yX1_termAt : Cond.instanceMethod yX1_termAt ∈ lw_all := List.mem_filter.mpr ⟨List.mem_append_right _ (List.mem_of_getElem? (i := 219) (by decide +kernel)), by decide⟩
theorem wo_yX1_termAt : Cond.selects yX1_termAt.cls yX1_termAt yX1_termAt ∈ lw_all := List.mem_filter.mpr ⟨List.mem_append_right _ (List.mem_of_getElem? (i := 220) (by decide +kernel)), by decide⟩
theorem wk_yX1_termAt : Cond.code yX1_termAt cX1_termAt 3 (some .int) ∈ lw_all := List.mem_filter.mpr ⟨List.mem_append_right _ (List.mem_of_getElem? (i := 221) (by decide +kernel)), by decide⟩
theorem wm_X1_50 : Cond.methodLink RX1 50 yX1_fishAt ∈ lw_all := List.mem_filter.mpr ⟨List.mem_append_right _ (List.mem_of_getElem? (i := 222) (by decide +kernel)), by decide⟩
theorem wn_yX1_fishAt : Cond.instanceMethod yX1_fishAt ∈ lw_all := List.mem_filter.mpr ⟨List.mem_append_right _ (List.mem_of_getElem? (i := 223) (by decide +kernel)), by decide⟩
theorem wo_yX1_fishAt : Cond.selects yX1_fishAt.cls yX1_fishAt yX1_fishAt ∈ lw_all := List.mem_filter.mpr ⟨List.mem_append_right _ (List.mem_of_getElem? (i := 224) (by decide +kernel)), by decide⟩
theorem wk_yX1_fishAt : Cond.code yX1_fishAt cX1_fishAt 3 (some .int) ∈ lw_all := List.mem_filter.mpr ⟨List.mem_append_right _ (List.mem_of_getElem? (i := 225) (by decide +kernel)), by decide⟩
theorem wm_X1_53 : Cond.methodLink RX1 53 yX1_append ∈ lw_all := List.mem_filter.mpr ⟨List.mem_append_right _ (List.mem_of_getElem? (i := 226) (by decide +kernel)), by decide⟩
theorem wn_yX1_append : Cond.instanceMethod yX1_append ∈ lw_all := List.mem_filter.mpr ⟨List.mem_append_right _ (List.mem_of_getElem? (i := 227) (by decide +kernel)), by decide⟩
theorem wo_yX1_append : Cond.selects yX1_append.cls yX1_append yX1_append ∈ lw_all := List.mem_filter.mpr ⟨List.mem_append_right _ (List.mem_of_getElem? (i := 228) (by decide +kernel)), by decide⟩
theorem wk_yX1_append : Cond.code yX1_append cX1_append 5 none ∈ lw_all := List.mem_filter.mpr ⟨List.mem_append_right _ (List.mem_of_getElem? (i := 229) (by decide +kernel)), by decide⟩
theorem wm_X0_122 : Cond.methodLink RX0 122 yX1_learnCommitted ∈ lw_all := List.mem_filter.mpr ⟨List.mem_append_right _ (List.mem_of_getElem? (i := 230) (by decide +kernel)), by decide⟩
theorem wn_yX1_learnCommitted : Cond.instanceMethod yX1_learnCommitted ∈ lw_all := List.mem_filter.mpr ⟨List.mem_append_right _ (List.mem_of_getElem? (i := 231) (by decide +kernel)), by decide⟩
theorem wo_yX1_learnCommitted : Cond.selects yX1_learnCommitted.cls yX1_learnCommitted yX1_learnCommitted ∈ lw_all := List.mem_filter.mpr ⟨List.mem_append_right _ (List.mem_of_getElem? (i := 232) (by decide +kernel)), by decide⟩
theorem wk_yX1_learnCommitted : Cond.code yX1_learnCommitted cX1_learnCommitted 4 none ∈ lw_all := List.mem_filter.mpr ⟨List.mem_append_right _ (List.mem_of_getElem? (i := 233) (by decide +kernel)), by decide⟩
theorem wm_X1_57 : Cond.methodLink RX1 57 yJ9_max_7cf53 ∈ lw_all := List.mem_filter.mpr ⟨List.mem_append_right _ (List.mem_of_getElem? (i := 234) (by decide +kernel)), by decide⟩
theorem wm_X0_83 : Cond.methodLink RX0 83 yX0_commitAll ∈ lw_all := List.mem_filter.mpr ⟨List.mem_append_right _ (List.mem_of_getElem? (i := 235) (by decide +kernel)), by decide⟩
theorem wn_yX0_commitAll : Cond.instanceMethod yX0_commitAll ∈ lw_all := List.mem_filter.mpr ⟨List.mem_append_right _ (List.mem_of_getElem? (i := 236) (by decide +kernel)), by decide⟩
theorem wo_yX0_commitAll : Cond.selects yX0_commitAll.cls yX0_commitAll yX0_commitAll ∈ lw_all := List.mem_filter.mpr ⟨List.mem_append_right _ (List.mem_of_getElem? (i := 237) (by decide +kernel)), by decide⟩
theorem wk_yX0_commitAll : Cond.code yX0_commitAll cX0_commitAll 2 none ∈ lw_all := List.mem_filter.mpr ⟨List.mem_append_right _ (List.mem_of_getElem? (i := 238) (by decide +kernel)), by decide⟩
theorem wm_X0_96 : Cond.methodLink RX0 96 yX0_commit ∈ lw_all := List.mem_filter.mpr ⟨List.mem_append_right _ (List.mem_of_getElem? (i := 239) (by decide +kernel)), by decide⟩
theorem wn_yX0_commit : Cond.instanceMethod yX0_commit ∈ lw_all := List.mem_filter.mpr ⟨List.mem_append_right _ (List.mem_of_getElem? (i := 240) (by decide +kernel)), by decide⟩
theorem wo_yX0_commit : Cond.selects yX0_commit.cls yX0_commit yX0_commit ∈ lw_all := List.mem_filter.mpr ⟨List.mem_append_right _ (List.mem_of_getElem? (i := 241) (by decide +kernel)), by decide⟩
theorem wk_yX0_commit : Cond.code yX0_commit cX0_commit 3 none ∈ lw_all := List.mem_filter.mpr ⟨List.mem_append_right _ (List.mem_of_getElem? (i := 242) (by decide +kernel)), by decide⟩
theorem wm_X0_131 : Cond.methodLink RX0 131 yX1_termAt ∈ lw_all := List.mem_filter.mpr ⟨List.mem_append_right _ (List.mem_of_getElem? (i := 243) (by decide +kernel)), by decide⟩
theorem wm_X0_134 : Cond.methodLink RX0 134 yX0_hearersThatAgree ∈ lw_all := List.mem_filter.mpr ⟨List.mem_append_right _ (List.mem_of_getElem? (i := 244) (by decide +kernel)), by decide⟩
theorem wn_yX0_hearersThatAgree : Cond.instanceMethod yX0_hearersThatAgree ∈ lw_all := List.mem_filter.mpr ⟨List.mem_append_right _ (List.mem_of_getElem? (i := 245) (by decide +kernel)), by decide⟩
theorem wo_yX0_hearersThatAgree : Cond.selects yX0_hearersThatAgree.cls yX0_hearersThatAgree yX0_hearersThatAgree ∈ lw_all := List.mem_filter.mpr ⟨List.mem_append_right _ (List.mem_of_getElem? (i := 246) (by decide +kernel)), by decide⟩
theorem wk_yX0_hearersThatAgree : Cond.code yX0_hearersThatAgree cX0_hearersThatAgree 5 (some .int) ∈ lw_all := List.mem_filter.mpr ⟨List.mem_append_right _ (List.mem_of_getElem? (i := 247) (by decide +kernel)), by decide⟩
theorem wm_X0_137 : Cond.methodLink RX0 137 yX1_agreement ∈ lw_all := List.mem_filter.mpr ⟨List.mem_append_right _ (List.mem_of_getElem? (i := 248) (by decide +kernel)), by decide⟩
theorem wm_L_125 : Cond.methodLink RL 125 yX2_mean ∈ lw_all := List.mem_filter.mpr ⟨List.mem_append_right _ (List.mem_of_getElem? (i := 249) (by decide +kernel)), by decide⟩
theorem wn_yX2_mean : Cond.instanceMethod yX2_mean ∈ lw_all := List.mem_filter.mpr ⟨List.mem_append_right _ (List.mem_of_getElem? (i := 250) (by decide +kernel)), by decide⟩
theorem wo_yX2_mean : Cond.selects yX2_mean.cls yX2_mean yX2_mean ∈ lw_all := List.mem_filter.mpr ⟨List.mem_append_right _ (List.mem_of_getElem? (i := 251) (by decide +kernel)), by decide⟩
theorem wk_yX2_mean : Cond.code yX2_mean cX2_mean 3 (some .double) ∈ lw_all := List.mem_filter.mpr ⟨List.mem_append_right _ (List.mem_of_getElem? (i := 252) (by decide +kernel)), by decide⟩
theorem wm_L_130 : Cond.methodLink RL 130 yX2_digest ∈ lw_all := List.mem_filter.mpr ⟨List.mem_append_right _ (List.mem_of_getElem? (i := 253) (by decide +kernel)), by decide⟩
theorem wn_yX2_digest : Cond.instanceMethod yX2_digest ∈ lw_all := List.mem_filter.mpr ⟨List.mem_append_right _ (List.mem_of_getElem? (i := 254) (by decide +kernel)), by decide⟩
theorem wo_yX2_digest : Cond.selects yX2_digest.cls yX2_digest yX2_digest ∈ lw_all := List.mem_filter.mpr ⟨List.mem_append_right _ (List.mem_of_getElem? (i := 255) (by decide +kernel)), by decide⟩
theorem wk_yX2_digest : Cond.code yX2_digest cX2_digest 4 (some .long) ∈ lw_all := List.mem_filter.mpr ⟨List.mem_append_right _ (List.mem_of_getElem? (i := 256) (by decide +kernel)), by decide⟩
theorem wc_X2_145 : Cond.constantLong RX2 145 (1759) ∈ lw_all := List.mem_filter.mpr ⟨List.mem_append_right _ (List.mem_of_getElem? (i := 257) (by decide +kernel)), by decide⟩
theorem wc_X2_147 : Cond.constantLong RX2 147 (31) ∈ lw_all := List.mem_filter.mpr ⟨List.mem_append_right _ (List.mem_of_getElem? (i := 258) (by decide +kernel)), by decide⟩
theorem wm_X2_110 : Cond.methodLink RX2 110 yX0_ofFleet ∈ lw_all := List.mem_filter.mpr ⟨List.mem_append_right _ (List.mem_of_getElem? (i := 259) (by decide +kernel)), by decide⟩
theorem wn_yX0_ofFleet : Cond.instanceMethod yX0_ofFleet ∈ lw_all := List.mem_filter.mpr ⟨List.mem_append_right _ (List.mem_of_getElem? (i := 260) (by decide +kernel)), by decide⟩
theorem wo_yX0_ofFleet : Cond.selects yX0_ofFleet.cls yX0_ofFleet yX0_ofFleet ∈ lw_all := List.mem_filter.mpr ⟨List.mem_append_right _ (List.mem_of_getElem? (i := 261) (by decide +kernel)), by decide⟩
theorem wk_yX0_ofFleet : Cond.code yX0_ofFleet cX0_ofFleet 2 (some .int) ∈ lw_all := List.mem_filter.mpr ⟨List.mem_append_right _ (List.mem_of_getElem? (i := 262) (by decide +kernel)), by decide⟩
theorem wm_X0_153 : Cond.methodLink RX0 153 yX0_boatsUp ∈ lw_all := List.mem_filter.mpr ⟨List.mem_append_right _ (List.mem_of_getElem? (i := 263) (by decide +kernel)), by decide⟩
theorem wn_yX0_boatsUp : Cond.instanceMethod yX0_boatsUp ∈ lw_all := List.mem_filter.mpr ⟨List.mem_append_right _ (List.mem_of_getElem? (i := 264) (by decide +kernel)), by decide⟩
theorem wo_yX0_boatsUp : Cond.selects yX0_boatsUp.cls yX0_boatsUp yX0_boatsUp ∈ lw_all := List.mem_filter.mpr ⟨List.mem_append_right _ (List.mem_of_getElem? (i := 265) (by decide +kernel)), by decide⟩
theorem wk_yX0_boatsUp : Cond.code yX0_boatsUp cX0_boatsUp 3 (some .int) ∈ lw_all := List.mem_filter.mpr ⟨List.mem_append_right _ (List.mem_of_getElem? (i := 266) (by decide +kernel)), by decide⟩
theorem wm_X0_157 : Cond.methodLink RX0 157 yX0_boatsLeading ∈ lw_all := List.mem_filter.mpr ⟨List.mem_append_right _ (List.mem_of_getElem? (i := 267) (by decide +kernel)), by decide⟩
theorem wn_yX0_boatsLeading : Cond.instanceMethod yX0_boatsLeading ∈ lw_all := List.mem_filter.mpr ⟨List.mem_append_right _ (List.mem_of_getElem? (i := 268) (by decide +kernel)), by decide⟩
theorem wo_yX0_boatsLeading : Cond.selects yX0_boatsLeading.cls yX0_boatsLeading yX0_boatsLeading ∈ lw_all := List.mem_filter.mpr ⟨List.mem_append_right _ (List.mem_of_getElem? (i := 269) (by decide +kernel)), by decide⟩
theorem wk_yX0_boatsLeading : Cond.code yX0_boatsLeading cX0_boatsLeading 3 (some .int) ∈ lw_all := List.mem_filter.mpr ⟨List.mem_append_right _ (List.mem_of_getElem? (i := 270) (by decide +kernel)), by decide⟩
theorem wm_X0_160 : Cond.methodLink RX0 160 yX0_greatestTerm ∈ lw_all := List.mem_filter.mpr ⟨List.mem_append_right _ (List.mem_of_getElem? (i := 271) (by decide +kernel)), by decide⟩
theorem wn_yX0_greatestTerm : Cond.instanceMethod yX0_greatestTerm ∈ lw_all := List.mem_filter.mpr ⟨List.mem_append_right _ (List.mem_of_getElem? (i := 272) (by decide +kernel)), by decide⟩
theorem wo_yX0_greatestTerm : Cond.selects yX0_greatestTerm.cls yX0_greatestTerm yX0_greatestTerm ∈ lw_all := List.mem_filter.mpr ⟨List.mem_append_right _ (List.mem_of_getElem? (i := 273) (by decide +kernel)), by decide⟩
theorem wk_yX0_greatestTerm : Cond.code yX0_greatestTerm cX0_greatestTerm 3 (some .int) ∈ lw_all := List.mem_filter.mpr ⟨List.mem_append_right _ (List.mem_of_getElem? (i := 274) (by decide +kernel)), by decide⟩
theorem wm_X0_163 : Cond.methodLink RX0 163 yX0_mostKnown ∈ lw_all := List.mem_filter.mpr ⟨List.mem_append_right _ (List.mem_of_getElem? (i := 275) (by decide +kernel)), by decide⟩
theorem wn_yX0_mostKnown : Cond.instanceMethod yX0_mostKnown ∈ lw_all := List.mem_filter.mpr ⟨List.mem_append_right _ (List.mem_of_getElem? (i := 276) (by decide +kernel)), by decide⟩
theorem wo_yX0_mostKnown : Cond.selects yX0_mostKnown.cls yX0_mostKnown yX0_mostKnown ∈ lw_all := List.mem_filter.mpr ⟨List.mem_append_right _ (List.mem_of_getElem? (i := 277) (by decide +kernel)), by decide⟩
theorem wk_yX0_mostKnown : Cond.code yX0_mostKnown cX0_mostKnown 3 (some .int) ∈ lw_all := List.mem_filter.mpr ⟨List.mem_append_right _ (List.mem_of_getElem? (i := 278) (by decide +kernel)), by decide⟩
theorem wm_X0_166 : Cond.methodLink RX0 166 yX0_fewestKnown ∈ lw_all := List.mem_filter.mpr ⟨List.mem_append_right _ (List.mem_of_getElem? (i := 279) (by decide +kernel)), by decide⟩
theorem wn_yX0_fewestKnown : Cond.instanceMethod yX0_fewestKnown ∈ lw_all := List.mem_filter.mpr ⟨List.mem_append_right _ (List.mem_of_getElem? (i := 280) (by decide +kernel)), by decide⟩
theorem wo_yX0_fewestKnown : Cond.selects yX0_fewestKnown.cls yX0_fewestKnown yX0_fewestKnown ∈ lw_all := List.mem_filter.mpr ⟨List.mem_append_right _ (List.mem_of_getElem? (i := 281) (by decide +kernel)), by decide⟩
theorem wk_yX0_fewestKnown : Cond.code yX0_fewestKnown cX0_fewestKnown 3 (some .int) ∈ lw_all := List.mem_filter.mpr ⟨List.mem_append_right _ (List.mem_of_getElem? (i := 282) (by decide +kernel)), by decide⟩
theorem wm_X2_149 : Cond.methodLink RX2 149 yX2_digestOfBoat ∈ lw_all := List.mem_filter.mpr ⟨List.mem_append_right _ (List.mem_of_getElem? (i := 283) (by decide +kernel)), by decide⟩
theorem wn_yX2_digestOfBoat : Cond.instanceMethod yX2_digestOfBoat ∈ lw_all := List.mem_filter.mpr ⟨List.mem_append_right _ (List.mem_of_getElem? (i := 285) (by decide +kernel)), by decide⟩
theorem wk_yX2_digestOfBoat : Cond.code yX2_digestOfBoat cX2_digestOfBoat 8 (some .long) ∈ lw_all := List.mem_filter.mpr ⟨List.mem_append_right _ (List.mem_of_getElem? (i := 286) (by decide +kernel)), by decide⟩
theorem wm_X2_92 : Cond.methodLink RX2 92 yX0_ofBoat ∈ lw_all := List.mem_filter.mpr ⟨List.mem_append_right _ (List.mem_of_getElem? (i := 287) (by decide +kernel)), by decide⟩
theorem wn_yX0_ofBoat : Cond.instanceMethod yX0_ofBoat ∈ lw_all := List.mem_filter.mpr ⟨List.mem_append_right _ (List.mem_of_getElem? (i := 288) (by decide +kernel)), by decide⟩
theorem wo_yX0_ofBoat : Cond.selects yX0_ofBoat.cls yX0_ofBoat yX0_ofBoat ∈ lw_all := List.mem_filter.mpr ⟨List.mem_append_right _ (List.mem_of_getElem? (i := 289) (by decide +kernel)), by decide⟩
theorem wk_yX0_ofBoat : Cond.code yX0_ofBoat cX0_ofBoat 3 (some .int) ∈ lw_all := List.mem_filter.mpr ⟨List.mem_append_right _ (List.mem_of_getElem? (i := 290) (by decide +kernel)), by decide⟩
theorem wm_X0_144 : Cond.methodLink RX0 144 yX1_lastTerm ∈ lw_all := List.mem_filter.mpr ⟨List.mem_append_right _ (List.mem_of_getElem? (i := 291) (by decide +kernel)), by decide⟩
theorem wm_X2_96 : Cond.methodLink RX2 96 yX0_ofEntry ∈ lw_all := List.mem_filter.mpr ⟨List.mem_append_right _ (List.mem_of_getElem? (i := 292) (by decide +kernel)), by decide⟩
theorem wn_yX0_ofEntry : Cond.instanceMethod yX0_ofEntry ∈ lw_all := List.mem_filter.mpr ⟨List.mem_append_right _ (List.mem_of_getElem? (i := 293) (by decide +kernel)), by decide⟩
theorem wo_yX0_ofEntry : Cond.selects yX0_ofEntry.cls yX0_ofEntry yX0_ofEntry ∈ lw_all := List.mem_filter.mpr ⟨List.mem_append_right _ (List.mem_of_getElem? (i := 294) (by decide +kernel)), by decide⟩
theorem wk_yX0_ofEntry : Cond.code yX0_ofEntry cX0_ofEntry 4 (some .int) ∈ lw_all := List.mem_filter.mpr ⟨List.mem_append_right _ (List.mem_of_getElem? (i := 295) (by decide +kernel)), by decide⟩
theorem wm_X0_147 : Cond.methodLink RX0 147 yX1_fishAt ∈ lw_all := List.mem_filter.mpr ⟨List.mem_append_right _ (List.mem_of_getElem? (i := 296) (by decide +kernel)), by decide⟩
theorem wm_X0_150 : Cond.methodLink RX0 150 yX0_boatsThatAgree ∈ lw_all := List.mem_filter.mpr ⟨List.mem_append_right _ (List.mem_of_getElem? (i := 297) (by decide +kernel)), by decide⟩
theorem wn_yX0_boatsThatAgree : Cond.instanceMethod yX0_boatsThatAgree ∈ lw_all := List.mem_filter.mpr ⟨List.mem_append_right _ (List.mem_of_getElem? (i := 298) (by decide +kernel)), by decide⟩
theorem wo_yX0_boatsThatAgree : Cond.selects yX0_boatsThatAgree.cls yX0_boatsThatAgree yX0_boatsThatAgree ∈ lw_all := List.mem_filter.mpr ⟨List.mem_append_right _ (List.mem_of_getElem? (i := 299) (by decide +kernel)), by decide⟩
theorem wk_yX0_boatsThatAgree : Cond.code yX0_boatsThatAgree cX0_boatsThatAgree 5 (some .int) ∈ lw_all := List.mem_filter.mpr ⟨List.mem_append_right _ (List.mem_of_getElem? (i := 300) (by decide +kernel)), by decide⟩
theorem wm_L_66 : Cond.methodLink RL 66 yL_fleet ∈ lw_all := List.mem_filter.mpr ⟨List.mem_append_right _ (List.mem_of_getElem? (i := 301) (by decide +kernel)), by decide⟩
theorem ws_yL_fleet : Cond.static yL_fleet ∈ lw_all := List.mem_filter.mpr ⟨List.mem_append_right _ (List.mem_of_getElem? (i := 302) (by decide +kernel)), by decide⟩
theorem wk_yL_fleet : Cond.codeWith yL_fleet cL_fleet 4 (some .int) [(0, 9, 12, 13)] ∈ lw_all := List.mem_filter.mpr ⟨List.mem_append_right _ (List.mem_of_getElem? (i := 303) (by decide +kernel)), by decide⟩
theorem wl_L_13 : Cond.classLink RL 13 "java/lang/IllegalArgumentException" ∈ lw_all := List.mem_filter.mpr ⟨List.mem_append_right _ (List.mem_of_getElem? (i := 304) (by decide +kernel)), by decide⟩
theorem wm_L_7 : Cond.methodLink RL 7 yX2_fleet ∈ lw_all := List.mem_filter.mpr ⟨List.mem_append_right _ (List.mem_of_getElem? (i := 305) (by decide +kernel)), by decide⟩
theorem wn_yX2_fleet : Cond.instanceMethod yX2_fleet ∈ lw_all := List.mem_filter.mpr ⟨List.mem_append_right _ (List.mem_of_getElem? (i := 306) (by decide +kernel)), by decide⟩
theorem wo_yX2_fleet : Cond.selects yX2_fleet.cls yX2_fleet yX2_fleet ∈ lw_all := List.mem_filter.mpr ⟨List.mem_append_right _ (List.mem_of_getElem? (i := 307) (by decide +kernel)), by decide⟩
theorem wk_yX2_fleet : Cond.code yX2_fleet cX2_fleet 2 (some .int) ∈ lw_all := List.mem_filter.mpr ⟨List.mem_append_right _ (List.mem_of_getElem? (i := 308) (by decide +kernel)), by decide⟩
theorem wl_X2_23 : Cond.classLink RX2 23 "java/lang/IllegalArgumentException" ∈ lw_all := List.mem_filter.mpr ⟨List.mem_append_right _ (List.mem_of_getElem? (i := 309) (by decide +kernel)), by decide⟩
theorem wt_IllegalArgumentException : Cond.castable "java/lang/IllegalArgumentException" "java/lang/IllegalArgumentException" ∈ lw_env := List.mem_filter.mpr ⟨List.mem_append_right _ (List.mem_of_getElem? (i := 311) (by decide +kernel)), by decide⟩
theorem wm_X2_27 : Cond.methodLink RX2 27 (⟨"java/lang/IllegalArgumentException", "<init>", "(Ljava/lang/String;)V"⟩ : MethodName) ∈ lw_all := List.mem_filter.mpr ⟨List.mem_append_right _ (List.mem_of_getElem? (i := 351) (by decide +kernel)), by decide⟩
theorem wa_byte : Cond.arrayClass .byte ∈ lw_all := List.mem_filter.mpr ⟨List.mem_append_right _ (List.mem_of_getElem? (i := 376) (by decide +kernel)), by decide⟩
theorem wm_L_76 : Cond.methodLink RL 76 yL_setPatience ∈ lw_all := List.mem_filter.mpr ⟨List.mem_append_right _ (List.mem_of_getElem? (i := 377) (by decide +kernel)), by decide⟩
theorem ws_yL_setPatience : Cond.static yL_setPatience ∈ lw_all := List.mem_filter.mpr ⟨List.mem_append_right _ (List.mem_of_getElem? (i := 378) (by decide +kernel)), by decide⟩
theorem wk_yL_setPatience : Cond.codeWith yL_setPatience cL_setPatience 5 (some .int) [(0, 10, 13, 19), (0, 10, 17, 13)] ∈ lw_all := List.mem_filter.mpr ⟨List.mem_append_right _ (List.mem_of_getElem? (i := 379) (by decide +kernel)), by decide⟩
theorem wl_L_19 : Cond.classLink RL 19 "java/lang/IndexOutOfBoundsException" ∈ lw_all := List.mem_filter.mpr ⟨List.mem_append_right _ (List.mem_of_getElem? (i := 380) (by decide +kernel)), by decide⟩
theorem wm_L_15 : Cond.methodLink RL 15 yX2_setPatience ∈ lw_all := List.mem_filter.mpr ⟨List.mem_append_right _ (List.mem_of_getElem? (i := 381) (by decide +kernel)), by decide⟩
theorem wn_yX2_setPatience : Cond.instanceMethod yX2_setPatience ∈ lw_all := List.mem_filter.mpr ⟨List.mem_append_right _ (List.mem_of_getElem? (i := 382) (by decide +kernel)), by decide⟩
theorem wo_yX2_setPatience : Cond.selects yX2_setPatience.cls yX2_setPatience yX2_setPatience ∈ lw_all := List.mem_filter.mpr ⟨List.mem_append_right _ (List.mem_of_getElem? (i := 383) (by decide +kernel)), by decide⟩
theorem wk_yX2_setPatience : Cond.code yX2_setPatience cX2_setPatience 4 (some .int) ∈ lw_all := List.mem_filter.mpr ⟨List.mem_append_right _ (List.mem_of_getElem? (i := 384) (by decide +kernel)), by decide⟩
theorem wm_X2_30 : Cond.methodLink RX2 30 yX2_needBoat ∈ lw_all := List.mem_filter.mpr ⟨List.mem_append_right _ (List.mem_of_getElem? (i := 385) (by decide +kernel)), by decide⟩
theorem wn_yX2_needBoat : Cond.instanceMethod yX2_needBoat ∈ lw_all := List.mem_filter.mpr ⟨List.mem_append_right _ (List.mem_of_getElem? (i := 387) (by decide +kernel)), by decide⟩
theorem wk_yX2_needBoat : Cond.code yX2_needBoat cX2_needBoat 2 none ∈ lw_all := List.mem_filter.mpr ⟨List.mem_append_right _ (List.mem_of_getElem? (i := 388) (by decide +kernel)), by decide⟩
theorem wl_X2_131 : Cond.classLink RX2 131 "java/lang/IndexOutOfBoundsException" ∈ lw_all := List.mem_filter.mpr ⟨List.mem_append_right _ (List.mem_of_getElem? (i := 389) (by decide +kernel)), by decide⟩
theorem wt_IndexOutOfBoundsException : Cond.castable "java/lang/IndexOutOfBoundsException" "java/lang/IndexOutOfBoundsException" ∈ lw_env := List.mem_filter.mpr ⟨List.mem_append_right _ (List.mem_of_getElem? (i := 391) (by decide +kernel)), by decide⟩
theorem wm_X2_135 : Cond.methodLink RX2 135 (⟨"java/lang/IndexOutOfBoundsException", "<init>", "(Ljava/lang/String;)V"⟩ : MethodName) ∈ lw_all := List.mem_filter.mpr ⟨List.mem_append_right _ (List.mem_of_getElem? (i := 399) (by decide +kernel)), by decide⟩
theorem wm_L_80 : Cond.methodLink RL 80 yL_go ∈ lw_all := List.mem_filter.mpr ⟨List.mem_append_right _ (List.mem_of_getElem? (i := 406) (by decide +kernel)), by decide⟩
theorem ws_yL_go : Cond.static yL_go ∈ lw_all := List.mem_filter.mpr ⟨List.mem_append_right _ (List.mem_of_getElem? (i := 407) (by decide +kernel)), by decide⟩
theorem wk_yL_go : Cond.codeWith yL_go cL_go 5 (some .int) [(0, 10, 13, 19)] ∈ lw_all := List.mem_filter.mpr ⟨List.mem_append_right _ (List.mem_of_getElem? (i := 408) (by decide +kernel)), by decide⟩
theorem wm_L_21 : Cond.methodLink RL 21 yX2_go ∈ lw_all := List.mem_filter.mpr ⟨List.mem_append_right _ (List.mem_of_getElem? (i := 409) (by decide +kernel)), by decide⟩
theorem wn_yX2_go : Cond.instanceMethod yX2_go ∈ lw_all := List.mem_filter.mpr ⟨List.mem_append_right _ (List.mem_of_getElem? (i := 410) (by decide +kernel)), by decide⟩
theorem wo_yX2_go : Cond.selects yX2_go.cls yX2_go yX2_go ∈ lw_all := List.mem_filter.mpr ⟨List.mem_append_right _ (List.mem_of_getElem? (i := 411) (by decide +kernel)), by decide⟩
theorem wk_yX2_go : Cond.code yX2_go cX2_go 4 (some .int) ∈ lw_all := List.mem_filter.mpr ⟨List.mem_append_right _ (List.mem_of_getElem? (i := 412) (by decide +kernel)), by decide⟩
theorem wm_X2_39 : Cond.methodLink RX2 39 yX2_needBelow ∈ lw_all := List.mem_filter.mpr ⟨List.mem_append_right _ (List.mem_of_getElem? (i := 413) (by decide +kernel)), by decide⟩
theorem wn_yX2_needBelow : Cond.instanceMethod yX2_needBelow ∈ lw_all := List.mem_filter.mpr ⟨List.mem_append_right _ (List.mem_of_getElem? (i := 415) (by decide +kernel)), by decide⟩
theorem wk_yX2_needBelow : Cond.code yX2_needBelow cX2_needBelow 3 none ∈ lw_all := List.mem_filter.mpr ⟨List.mem_append_right _ (List.mem_of_getElem? (i := 416) (by decide +kernel)), by decide⟩
theorem wm_L_83 : Cond.methodLink RL 83 yL_sink ∈ lw_all := List.mem_filter.mpr ⟨List.mem_append_right _ (List.mem_of_getElem? (i := 418) (by decide +kernel)), by decide⟩
theorem ws_yL_sink : Cond.static yL_sink ∈ lw_all := List.mem_filter.mpr ⟨List.mem_append_right _ (List.mem_of_getElem? (i := 419) (by decide +kernel)), by decide⟩
theorem wk_yL_sink : Cond.codeWith yL_sink cL_sink 4 (some .int) [(0, 16, 19, 19)] ∈ lw_all := List.mem_filter.mpr ⟨List.mem_append_right _ (List.mem_of_getElem? (i := 420) (by decide +kernel)), by decide⟩
theorem wm_L_24 : Cond.methodLink RL 24 yX2_sink ∈ lw_all := List.mem_filter.mpr ⟨List.mem_append_right _ (List.mem_of_getElem? (i := 421) (by decide +kernel)), by decide⟩
theorem wn_yX2_sink : Cond.instanceMethod yX2_sink ∈ lw_all := List.mem_filter.mpr ⟨List.mem_append_right _ (List.mem_of_getElem? (i := 422) (by decide +kernel)), by decide⟩
theorem wo_yX2_sink : Cond.selects yX2_sink.cls yX2_sink yX2_sink ∈ lw_all := List.mem_filter.mpr ⟨List.mem_append_right _ (List.mem_of_getElem? (i := 423) (by decide +kernel)), by decide⟩
theorem wk_yX2_sink : Cond.code yX2_sink cX2_sink 2 (some .boolean) ∈ lw_all := List.mem_filter.mpr ⟨List.mem_append_right _ (List.mem_of_getElem? (i := 424) (by decide +kernel)), by decide⟩
theorem wm_X2_50 : Cond.methodLink RX2 50 yX0_raise ∈ lw_all := List.mem_filter.mpr ⟨List.mem_append_right _ (List.mem_of_getElem? (i := 425) (by decide +kernel)), by decide⟩
theorem wn_yX0_raise : Cond.instanceMethod yX0_raise ∈ lw_all := List.mem_filter.mpr ⟨List.mem_append_right _ (List.mem_of_getElem? (i := 426) (by decide +kernel)), by decide⟩
theorem wo_yX0_raise : Cond.selects yX0_raise.cls yX0_raise yX0_raise ∈ lw_all := List.mem_filter.mpr ⟨List.mem_append_right _ (List.mem_of_getElem? (i := 427) (by decide +kernel)), by decide⟩
theorem wk_yX0_raise : Cond.code yX0_raise cX0_raise 2 none ∈ lw_all := List.mem_filter.mpr ⟨List.mem_append_right _ (List.mem_of_getElem? (i := 428) (by decide +kernel)), by decide⟩
theorem wm_L_86 : Cond.methodLink RL 86 yL_write ∈ lw_all := List.mem_filter.mpr ⟨List.mem_append_right _ (List.mem_of_getElem? (i := 429) (by decide +kernel)), by decide⟩
theorem ws_yL_write : Cond.static yL_write ∈ lw_all := List.mem_filter.mpr ⟨List.mem_append_right _ (List.mem_of_getElem? (i := 430) (by decide +kernel)), by decide⟩
theorem wk_yL_write : Cond.codeWith yL_write cL_write 5 (some .int) [(0, 10, 13, 19), (0, 10, 17, 13), (0, 10, 21, 31)] ∈ lw_all := List.mem_filter.mpr ⟨List.mem_append_right _ (List.mem_of_getElem? (i := 431) (by decide +kernel)), by decide⟩
theorem wl_L_31 : Cond.classLink RL 31 "java/lang/IllegalStateException" ∈ lw_all := List.mem_filter.mpr ⟨List.mem_append_right _ (List.mem_of_getElem? (i := 432) (by decide +kernel)), by decide⟩
theorem wm_L_28 : Cond.methodLink RL 28 yX2_write ∈ lw_all := List.mem_filter.mpr ⟨List.mem_append_right _ (List.mem_of_getElem? (i := 433) (by decide +kernel)), by decide⟩
theorem wn_yX2_write : Cond.instanceMethod yX2_write ∈ lw_all := List.mem_filter.mpr ⟨List.mem_append_right _ (List.mem_of_getElem? (i := 434) (by decide +kernel)), by decide⟩
theorem wo_yX2_write : Cond.selects yX2_write.cls yX2_write yX2_write ∈ lw_all := List.mem_filter.mpr ⟨List.mem_append_right _ (List.mem_of_getElem? (i := 435) (by decide +kernel)), by decide⟩
theorem wk_yX2_write : Cond.code yX2_write cX2_write 3 (some .int) ∈ lw_all := List.mem_filter.mpr ⟨List.mem_append_right _ (List.mem_of_getElem? (i := 436) (by decide +kernel)), by decide⟩
theorem wl_X2_59 : Cond.classLink RX2 59 "java/lang/IllegalStateException" ∈ lw_all := List.mem_filter.mpr ⟨List.mem_append_right _ (List.mem_of_getElem? (i := 438) (by decide +kernel)), by decide⟩
theorem wt_IllegalStateException : Cond.castable "java/lang/IllegalStateException" "java/lang/IllegalStateException" ∈ lw_env := List.mem_filter.mpr ⟨List.mem_append_right _ (List.mem_of_getElem? (i := 440) (by decide +kernel)), by decide⟩
theorem wm_X2_63 : Cond.methodLink RX2 63 (⟨"java/lang/IllegalStateException", "<init>", "(Ljava/lang/String;)V"⟩ : MethodName) ∈ lw_all := List.mem_filter.mpr ⟨List.mem_append_right _ (List.mem_of_getElem? (i := 448) (by decide +kernel)), by decide⟩
theorem wm_X2_78 : Cond.methodLink RX2 78 yX1_append ∈ lw_all := List.mem_filter.mpr ⟨List.mem_append_right _ (List.mem_of_getElem? (i := 455) (by decide +kernel)), by decide⟩
theorem wm_L_89 : Cond.methodLink RL 89 yL_pass ∈ lw_all := List.mem_filter.mpr ⟨List.mem_append_right _ (List.mem_of_getElem? (i := 456) (by decide +kernel)), by decide⟩
theorem ws_yL_pass : Cond.static yL_pass ∈ lw_all := List.mem_filter.mpr ⟨List.mem_append_right _ (List.mem_of_getElem? (i := 457) (by decide +kernel)), by decide⟩
theorem wk_yL_pass : Cond.codeWith yL_pass cL_pass 4 (some .int) [(0, 9, 12, 13)] ∈ lw_all := List.mem_filter.mpr ⟨List.mem_append_right _ (List.mem_of_getElem? (i := 458) (by decide +kernel)), by decide⟩
theorem wm_L_33 : Cond.methodLink RL 33 yX2_pass ∈ lw_all := List.mem_filter.mpr ⟨List.mem_append_right _ (List.mem_of_getElem? (i := 459) (by decide +kernel)), by decide⟩
theorem wn_yX2_pass : Cond.instanceMethod yX2_pass ∈ lw_all := List.mem_filter.mpr ⟨List.mem_append_right _ (List.mem_of_getElem? (i := 460) (by decide +kernel)), by decide⟩
theorem wo_yX2_pass : Cond.selects yX2_pass.cls yX2_pass yX2_pass ∈ lw_all := List.mem_filter.mpr ⟨List.mem_append_right _ (List.mem_of_getElem? (i := 461) (by decide +kernel)), by decide⟩
theorem wk_yX2_pass : Cond.code yX2_pass cX2_pass 3 (some .int) ∈ lw_all := List.mem_filter.mpr ⟨List.mem_append_right _ (List.mem_of_getElem? (i := 462) (by decide +kernel)), by decide⟩
theorem wm_X2_82 : Cond.methodLink RX2 82 yX2_needHours ∈ lw_all := List.mem_filter.mpr ⟨List.mem_append_right _ (List.mem_of_getElem? (i := 463) (by decide +kernel)), by decide⟩
theorem wn_yX2_needHours : Cond.instanceMethod yX2_needHours ∈ lw_all := List.mem_filter.mpr ⟨List.mem_append_right _ (List.mem_of_getElem? (i := 465) (by decide +kernel)), by decide⟩
theorem wk_yX2_needHours : Cond.code yX2_needHours cX2_needHours 3 none ∈ lw_all := List.mem_filter.mpr ⟨List.mem_append_right _ (List.mem_of_getElem? (i := 466) (by decide +kernel)), by decide⟩
theorem wm_L_92 : Cond.methodLink RL 92 yL_told ∈ lw_all := List.mem_filter.mpr ⟨List.mem_append_right _ (List.mem_of_getElem? (i := 468) (by decide +kernel)), by decide⟩
theorem ws_yL_told : Cond.static yL_told ∈ lw_all := List.mem_filter.mpr ⟨List.mem_append_right _ (List.mem_of_getElem? (i := 469) (by decide +kernel)), by decide⟩
theorem wk_yL_told : Cond.codeWith yL_told cL_told 5 (some .int) [(0, 10, 13, 19)] ∈ lw_all := List.mem_filter.mpr ⟨List.mem_append_right _ (List.mem_of_getElem? (i := 470) (by decide +kernel)), by decide⟩
theorem wm_L_36 : Cond.methodLink RL 36 yX2_told ∈ lw_all := List.mem_filter.mpr ⟨List.mem_append_right _ (List.mem_of_getElem? (i := 471) (by decide +kernel)), by decide⟩
theorem wn_yX2_told : Cond.instanceMethod yX2_told ∈ lw_all := List.mem_filter.mpr ⟨List.mem_append_right _ (List.mem_of_getElem? (i := 472) (by decide +kernel)), by decide⟩
theorem wo_yX2_told : Cond.selects yX2_told.cls yX2_told yX2_told ∈ lw_all := List.mem_filter.mpr ⟨List.mem_append_right _ (List.mem_of_getElem? (i := 473) (by decide +kernel)), by decide⟩
theorem wk_yX2_told : Cond.code yX2_told cX2_told 3 (some .int) ∈ lw_all := List.mem_filter.mpr ⟨List.mem_append_right _ (List.mem_of_getElem? (i := 474) (by decide +kernel)), by decide⟩
theorem wm_L_95 : Cond.methodLink RL 95 yL_entry ∈ lw_all := List.mem_filter.mpr ⟨List.mem_append_right _ (List.mem_of_getElem? (i := 475) (by decide +kernel)), by decide⟩
theorem ws_yL_entry : Cond.static yL_entry ∈ lw_all := List.mem_filter.mpr ⟨List.mem_append_right _ (List.mem_of_getElem? (i := 476) (by decide +kernel)), by decide⟩
theorem wk_yL_entry : Cond.codeWith yL_entry cL_entry 6 (some .int) [(0, 12, 15, 19)] ∈ lw_all := List.mem_filter.mpr ⟨List.mem_append_right _ (List.mem_of_getElem? (i := 477) (by decide +kernel)), by decide⟩
theorem wm_L_39 : Cond.methodLink RL 39 yX2_entry ∈ lw_all := List.mem_filter.mpr ⟨List.mem_append_right _ (List.mem_of_getElem? (i := 478) (by decide +kernel)), by decide⟩
theorem wn_yX2_entry : Cond.instanceMethod yX2_entry ∈ lw_all := List.mem_filter.mpr ⟨List.mem_append_right _ (List.mem_of_getElem? (i := 479) (by decide +kernel)), by decide⟩
theorem wo_yX2_entry : Cond.selects yX2_entry.cls yX2_entry yX2_entry ∈ lw_all := List.mem_filter.mpr ⟨List.mem_append_right _ (List.mem_of_getElem? (i := 480) (by decide +kernel)), by decide⟩
theorem wk_yX2_entry : Cond.code yX2_entry cX2_entry 4 (some .int) ∈ lw_all := List.mem_filter.mpr ⟨List.mem_append_right _ (List.mem_of_getElem? (i := 481) (by decide +kernel)), by decide⟩
theorem wm_L_99 : Cond.methodLink RL 99 yL_agree ∈ lw_all := List.mem_filter.mpr ⟨List.mem_append_right _ (List.mem_of_getElem? (i := 482) (by decide +kernel)), by decide⟩
theorem ws_yL_agree : Cond.static yL_agree ∈ lw_all := List.mem_filter.mpr ⟨List.mem_append_right _ (List.mem_of_getElem? (i := 483) (by decide +kernel)), by decide⟩
theorem wk_yL_agree : Cond.codeWith yL_agree cL_agree 5 (some .int) [(0, 10, 13, 19)] ∈ lw_all := List.mem_filter.mpr ⟨List.mem_append_right _ (List.mem_of_getElem? (i := 484) (by decide +kernel)), by decide⟩
theorem wm_L_43 : Cond.methodLink RL 43 yX2_agree ∈ lw_all := List.mem_filter.mpr ⟨List.mem_append_right _ (List.mem_of_getElem? (i := 485) (by decide +kernel)), by decide⟩
theorem wn_yX2_agree : Cond.instanceMethod yX2_agree ∈ lw_all := List.mem_filter.mpr ⟨List.mem_append_right _ (List.mem_of_getElem? (i := 486) (by decide +kernel)), by decide⟩
theorem wo_yX2_agree : Cond.selects yX2_agree.cls yX2_agree yX2_agree ∈ lw_all := List.mem_filter.mpr ⟨List.mem_append_right _ (List.mem_of_getElem? (i := 487) (by decide +kernel)), by decide⟩
theorem wk_yX2_agree : Cond.code yX2_agree cX2_agree 3 (some .int) ∈ lw_all := List.mem_filter.mpr ⟨List.mem_append_right _ (List.mem_of_getElem? (i := 488) (by decide +kernel)), by decide⟩
theorem wm_X2_100 : Cond.methodLink RX2 100 yX1_agreement ∈ lw_all := List.mem_filter.mpr ⟨List.mem_append_right _ (List.mem_of_getElem? (i := 489) (by decide +kernel)), by decide⟩
theorem wm_L_102 : Cond.methodLink RL 102 yL_newer ∈ lw_all := List.mem_filter.mpr ⟨List.mem_append_right _ (List.mem_of_getElem? (i := 490) (by decide +kernel)), by decide⟩
theorem ws_yL_newer : Cond.static yL_newer ∈ lw_all := List.mem_filter.mpr ⟨List.mem_append_right _ (List.mem_of_getElem? (i := 491) (by decide +kernel)), by decide⟩
theorem wk_yL_newer : Cond.codeWith yL_newer cL_newer 5 (some .int) [(0, 17, 20, 19)] ∈ lw_all := List.mem_filter.mpr ⟨List.mem_append_right _ (List.mem_of_getElem? (i := 492) (by decide +kernel)), by decide⟩
theorem wm_L_46 : Cond.methodLink RL 46 yX2_newer ∈ lw_all := List.mem_filter.mpr ⟨List.mem_append_right _ (List.mem_of_getElem? (i := 493) (by decide +kernel)), by decide⟩
theorem wn_yX2_newer : Cond.instanceMethod yX2_newer ∈ lw_all := List.mem_filter.mpr ⟨List.mem_append_right _ (List.mem_of_getElem? (i := 494) (by decide +kernel)), by decide⟩
theorem wo_yX2_newer : Cond.selects yX2_newer.cls yX2_newer yX2_newer ∈ lw_all := List.mem_filter.mpr ⟨List.mem_append_right _ (List.mem_of_getElem? (i := 495) (by decide +kernel)), by decide⟩
theorem wk_yX2_newer : Cond.code yX2_newer cX2_newer 3 (some .boolean) ∈ lw_all := List.mem_filter.mpr ⟨List.mem_append_right _ (List.mem_of_getElem? (i := 496) (by decide +kernel)), by decide⟩
theorem wm_X2_103 : Cond.methodLink RX2 103 yX1_asNew ∈ lw_all := List.mem_filter.mpr ⟨List.mem_append_right _ (List.mem_of_getElem? (i := 497) (by decide +kernel)), by decide⟩
theorem wm_L_109 : Cond.methodLink RL 109 yL_count ∈ lw_all := List.mem_filter.mpr ⟨List.mem_append_right _ (List.mem_of_getElem? (i := 498) (by decide +kernel)), by decide⟩
theorem ws_yL_count : Cond.static yL_count ∈ lw_all := List.mem_filter.mpr ⟨List.mem_append_right _ (List.mem_of_getElem? (i := 499) (by decide +kernel)), by decide⟩
theorem wk_yL_count : Cond.codeWith yL_count cL_count 4 (some .int) [(0, 9, 12, 19)] ∈ lw_all := List.mem_filter.mpr ⟨List.mem_append_right _ (List.mem_of_getElem? (i := 500) (by decide +kernel)), by decide⟩
theorem wm_L_50 : Cond.methodLink RL 50 yX2_count ∈ lw_all := List.mem_filter.mpr ⟨List.mem_append_right _ (List.mem_of_getElem? (i := 501) (by decide +kernel)), by decide⟩
theorem wn_yX2_count : Cond.instanceMethod yX2_count ∈ lw_all := List.mem_filter.mpr ⟨List.mem_append_right _ (List.mem_of_getElem? (i := 502) (by decide +kernel)), by decide⟩
theorem wo_yX2_count : Cond.selects yX2_count.cls yX2_count yX2_count ∈ lw_all := List.mem_filter.mpr ⟨List.mem_append_right _ (List.mem_of_getElem? (i := 503) (by decide +kernel)), by decide⟩
theorem wk_yX2_count : Cond.code yX2_count cX2_count 2 (some .int) ∈ lw_all := List.mem_filter.mpr ⟨List.mem_append_right _ (List.mem_of_getElem? (i := 504) (by decide +kernel)), by decide⟩
theorem wm_L_112 : Cond.methodLink RL 112 yL_harbour ∈ lw_all := List.mem_filter.mpr ⟨List.mem_append_right _ (List.mem_of_getElem? (i := 505) (by decide +kernel)), by decide⟩
theorem ws_yL_harbour : Cond.static yL_harbour ∈ lw_all := List.mem_filter.mpr ⟨List.mem_append_right _ (List.mem_of_getElem? (i := 506) (by decide +kernel)), by decide⟩
theorem wk_yL_harbour : Cond.codeWith yL_harbour cL_harbour 5 (some .int) [(0, 10, 13, 19)] ∈ lw_all := List.mem_filter.mpr ⟨List.mem_append_right _ (List.mem_of_getElem? (i := 507) (by decide +kernel)), by decide⟩
theorem wm_L_53 : Cond.methodLink RL 53 yX2_harbour ∈ lw_all := List.mem_filter.mpr ⟨List.mem_append_right _ (List.mem_of_getElem? (i := 508) (by decide +kernel)), by decide⟩
theorem wn_yX2_harbour : Cond.instanceMethod yX2_harbour ∈ lw_all := List.mem_filter.mpr ⟨List.mem_append_right _ (List.mem_of_getElem? (i := 509) (by decide +kernel)), by decide⟩
theorem wo_yX2_harbour : Cond.selects yX2_harbour.cls yX2_harbour yX2_harbour ∈ lw_all := List.mem_filter.mpr ⟨List.mem_append_right _ (List.mem_of_getElem? (i := 510) (by decide +kernel)), by decide⟩
theorem wk_yX2_harbour : Cond.code yX2_harbour cX2_harbour 4 (some .int) ∈ lw_all := List.mem_filter.mpr ⟨List.mem_append_right _ (List.mem_of_getElem? (i := 511) (by decide +kernel)), by decide⟩
theorem wm_X2_114 : Cond.methodLink RX2 114 yX0_newestIn ∈ lw_all := List.mem_filter.mpr ⟨List.mem_append_right _ (List.mem_of_getElem? (i := 512) (by decide +kernel)), by decide⟩
theorem wn_yX0_newestIn : Cond.instanceMethod yX0_newestIn ∈ lw_all := List.mem_filter.mpr ⟨List.mem_append_right _ (List.mem_of_getElem? (i := 513) (by decide +kernel)), by decide⟩
theorem wo_yX0_newestIn : Cond.selects yX0_newestIn.cls yX0_newestIn yX0_newestIn ∈ lw_all := List.mem_filter.mpr ⟨List.mem_append_right _ (List.mem_of_getElem? (i := 514) (by decide +kernel)), by decide⟩
theorem wk_yX0_newestIn : Cond.code yX0_newestIn cX0_newestIn 4 (some .int) ∈ lw_all := List.mem_filter.mpr ⟨List.mem_append_right _ (List.mem_of_getElem? (i := 515) (by decide +kernel)), by decide⟩
theorem wm_X2_117 : Cond.methodLink RX2 117 yX0_upIn ∈ lw_all := List.mem_filter.mpr ⟨List.mem_append_right _ (List.mem_of_getElem? (i := 516) (by decide +kernel)), by decide⟩
theorem wm_X2_120 : Cond.methodLink RX2 120 yX0_isMoreThanHalf ∈ lw_all := List.mem_filter.mpr ⟨List.mem_append_right _ (List.mem_of_getElem? (i := 517) (by decide +kernel)), by decide⟩
theorem wm_L_119 : Cond.methodLink RL 119 yL_foresee ∈ lw_all := List.mem_filter.mpr ⟨List.mem_append_right _ (List.mem_of_getElem? (i := 518) (by decide +kernel)), by decide⟩
theorem ws_yL_foresee : Cond.static yL_foresee ∈ lw_all := List.mem_filter.mpr ⟨List.mem_append_right _ (List.mem_of_getElem? (i := 519) (by decide +kernel)), by decide⟩
theorem wk_yL_foresee : Cond.codeWith yL_foresee cL_foresee 5 (some .int) [(0, 10, 13, 13), (0, 10, 17, 19)] ∈ lw_all := List.mem_filter.mpr ⟨List.mem_append_right _ (List.mem_of_getElem? (i := 520) (by decide +kernel)), by decide⟩
theorem wm_L_56 : Cond.methodLink RL 56 yX2_foresee ∈ lw_all := List.mem_filter.mpr ⟨List.mem_append_right _ (List.mem_of_getElem? (i := 521) (by decide +kernel)), by decide⟩
theorem wn_yX2_foresee : Cond.instanceMethod yX2_foresee ∈ lw_all := List.mem_filter.mpr ⟨List.mem_append_right _ (List.mem_of_getElem? (i := 522) (by decide +kernel)), by decide⟩
theorem wo_yX2_foresee : Cond.selects yX2_foresee.cls yX2_foresee yX2_foresee ∈ lw_all := List.mem_filter.mpr ⟨List.mem_append_right _ (List.mem_of_getElem? (i := 523) (by decide +kernel)), by decide⟩
theorem wk_yX2_foresee : Cond.code yX2_foresee cX2_foresee 3 (some .int) ∈ lw_all := List.mem_filter.mpr ⟨List.mem_append_right _ (List.mem_of_getElem? (i := 524) (by decide +kernel)), by decide⟩
theorem wm_L_122 : Cond.methodLink RL 122 yL_advise ∈ lw_all := List.mem_filter.mpr ⟨List.mem_append_right _ (List.mem_of_getElem? (i := 526) (by decide +kernel)), by decide⟩
theorem ws_yL_advise : Cond.static yL_advise ∈ lw_all := List.mem_filter.mpr ⟨List.mem_append_right _ (List.mem_of_getElem? (i := 527) (by decide +kernel)), by decide⟩
theorem wk_yL_advise : Cond.codeWith yL_advise cL_advise 5 (some .int) [(0, 10, 13, 19), (0, 10, 17, 13), (0, 10, 21, 31)] ∈ lw_all := List.mem_filter.mpr ⟨List.mem_append_right _ (List.mem_of_getElem? (i := 528) (by decide +kernel)), by decide⟩
theorem wm_L_59 : Cond.methodLink RL 59 yX2_advise ∈ lw_all := List.mem_filter.mpr ⟨List.mem_append_right _ (List.mem_of_getElem? (i := 529) (by decide +kernel)), by decide⟩
theorem wn_yX2_advise : Cond.instanceMethod yX2_advise ∈ lw_all := List.mem_filter.mpr ⟨List.mem_append_right _ (List.mem_of_getElem? (i := 530) (by decide +kernel)), by decide⟩
theorem wo_yX2_advise : Cond.selects yX2_advise.cls yX2_advise yX2_advise ∈ lw_all := List.mem_filter.mpr ⟨List.mem_append_right _ (List.mem_of_getElem? (i := 531) (by decide +kernel)), by decide⟩
theorem wk_yX2_advise : Cond.code yX2_advise cX2_advise 7 (some .int) ∈ lw_all := List.mem_filter.mpr ⟨List.mem_append_right _ (List.mem_of_getElem? (i := 532) (by decide +kernel)), by decide⟩
theorem wm_X2_138 : Cond.methodLink RX2 138 yX0_mostKnown ∈ lw_all := List.mem_filter.mpr ⟨List.mem_append_right _ (List.mem_of_getElem? (i := 534) (by decide +kernel)), by decide⟩
theorem wl_L_63 : Cond.classLink RL 63 RX4 ∈ lw_all := List.mem_filter.mpr ⟨List.mem_append_right _ (List.mem_of_getElem? (i := 535) (by decide +kernel)), by decide⟩
theorem wz_X4 : Cond.instantiable RX4 3 ∈ lw_all := List.mem_filter.mpr ⟨List.mem_append_right _ (List.mem_of_getElem? (i := 536) (by decide +kernel)), by decide⟩
theorem wm_L_65 : Cond.methodLink RL 65 yX4_init ∈ lw_all := List.mem_filter.mpr ⟨List.mem_append_right _ (List.mem_of_getElem? (i := 537) (by decide +kernel)), by decide⟩
theorem wn_yX4_init : Cond.instanceMethod yX4_init ∈ lw_all := List.mem_filter.mpr ⟨List.mem_append_right _ (List.mem_of_getElem? (i := 538) (by decide +kernel)), by decide⟩
theorem wk_yX4_init : Cond.code yX4_init cX4_init 1 none ∈ lw_all := List.mem_filter.mpr ⟨List.mem_append_right _ (List.mem_of_getElem? (i := 539) (by decide +kernel)), by decide⟩
theorem wm_X4_1 : Cond.methodLink RX4 1 objectInit ∈ lw_all := List.mem_filter.mpr ⟨List.mem_append_right _ (List.mem_of_getElem? (i := 540) (by decide +kernel)), by decide⟩
theorem wl_X4_7 : Cond.classLink RX4 7 RX3 ∈ lw_all := List.mem_filter.mpr ⟨List.mem_append_right _ (List.mem_of_getElem? (i := 541) (by decide +kernel)), by decide⟩
theorem wz_X3 : Cond.instantiable RX3 16 ∈ lw_all := List.mem_filter.mpr ⟨List.mem_append_right _ (List.mem_of_getElem? (i := 542) (by decide +kernel)), by decide⟩
theorem wm_X4_9 : Cond.methodLink RX4 9 yX3_init ∈ lw_all := List.mem_filter.mpr ⟨List.mem_append_right _ (List.mem_of_getElem? (i := 543) (by decide +kernel)), by decide⟩
theorem wn_yX3_init : Cond.instanceMethod yX3_init ∈ lw_all := List.mem_filter.mpr ⟨List.mem_append_right _ (List.mem_of_getElem? (i := 544) (by decide +kernel)), by decide⟩
theorem wk_yX3_init : Cond.code yX3_init cX3_init 1 none ∈ lw_all := List.mem_filter.mpr ⟨List.mem_append_right _ (List.mem_of_getElem? (i := 545) (by decide +kernel)), by decide⟩
theorem wm_X3_3 : Cond.methodLink RX3 3 objectInit ∈ lw_all := List.mem_filter.mpr ⟨List.mem_append_right _ (List.mem_of_getElem? (i := 546) (by decide +kernel)), by decide⟩
theorem wm_X3_49 : Cond.methodLink RX3 49 yX3_begin ∈ lw_all := List.mem_filter.mpr ⟨List.mem_append_right _ (List.mem_of_getElem? (i := 547) (by decide +kernel)), by decide⟩
theorem wn_yX3_begin : Cond.instanceMethod yX3_begin ∈ lw_all := List.mem_filter.mpr ⟨List.mem_append_right _ (List.mem_of_getElem? (i := 548) (by decide +kernel)), by decide⟩
theorem wo_yX3_begin : Cond.selects yX3_begin.cls yX3_begin yX3_begin ∈ lw_all := List.mem_filter.mpr ⟨List.mem_append_right _ (List.mem_of_getElem? (i := 549) (by decide +kernel)), by decide⟩
theorem wk_yX3_begin : Cond.code yX3_begin cX3_begin 3 none ∈ lw_all := List.mem_filter.mpr ⟨List.mem_append_right _ (List.mem_of_getElem? (i := 550) (by decide +kernel)), by decide⟩
theorem wf_X3_9 : Cond.fieldLink RX3 9 (TX3 0).1 (TX3 0).2.1 (TX3 0).2.2.1 ∈ lw_all := List.mem_filter.mpr ⟨List.mem_append_right _ (List.mem_of_getElem? (i := 551) (by decide +kernel)), by decide⟩
theorem wf_X4_23 : Cond.fieldLinkNest RX4 23 (TX3 0).1 (TX3 0).2.1 (TX3 0).2.2.1 "FleetTermsModel" ∈ lw_env := List.mem_filter.mpr ⟨List.mem_append_right _ (List.mem_of_getElem? (i := 552) (by decide +kernel)), by decide⟩
theorem wf_X3_53 : Cond.fieldLink RX3 53 (TX3 1).1 (TX3 1).2.1 (TX3 1).2.2.1 ∈ lw_all := List.mem_filter.mpr ⟨List.mem_append_right _ (List.mem_of_getElem? (i := 553) (by decide +kernel)), by decide⟩
theorem wf_X3_56 : Cond.fieldLink RX3 56 (TX3 2).1 (TX3 2).2.1 (TX3 2).2.2.1 ∈ lw_all := List.mem_filter.mpr ⟨List.mem_append_right _ (List.mem_of_getElem? (i := 554) (by decide +kernel)), by decide⟩
theorem wf_X3_59 : Cond.fieldLink RX3 59 (TX3 3).1 (TX3 3).2.1 (TX3 3).2.2.1 ∈ lw_all := List.mem_filter.mpr ⟨List.mem_append_right _ (List.mem_of_getElem? (i := 555) (by decide +kernel)), by decide⟩
theorem wf_X4_75 : Cond.fieldLinkNest RX4 75 (TX3 3).1 (TX3 3).2.1 (TX3 3).2.2.1 "FleetTermsModel" ∈ lw_env := List.mem_filter.mpr ⟨List.mem_append_right _ (List.mem_of_getElem? (i := 556) (by decide +kernel)), by decide⟩
theorem wf_X3_62 : Cond.fieldLink RX3 62 (TX3 4).1 (TX3 4).2.1 (TX3 4).2.2.1 ∈ lw_all := List.mem_filter.mpr ⟨List.mem_append_right _ (List.mem_of_getElem? (i := 557) (by decide +kernel)), by decide⟩
theorem wf_X3_15 : Cond.fieldLink RX3 15 (TX3 5).1 (TX3 5).2.1 (TX3 5).2.2.1 ∈ lw_all := List.mem_filter.mpr ⟨List.mem_append_right _ (List.mem_of_getElem? (i := 558) (by decide +kernel)), by decide⟩
theorem wf_X4_42 : Cond.fieldLinkNest RX4 42 (TX3 5).1 (TX3 5).2.1 (TX3 5).2.2.1 "FleetTermsModel" ∈ lw_env := List.mem_filter.mpr ⟨List.mem_append_right _ (List.mem_of_getElem? (i := 559) (by decide +kernel)), by decide⟩
theorem wf_X3_19 : Cond.fieldLink RX3 19 (TX3 6).1 (TX3 6).2.1 (TX3 6).2.2.1 ∈ lw_all := List.mem_filter.mpr ⟨List.mem_append_right _ (List.mem_of_getElem? (i := 560) (by decide +kernel)), by decide⟩
theorem wf_X4_55 : Cond.fieldLinkNest RX4 55 (TX3 6).1 (TX3 6).2.1 (TX3 6).2.2.1 "FleetTermsModel" ∈ lw_env := List.mem_filter.mpr ⟨List.mem_append_right _ (List.mem_of_getElem? (i := 561) (by decide +kernel)), by decide⟩
theorem wf_X3_22 : Cond.fieldLink RX3 22 (TX3 7).1 (TX3 7).2.1 (TX3 7).2.2.1 ∈ lw_all := List.mem_filter.mpr ⟨List.mem_append_right _ (List.mem_of_getElem? (i := 562) (by decide +kernel)), by decide⟩
theorem wf_X4_68 : Cond.fieldLinkNest RX4 68 (TX3 7).1 (TX3 7).2.1 (TX3 7).2.2.1 "FleetTermsModel" ∈ lw_env := List.mem_filter.mpr ⟨List.mem_append_right _ (List.mem_of_getElem? (i := 563) (by decide +kernel)), by decide⟩
theorem wf_X3_25 : Cond.fieldLink RX3 25 (TX3 8).1 (TX3 8).2.1 (TX3 8).2.2.1 ∈ lw_all := List.mem_filter.mpr ⟨List.mem_append_right _ (List.mem_of_getElem? (i := 564) (by decide +kernel)), by decide⟩
theorem wf_X4_81 : Cond.fieldLinkNest RX4 81 (TX3 8).1 (TX3 8).2.1 (TX3 8).2.2.1 "FleetTermsModel" ∈ lw_env := List.mem_filter.mpr ⟨List.mem_append_right _ (List.mem_of_getElem? (i := 565) (by decide +kernel)), by decide⟩
theorem wf_X3_28 : Cond.fieldLink RX3 28 (TX3 9).1 (TX3 9).2.1 (TX3 9).2.2.1 ∈ lw_all := List.mem_filter.mpr ⟨List.mem_append_right _ (List.mem_of_getElem? (i := 566) (by decide +kernel)), by decide⟩
theorem wf_X4_52 : Cond.fieldLinkNest RX4 52 (TX3 9).1 (TX3 9).2.1 (TX3 9).2.2.1 "FleetTermsModel" ∈ lw_env := List.mem_filter.mpr ⟨List.mem_append_right _ (List.mem_of_getElem? (i := 567) (by decide +kernel)), by decide⟩
theorem wf_X3_31 : Cond.fieldLink RX3 31 (TX3 10).1 (TX3 10).2.1 (TX3 10).2.2.1 ∈ lw_all := List.mem_filter.mpr ⟨List.mem_append_right _ (List.mem_of_getElem? (i := 568) (by decide +kernel)), by decide⟩
theorem wf_X4_46 : Cond.fieldLinkNest RX4 46 (TX3 10).1 (TX3 10).2.1 (TX3 10).2.2.1 "FleetTermsModel" ∈ lw_env := List.mem_filter.mpr ⟨List.mem_append_right _ (List.mem_of_getElem? (i := 569) (by decide +kernel)), by decide⟩
theorem wf_X3_34 : Cond.fieldLink RX3 34 (TX3 11).1 (TX3 11).2.1 (TX3 11).2.2.1 ∈ lw_all := List.mem_filter.mpr ⟨List.mem_append_right _ (List.mem_of_getElem? (i := 570) (by decide +kernel)), by decide⟩
theorem wf_X4_49 : Cond.fieldLinkNest RX4 49 (TX3 11).1 (TX3 11).2.1 (TX3 11).2.2.1 "FleetTermsModel" ∈ lw_env := List.mem_filter.mpr ⟨List.mem_append_right _ (List.mem_of_getElem? (i := 571) (by decide +kernel)), by decide⟩
theorem wf_X3_37 : Cond.fieldLink RX3 37 (TX3 12).1 (TX3 12).2.1 (TX3 12).2.2.1 ∈ lw_all := List.mem_filter.mpr ⟨List.mem_append_right _ (List.mem_of_getElem? (i := 572) (by decide +kernel)), by decide⟩
theorem wf_X4_65 : Cond.fieldLinkNest RX4 65 (TX3 12).1 (TX3 12).2.1 (TX3 12).2.2.1 "FleetTermsModel" ∈ lw_env := List.mem_filter.mpr ⟨List.mem_append_right _ (List.mem_of_getElem? (i := 573) (by decide +kernel)), by decide⟩
theorem wf_X3_40 : Cond.fieldLink RX3 40 (TX3 13).1 (TX3 13).2.1 (TX3 13).2.2.1 ∈ lw_all := List.mem_filter.mpr ⟨List.mem_append_right _ (List.mem_of_getElem? (i := 574) (by decide +kernel)), by decide⟩
theorem wf_X4_58 : Cond.fieldLinkNest RX4 58 (TX3 13).1 (TX3 13).2.1 (TX3 13).2.2.1 "FleetTermsModel" ∈ lw_env := List.mem_filter.mpr ⟨List.mem_append_right _ (List.mem_of_getElem? (i := 575) (by decide +kernel)), by decide⟩
theorem wf_X3_43 : Cond.fieldLink RX3 43 (TX3 14).1 (TX3 14).2.1 (TX3 14).2.2.1 ∈ lw_all := List.mem_filter.mpr ⟨List.mem_append_right _ (List.mem_of_getElem? (i := 576) (by decide +kernel)), by decide⟩
theorem wf_X4_91 : Cond.fieldLinkNest RX4 91 (TX3 14).1 (TX3 14).2.1 (TX3 14).2.2.1 "FleetTermsModel" ∈ lw_env := List.mem_filter.mpr ⟨List.mem_append_right _ (List.mem_of_getElem? (i := 577) (by decide +kernel)), by decide⟩
theorem wf_X3_46 : Cond.fieldLink RX3 46 (TX3 15).1 (TX3 15).2.1 (TX3 15).2.2.1 ∈ lw_all := List.mem_filter.mpr ⟨List.mem_append_right _ (List.mem_of_getElem? (i := 578) (by decide +kernel)), by decide⟩
theorem wf_X4_94 : Cond.fieldLinkNest RX4 94 (TX3 15).1 (TX3 15).2.1 (TX3 15).2.2.1 "FleetTermsModel" ∈ lw_env := List.mem_filter.mpr ⟨List.mem_append_right _ (List.mem_of_getElem? (i := 579) (by decide +kernel)), by decide⟩
theorem wf_X4_19 : Cond.fieldLink RX4 19 (TX4 0).1 (TX4 0).2.1 (TX4 0).2.2.1 ∈ lw_all := List.mem_filter.mpr ⟨List.mem_append_right _ (List.mem_of_getElem? (i := 613) (by decide +kernel)), by decide⟩
theorem wf_X4_10 : Cond.fieldLink RX4 10 (TX4 1).1 (TX4 1).2.1 (TX4 1).2.2.1 ∈ lw_all := List.mem_filter.mpr ⟨List.mem_append_right _ (List.mem_of_getElem? (i := 614) (by decide +kernel)), by decide⟩
theorem wf_X4_16 : Cond.fieldLink RX4 16 (TX4 2).1 (TX4 2).2.1 (TX4 2).2.2.1 ∈ lw_all := List.mem_filter.mpr ⟨List.mem_append_right _ (List.mem_of_getElem? (i := 615) (by decide +kernel)), by decide⟩
theorem wm_L_72 : Cond.methodLink RL 72 yX4_thrown ∈ lw_all := List.mem_filter.mpr ⟨List.mem_append_right _ (List.mem_of_getElem? (i := 623) (by decide +kernel)), by decide⟩
theorem wn_yX4_thrown : Cond.instanceMethod yX4_thrown ∈ lw_all := List.mem_filter.mpr ⟨List.mem_append_right _ (List.mem_of_getElem? (i := 624) (by decide +kernel)), by decide⟩
theorem wo_yX4_thrown : Cond.selects yX4_thrown.cls yX4_thrown yX4_thrown ∈ lw_all := List.mem_filter.mpr ⟨List.mem_append_right _ (List.mem_of_getElem? (i := 625) (by decide +kernel)), by decide⟩
theorem wk_yX4_thrown : Cond.code yX4_thrown cX4_thrown 1 (some .int) ∈ lw_all := List.mem_filter.mpr ⟨List.mem_append_right _ (List.mem_of_getElem? (i := 626) (by decide +kernel)), by decide⟩
theorem wm_L_71 : Cond.methodLink RL 71 yX4_fleet ∈ lw_all := List.mem_filter.mpr ⟨List.mem_append_right _ (List.mem_of_getElem? (i := 627) (by decide +kernel)), by decide⟩
theorem wn_yX4_fleet : Cond.instanceMethod yX4_fleet ∈ lw_all := List.mem_filter.mpr ⟨List.mem_append_right _ (List.mem_of_getElem? (i := 628) (by decide +kernel)), by decide⟩
theorem wo_yX4_fleet : Cond.selects yX4_fleet.cls yX4_fleet yX4_fleet ∈ lw_all := List.mem_filter.mpr ⟨List.mem_append_right _ (List.mem_of_getElem? (i := 629) (by decide +kernel)), by decide⟩
theorem wk_yX4_fleet : Cond.code yX4_fleet cX4_fleet 2 (some .int) ∈ lw_all := List.mem_filter.mpr ⟨List.mem_append_right _ (List.mem_of_getElem? (i := 630) (by decide +kernel)), by decide⟩
theorem wm_X4_26 : Cond.methodLink RX4 26 yX4_isIn ∈ lw_all := List.mem_filter.mpr ⟨List.mem_append_right _ (List.mem_of_getElem? (i := 631) (by decide +kernel)), by decide⟩
theorem ws_yX4_isIn : Cond.static yX4_isIn ∈ lw_all := List.mem_filter.mpr ⟨List.mem_append_right _ (List.mem_of_getElem? (i := 632) (by decide +kernel)), by decide⟩
theorem wk_yX4_isIn : Cond.code yX4_isIn cX4_isIn 3 (some .boolean) ∈ lw_all := List.mem_filter.mpr ⟨List.mem_append_right _ (List.mem_of_getElem? (i := 633) (by decide +kernel)), by decide⟩
theorem wm_X4_30 : Cond.methodLink RX4 30 yX4_no ∈ lw_all := List.mem_filter.mpr ⟨List.mem_append_right _ (List.mem_of_getElem? (i := 634) (by decide +kernel)), by decide⟩
theorem wn_yX4_no : Cond.instanceMethod yX4_no ∈ lw_all := List.mem_filter.mpr ⟨List.mem_append_right _ (List.mem_of_getElem? (i := 636) (by decide +kernel)), by decide⟩
theorem wk_yX4_no : Cond.code yX4_no cX4_no 2 (some .int) ∈ lw_all := List.mem_filter.mpr ⟨List.mem_append_right _ (List.mem_of_getElem? (i := 637) (by decide +kernel)), by decide⟩
theorem wm_X4_34 : Cond.methodLink RX4 34 yX3_begin ∈ lw_all := List.mem_filter.mpr ⟨List.mem_append_right _ (List.mem_of_getElem? (i := 638) (by decide +kernel)), by decide⟩
theorem wm_L_79 : Cond.methodLink RL 79 yX4_setPatience ∈ lw_all := List.mem_filter.mpr ⟨List.mem_append_right _ (List.mem_of_getElem? (i := 639) (by decide +kernel)), by decide⟩
theorem wn_yX4_setPatience : Cond.instanceMethod yX4_setPatience ∈ lw_all := List.mem_filter.mpr ⟨List.mem_append_right _ (List.mem_of_getElem? (i := 640) (by decide +kernel)), by decide⟩
theorem wo_yX4_setPatience : Cond.selects yX4_setPatience.cls yX4_setPatience yX4_setPatience ∈ lw_all := List.mem_filter.mpr ⟨List.mem_append_right _ (List.mem_of_getElem? (i := 641) (by decide +kernel)), by decide⟩
theorem wk_yX4_setPatience : Cond.code yX4_setPatience cX4_setPatience 4 (some .int) ∈ lw_all := List.mem_filter.mpr ⟨List.mem_append_right _ (List.mem_of_getElem? (i := 642) (by decide +kernel)), by decide⟩
theorem wm_X4_38 : Cond.methodLink RX4 38 yX4_isBoat ∈ lw_all := List.mem_filter.mpr ⟨List.mem_append_right _ (List.mem_of_getElem? (i := 643) (by decide +kernel)), by decide⟩
theorem wn_yX4_isBoat : Cond.instanceMethod yX4_isBoat ∈ lw_all := List.mem_filter.mpr ⟨List.mem_append_right _ (List.mem_of_getElem? (i := 645) (by decide +kernel)), by decide⟩
theorem wk_yX4_isBoat : Cond.code yX4_isBoat cX4_isBoat 2 (some .boolean) ∈ lw_all := List.mem_filter.mpr ⟨List.mem_append_right _ (List.mem_of_getElem? (i := 646) (by decide +kernel)), by decide⟩
theorem wm_L_82 : Cond.methodLink RL 82 yX4_go ∈ lw_all := List.mem_filter.mpr ⟨List.mem_append_right _ (List.mem_of_getElem? (i := 647) (by decide +kernel)), by decide⟩
theorem wn_yX4_go : Cond.instanceMethod yX4_go ∈ lw_all := List.mem_filter.mpr ⟨List.mem_append_right _ (List.mem_of_getElem? (i := 648) (by decide +kernel)), by decide⟩
theorem wo_yX4_go : Cond.selects yX4_go.cls yX4_go yX4_go ∈ lw_all := List.mem_filter.mpr ⟨List.mem_append_right _ (List.mem_of_getElem? (i := 649) (by decide +kernel)), by decide⟩
theorem wk_yX4_go : Cond.code yX4_go cX4_go 4 (some .int) ∈ lw_all := List.mem_filter.mpr ⟨List.mem_append_right _ (List.mem_of_getElem? (i := 650) (by decide +kernel)), by decide⟩
theorem wm_L_85 : Cond.methodLink RL 85 yX4_sink ∈ lw_all := List.mem_filter.mpr ⟨List.mem_append_right _ (List.mem_of_getElem? (i := 651) (by decide +kernel)), by decide⟩
theorem wn_yX4_sink : Cond.instanceMethod yX4_sink ∈ lw_all := List.mem_filter.mpr ⟨List.mem_append_right _ (List.mem_of_getElem? (i := 652) (by decide +kernel)), by decide⟩
theorem wo_yX4_sink : Cond.selects yX4_sink.cls yX4_sink yX4_sink ∈ lw_all := List.mem_filter.mpr ⟨List.mem_append_right _ (List.mem_of_getElem? (i := 653) (by decide +kernel)), by decide⟩
theorem wk_yX4_sink : Cond.code yX4_sink cX4_sink 2 (some .boolean) ∈ lw_all := List.mem_filter.mpr ⟨List.mem_append_right _ (List.mem_of_getElem? (i := 654) (by decide +kernel)), by decide⟩
theorem wm_L_88 : Cond.methodLink RL 88 yX4_write ∈ lw_all := List.mem_filter.mpr ⟨List.mem_append_right _ (List.mem_of_getElem? (i := 655) (by decide +kernel)), by decide⟩
theorem wn_yX4_write : Cond.instanceMethod yX4_write ∈ lw_all := List.mem_filter.mpr ⟨List.mem_append_right _ (List.mem_of_getElem? (i := 656) (by decide +kernel)), by decide⟩
theorem wo_yX4_write : Cond.selects yX4_write.cls yX4_write yX4_write ∈ lw_all := List.mem_filter.mpr ⟨List.mem_append_right _ (List.mem_of_getElem? (i := 657) (by decide +kernel)), by decide⟩
theorem wk_yX4_write : Cond.code yX4_write cX4_write 3 (some .int) ∈ lw_all := List.mem_filter.mpr ⟨List.mem_append_right _ (List.mem_of_getElem? (i := 658) (by decide +kernel)), by decide⟩
theorem wm_X4_61 : Cond.methodLink RX4 61 yX3_isUp ∈ lw_all := List.mem_filter.mpr ⟨List.mem_append_right _ (List.mem_of_getElem? (i := 659) (by decide +kernel)), by decide⟩
theorem wn_yX3_isUp : Cond.instanceMethod yX3_isUp ∈ lw_all := List.mem_filter.mpr ⟨List.mem_append_right _ (List.mem_of_getElem? (i := 660) (by decide +kernel)), by decide⟩
theorem wo_yX3_isUp : Cond.selects yX3_isUp.cls yX3_isUp yX3_isUp ∈ lw_all := List.mem_filter.mpr ⟨List.mem_append_right _ (List.mem_of_getElem? (i := 661) (by decide +kernel)), by decide⟩
theorem wk_yX3_isUp : Cond.code yX3_isUp cX3_isUp 3 (some .boolean) ∈ lw_all := List.mem_filter.mpr ⟨List.mem_append_right _ (List.mem_of_getElem? (i := 662) (by decide +kernel)), by decide⟩
theorem wm_X4_71 : Cond.methodLink RX4 71 yX3_add ∈ lw_all := List.mem_filter.mpr ⟨List.mem_append_right _ (List.mem_of_getElem? (i := 663) (by decide +kernel)), by decide⟩
theorem wn_yX3_add : Cond.instanceMethod yX3_add ∈ lw_all := List.mem_filter.mpr ⟨List.mem_append_right _ (List.mem_of_getElem? (i := 664) (by decide +kernel)), by decide⟩
theorem wo_yX3_add : Cond.selects yX3_add.cls yX3_add yX3_add ∈ lw_all := List.mem_filter.mpr ⟨List.mem_append_right _ (List.mem_of_getElem? (i := 665) (by decide +kernel)), by decide⟩
theorem wk_yX3_add : Cond.code yX3_add cX3_add 4 none ∈ lw_all := List.mem_filter.mpr ⟨List.mem_append_right _ (List.mem_of_getElem? (i := 666) (by decide +kernel)), by decide⟩
theorem wm_L_91 : Cond.methodLink RL 91 yX4_pass ∈ lw_all := List.mem_filter.mpr ⟨List.mem_append_right _ (List.mem_of_getElem? (i := 667) (by decide +kernel)), by decide⟩
theorem wn_yX4_pass : Cond.instanceMethod yX4_pass ∈ lw_all := List.mem_filter.mpr ⟨List.mem_append_right _ (List.mem_of_getElem? (i := 668) (by decide +kernel)), by decide⟩
theorem wo_yX4_pass : Cond.selects yX4_pass.cls yX4_pass yX4_pass ∈ lw_all := List.mem_filter.mpr ⟨List.mem_append_right _ (List.mem_of_getElem? (i := 669) (by decide +kernel)), by decide⟩
theorem wk_yX4_pass : Cond.code yX4_pass cX4_pass 3 (some .int) ∈ lw_all := List.mem_filter.mpr ⟨List.mem_append_right _ (List.mem_of_getElem? (i := 670) (by decide +kernel)), by decide⟩
theorem wm_X4_78 : Cond.methodLink RX4 78 yX3_passOn ∈ lw_all := List.mem_filter.mpr ⟨List.mem_append_right _ (List.mem_of_getElem? (i := 671) (by decide +kernel)), by decide⟩
theorem wn_yX3_passOn : Cond.instanceMethod yX3_passOn ∈ lw_all := List.mem_filter.mpr ⟨List.mem_append_right _ (List.mem_of_getElem? (i := 672) (by decide +kernel)), by decide⟩
theorem wo_yX3_passOn : Cond.selects yX3_passOn.cls yX3_passOn yX3_passOn ∈ lw_all := List.mem_filter.mpr ⟨List.mem_append_right _ (List.mem_of_getElem? (i := 673) (by decide +kernel)), by decide⟩
theorem wk_yX3_passOn : Cond.code yX3_passOn cX3_passOn 3 none ∈ lw_all := List.mem_filter.mpr ⟨List.mem_append_right _ (List.mem_of_getElem? (i := 674) (by decide +kernel)), by decide⟩
theorem wm_X3_125 : Cond.methodLink RX3 125 yX3_pass ∈ lw_all := List.mem_filter.mpr ⟨List.mem_append_right _ (List.mem_of_getElem? (i := 675) (by decide +kernel)), by decide⟩
theorem wn_yX3_pass : Cond.instanceMethod yX3_pass ∈ lw_all := List.mem_filter.mpr ⟨List.mem_append_right _ (List.mem_of_getElem? (i := 676) (by decide +kernel)), by decide⟩
theorem wo_yX3_pass : Cond.selects yX3_pass.cls yX3_pass yX3_pass ∈ lw_all := List.mem_filter.mpr ⟨List.mem_append_right _ (List.mem_of_getElem? (i := 677) (by decide +kernel)), by decide⟩
theorem wk_yX3_pass : Cond.code yX3_pass cX3_pass 2 none ∈ lw_all := List.mem_filter.mpr ⟨List.mem_append_right _ (List.mem_of_getElem? (i := 678) (by decide +kernel)), by decide⟩
theorem wm_X3_113 : Cond.methodLink RX3 113 yX3_stand ∈ lw_all := List.mem_filter.mpr ⟨List.mem_append_right _ (List.mem_of_getElem? (i := 679) (by decide +kernel)), by decide⟩
theorem wn_yX3_stand : Cond.instanceMethod yX3_stand ∈ lw_all := List.mem_filter.mpr ⟨List.mem_append_right _ (List.mem_of_getElem? (i := 681) (by decide +kernel)), by decide⟩
theorem wk_yX3_stand : Cond.code yX3_stand cX3_stand 4 none ∈ lw_all := List.mem_filter.mpr ⟨List.mem_append_right _ (List.mem_of_getElem? (i := 682) (by decide +kernel)), by decide⟩
theorem wm_X3_79 : Cond.methodLink RX3 79 yX3_hear ∈ lw_all := List.mem_filter.mpr ⟨List.mem_append_right _ (List.mem_of_getElem? (i := 683) (by decide +kernel)), by decide⟩
theorem wn_yX3_hear : Cond.instanceMethod yX3_hear ∈ lw_all := List.mem_filter.mpr ⟨List.mem_append_right _ (List.mem_of_getElem? (i := 684) (by decide +kernel)), by decide⟩
theorem wo_yX3_hear : Cond.selects yX3_hear.cls yX3_hear yX3_hear ∈ lw_all := List.mem_filter.mpr ⟨List.mem_append_right _ (List.mem_of_getElem? (i := 685) (by decide +kernel)), by decide⟩
theorem wk_yX3_hear : Cond.code yX3_hear cX3_hear 3 (some .boolean) ∈ lw_all := List.mem_filter.mpr ⟨List.mem_append_right _ (List.mem_of_getElem? (i := 686) (by decide +kernel)), by decide⟩
theorem wm_X3_83 : Cond.methodLink RX3 83 yX3_hearOf ∈ lw_all := List.mem_filter.mpr ⟨List.mem_append_right _ (List.mem_of_getElem? (i := 687) (by decide +kernel)), by decide⟩
theorem wn_yX3_hearOf : Cond.instanceMethod yX3_hearOf ∈ lw_all := List.mem_filter.mpr ⟨List.mem_append_right _ (List.mem_of_getElem? (i := 689) (by decide +kernel)), by decide⟩
theorem wk_yX3_hearOf : Cond.code yX3_hearOf cX3_hearOf 3 none ∈ lw_all := List.mem_filter.mpr ⟨List.mem_append_right _ (List.mem_of_getElem? (i := 690) (by decide +kernel)), by decide⟩
theorem wm_X3_87 : Cond.methodLink RX3 87 yX3_isAsNew ∈ lw_all := List.mem_filter.mpr ⟨List.mem_append_right _ (List.mem_of_getElem? (i := 691) (by decide +kernel)), by decide⟩
theorem wn_yX3_isAsNew : Cond.instanceMethod yX3_isAsNew ∈ lw_all := List.mem_filter.mpr ⟨List.mem_append_right _ (List.mem_of_getElem? (i := 692) (by decide +kernel)), by decide⟩
theorem wo_yX3_isAsNew : Cond.selects yX3_isAsNew.cls yX3_isAsNew yX3_isAsNew ∈ lw_all := List.mem_filter.mpr ⟨List.mem_append_right _ (List.mem_of_getElem? (i := 693) (by decide +kernel)), by decide⟩
theorem wk_yX3_isAsNew : Cond.code yX3_isAsNew cX3_isAsNew 3 (some .boolean) ∈ lw_all := List.mem_filter.mpr ⟨List.mem_append_right _ (List.mem_of_getElem? (i := 694) (by decide +kernel)), by decide⟩
theorem wm_X3_75 : Cond.methodLink RX3 75 yX3_lastTerm ∈ lw_all := List.mem_filter.mpr ⟨List.mem_append_right _ (List.mem_of_getElem? (i := 695) (by decide +kernel)), by decide⟩
theorem wn_yX3_lastTerm : Cond.instanceMethod yX3_lastTerm ∈ lw_all := List.mem_filter.mpr ⟨List.mem_append_right _ (List.mem_of_getElem? (i := 696) (by decide +kernel)), by decide⟩
theorem wo_yX3_lastTerm : Cond.selects yX3_lastTerm.cls yX3_lastTerm yX3_lastTerm ∈ lw_all := List.mem_filter.mpr ⟨List.mem_append_right _ (List.mem_of_getElem? (i := 697) (by decide +kernel)), by decide⟩
theorem wk_yX3_lastTerm : Cond.code yX3_lastTerm cX3_lastTerm 2 (some .int) ∈ lw_all := List.mem_filter.mpr ⟨List.mem_append_right _ (List.mem_of_getElem? (i := 698) (by decide +kernel)), by decide⟩
theorem wm_X3_90 : Cond.methodLink RX3 90 yX3_isMore ∈ lw_all := List.mem_filter.mpr ⟨List.mem_append_right _ (List.mem_of_getElem? (i := 699) (by decide +kernel)), by decide⟩
theorem wn_yX3_isMore : Cond.instanceMethod yX3_isMore ∈ lw_all := List.mem_filter.mpr ⟨List.mem_append_right _ (List.mem_of_getElem? (i := 700) (by decide +kernel)), by decide⟩
theorem wo_yX3_isMore : Cond.selects yX3_isMore.cls yX3_isMore yX3_isMore ∈ lw_all := List.mem_filter.mpr ⟨List.mem_append_right _ (List.mem_of_getElem? (i := 701) (by decide +kernel)), by decide⟩
theorem wk_yX3_isMore : Cond.code yX3_isMore cX3_isMore 2 (some .boolean) ∈ lw_all := List.mem_filter.mpr ⟨List.mem_append_right _ (List.mem_of_getElem? (i := 702) (by decide +kernel)), by decide⟩
theorem wm_X3_116 : Cond.methodLink RX3 116 yX3_isUp ∈ lw_all := List.mem_filter.mpr ⟨List.mem_append_right _ (List.mem_of_getElem? (i := 703) (by decide +kernel)), by decide⟩
theorem wm_X3_119 : Cond.methodLink RX3 119 yX3_tell ∈ lw_all := List.mem_filter.mpr ⟨List.mem_append_right _ (List.mem_of_getElem? (i := 704) (by decide +kernel)), by decide⟩
theorem wn_yX3_tell : Cond.instanceMethod yX3_tell ∈ lw_all := List.mem_filter.mpr ⟨List.mem_append_right _ (List.mem_of_getElem? (i := 706) (by decide +kernel)), by decide⟩
theorem wk_yX3_tell : Cond.code yX3_tell cX3_tell 3 none ∈ lw_all := List.mem_filter.mpr ⟨List.mem_append_right _ (List.mem_of_getElem? (i := 707) (by decide +kernel)), by decide⟩
theorem wm_X3_110 : Cond.methodLink RX3 110 yX3_takeFrom ∈ lw_all := List.mem_filter.mpr ⟨List.mem_append_right _ (List.mem_of_getElem? (i := 708) (by decide +kernel)), by decide⟩
theorem wn_yX3_takeFrom : Cond.instanceMethod yX3_takeFrom ∈ lw_all := List.mem_filter.mpr ⟨List.mem_append_right _ (List.mem_of_getElem? (i := 710) (by decide +kernel)), by decide⟩
theorem wk_yX3_takeFrom : Cond.code yX3_takeFrom cX3_takeFrom 4 none ∈ lw_all := List.mem_filter.mpr ⟨List.mem_append_right _ (List.mem_of_getElem? (i := 711) (by decide +kernel)), by decide⟩
theorem wm_X3_94 : Cond.methodLink RX3 94 yX3_agree ∈ lw_all := List.mem_filter.mpr ⟨List.mem_append_right _ (List.mem_of_getElem? (i := 712) (by decide +kernel)), by decide⟩
theorem wn_yX3_agree : Cond.instanceMethod yX3_agree ∈ lw_all := List.mem_filter.mpr ⟨List.mem_append_right _ (List.mem_of_getElem? (i := 713) (by decide +kernel)), by decide⟩
theorem wo_yX3_agree : Cond.selects yX3_agree.cls yX3_agree yX3_agree ∈ lw_all := List.mem_filter.mpr ⟨List.mem_append_right _ (List.mem_of_getElem? (i := 714) (by decide +kernel)), by decide⟩
theorem wk_yX3_agree : Cond.code yX3_agree cX3_agree 4 (some .int) ∈ lw_all := List.mem_filter.mpr ⟨List.mem_append_right _ (List.mem_of_getElem? (i := 715) (by decide +kernel)), by decide⟩
theorem wm_X3_98 : Cond.methodLink RX3 98 yX3_add ∈ lw_all := List.mem_filter.mpr ⟨List.mem_append_right _ (List.mem_of_getElem? (i := 716) (by decide +kernel)), by decide⟩
theorem wm_X3_102 : Cond.methodLink RX3 102 yJ9_min_7cf53 ∈ lw_all := List.mem_filter.mpr ⟨List.mem_append_right _ (List.mem_of_getElem? (i := 717) (by decide +kernel)), by decide⟩
theorem wm_X3_107 : Cond.methodLink RX3 107 yJ9_max_7cf53 ∈ lw_all := List.mem_filter.mpr ⟨List.mem_append_right _ (List.mem_of_getElem? (i := 718) (by decide +kernel)), by decide⟩
theorem wm_X3_122 : Cond.methodLink RX3 122 yX3_commit ∈ lw_all := List.mem_filter.mpr ⟨List.mem_append_right _ (List.mem_of_getElem? (i := 719) (by decide +kernel)), by decide⟩
theorem wn_yX3_commit : Cond.instanceMethod yX3_commit ∈ lw_all := List.mem_filter.mpr ⟨List.mem_append_right _ (List.mem_of_getElem? (i := 721) (by decide +kernel)), by decide⟩
theorem wk_yX3_commit : Cond.code yX3_commit cX3_commit 5 none ∈ lw_all := List.mem_filter.mpr ⟨List.mem_append_right _ (List.mem_of_getElem? (i := 722) (by decide +kernel)), by decide⟩
theorem wm_L_94 : Cond.methodLink RL 94 yX4_told ∈ lw_all := List.mem_filter.mpr ⟨List.mem_append_right _ (List.mem_of_getElem? (i := 723) (by decide +kernel)), by decide⟩
theorem wn_yX4_told : Cond.instanceMethod yX4_told ∈ lw_all := List.mem_filter.mpr ⟨List.mem_append_right _ (List.mem_of_getElem? (i := 724) (by decide +kernel)), by decide⟩
theorem wo_yX4_told : Cond.selects yX4_told.cls yX4_told yX4_told ∈ lw_all := List.mem_filter.mpr ⟨List.mem_append_right _ (List.mem_of_getElem? (i := 725) (by decide +kernel)), by decide⟩
theorem wk_yX4_told : Cond.code yX4_told cX4_told 3 (some .int) ∈ lw_all := List.mem_filter.mpr ⟨List.mem_append_right _ (List.mem_of_getElem? (i := 726) (by decide +kernel)), by decide⟩
theorem wm_X4_87 : Cond.methodLink RX4 87 yX4_boatTold ∈ lw_all := List.mem_filter.mpr ⟨List.mem_append_right _ (List.mem_of_getElem? (i := 727) (by decide +kernel)), by decide⟩
theorem wn_yX4_boatTold : Cond.instanceMethod yX4_boatTold ∈ lw_all := List.mem_filter.mpr ⟨List.mem_append_right _ (List.mem_of_getElem? (i := 729) (by decide +kernel)), by decide⟩
theorem wk_yX4_boatTold : Cond.code yX4_boatTold cX4_boatTold 3 (some .int) ∈ lw_all := List.mem_filter.mpr ⟨List.mem_append_right _ (List.mem_of_getElem? (i := 730) (by decide +kernel)), by decide⟩
theorem wm_X4_84 : Cond.methodLink RX4 84 yX3_lastTerm ∈ lw_all := List.mem_filter.mpr ⟨List.mem_append_right _ (List.mem_of_getElem? (i := 731) (by decide +kernel)), by decide⟩
theorem wm_L_98 : Cond.methodLink RL 98 yX4_entry ∈ lw_all := List.mem_filter.mpr ⟨List.mem_append_right _ (List.mem_of_getElem? (i := 732) (by decide +kernel)), by decide⟩
theorem wn_yX4_entry : Cond.instanceMethod yX4_entry ∈ lw_all := List.mem_filter.mpr ⟨List.mem_append_right _ (List.mem_of_getElem? (i := 733) (by decide +kernel)), by decide⟩
theorem wo_yX4_entry : Cond.selects yX4_entry.cls yX4_entry yX4_entry ∈ lw_all := List.mem_filter.mpr ⟨List.mem_append_right _ (List.mem_of_getElem? (i := 734) (by decide +kernel)), by decide⟩
theorem wk_yX4_entry : Cond.code yX4_entry cX4_entry 4 (some .int) ∈ lw_all := List.mem_filter.mpr ⟨List.mem_append_right _ (List.mem_of_getElem? (i := 735) (by decide +kernel)), by decide⟩
theorem wm_X4_100 : Cond.methodLink RX4 100 yX4_entryTold ∈ lw_all := List.mem_filter.mpr ⟨List.mem_append_right _ (List.mem_of_getElem? (i := 736) (by decide +kernel)), by decide⟩
theorem wn_yX4_entryTold : Cond.instanceMethod yX4_entryTold ∈ lw_all := List.mem_filter.mpr ⟨List.mem_append_right _ (List.mem_of_getElem? (i := 738) (by decide +kernel)), by decide⟩
theorem wk_yX4_entryTold : Cond.code yX4_entryTold cX4_entryTold 6 (some .int) ∈ lw_all := List.mem_filter.mpr ⟨List.mem_append_right _ (List.mem_of_getElem? (i := 739) (by decide +kernel)), by decide⟩
theorem wm_X4_97 : Cond.methodLink RX4 97 yX3_agree ∈ lw_all := List.mem_filter.mpr ⟨List.mem_append_right _ (List.mem_of_getElem? (i := 740) (by decide +kernel)), by decide⟩
theorem wm_L_101 : Cond.methodLink RL 101 yX4_agree ∈ lw_all := List.mem_filter.mpr ⟨List.mem_append_right _ (List.mem_of_getElem? (i := 741) (by decide +kernel)), by decide⟩
theorem wn_yX4_agree : Cond.instanceMethod yX4_agree ∈ lw_all := List.mem_filter.mpr ⟨List.mem_append_right _ (List.mem_of_getElem? (i := 742) (by decide +kernel)), by decide⟩
theorem wo_yX4_agree : Cond.selects yX4_agree.cls yX4_agree yX4_agree ∈ lw_all := List.mem_filter.mpr ⟨List.mem_append_right _ (List.mem_of_getElem? (i := 743) (by decide +kernel)), by decide⟩
theorem wk_yX4_agree : Cond.code yX4_agree cX4_agree 3 (some .int) ∈ lw_all := List.mem_filter.mpr ⟨List.mem_append_right _ (List.mem_of_getElem? (i := 744) (by decide +kernel)), by decide⟩
theorem wm_L_104 : Cond.methodLink RL 104 yX4_newer ∈ lw_all := List.mem_filter.mpr ⟨List.mem_append_right _ (List.mem_of_getElem? (i := 745) (by decide +kernel)), by decide⟩
theorem wn_yX4_newer : Cond.instanceMethod yX4_newer ∈ lw_all := List.mem_filter.mpr ⟨List.mem_append_right _ (List.mem_of_getElem? (i := 746) (by decide +kernel)), by decide⟩
theorem wo_yX4_newer : Cond.selects yX4_newer.cls yX4_newer yX4_newer ∈ lw_all := List.mem_filter.mpr ⟨List.mem_append_right _ (List.mem_of_getElem? (i := 747) (by decide +kernel)), by decide⟩
theorem wk_yX4_newer : Cond.code yX4_newer cX4_newer 3 (some .boolean) ∈ lw_all := List.mem_filter.mpr ⟨List.mem_append_right _ (List.mem_of_getElem? (i := 748) (by decide +kernel)), by decide⟩
theorem wm_X4_104 : Cond.methodLink RX4 104 yX3_isAsNew ∈ lw_all := List.mem_filter.mpr ⟨List.mem_append_right _ (List.mem_of_getElem? (i := 749) (by decide +kernel)), by decide⟩
theorem wm_L_108 : Cond.methodLink RL 108 yX4_leader ∈ lw_all := List.mem_filter.mpr ⟨List.mem_append_right _ (List.mem_of_getElem? (i := 750) (by decide +kernel)), by decide⟩
theorem wn_yX4_leader : Cond.instanceMethod yX4_leader ∈ lw_all := List.mem_filter.mpr ⟨List.mem_append_right _ (List.mem_of_getElem? (i := 751) (by decide +kernel)), by decide⟩
theorem wo_yX4_leader : Cond.selects yX4_leader.cls yX4_leader yX4_leader ∈ lw_all := List.mem_filter.mpr ⟨List.mem_append_right _ (List.mem_of_getElem? (i := 752) (by decide +kernel)), by decide⟩
theorem wk_yX4_leader : Cond.code yX4_leader cX4_leader 3 (some .int) ∈ lw_all := List.mem_filter.mpr ⟨List.mem_append_right _ (List.mem_of_getElem? (i := 753) (by decide +kernel)), by decide⟩
theorem wm_L_111 : Cond.methodLink RL 111 yX4_count ∈ lw_all := List.mem_filter.mpr ⟨List.mem_append_right _ (List.mem_of_getElem? (i := 754) (by decide +kernel)), by decide⟩
theorem wn_yX4_count : Cond.instanceMethod yX4_count ∈ lw_all := List.mem_filter.mpr ⟨List.mem_append_right _ (List.mem_of_getElem? (i := 755) (by decide +kernel)), by decide⟩
theorem wo_yX4_count : Cond.selects yX4_count.cls yX4_count yX4_count ∈ lw_all := List.mem_filter.mpr ⟨List.mem_append_right _ (List.mem_of_getElem? (i := 756) (by decide +kernel)), by decide⟩
theorem wk_yX4_count : Cond.code yX4_count cX4_count 2 (some .int) ∈ lw_all := List.mem_filter.mpr ⟨List.mem_append_right _ (List.mem_of_getElem? (i := 757) (by decide +kernel)), by decide⟩
theorem wm_X4_107 : Cond.methodLink RX4 107 yX3_counted ∈ lw_all := List.mem_filter.mpr ⟨List.mem_append_right _ (List.mem_of_getElem? (i := 758) (by decide +kernel)), by decide⟩
theorem wn_yX3_counted : Cond.instanceMethod yX3_counted ∈ lw_all := List.mem_filter.mpr ⟨List.mem_append_right _ (List.mem_of_getElem? (i := 759) (by decide +kernel)), by decide⟩
theorem wo_yX3_counted : Cond.selects yX3_counted.cls yX3_counted yX3_counted ∈ lw_all := List.mem_filter.mpr ⟨List.mem_append_right _ (List.mem_of_getElem? (i := 760) (by decide +kernel)), by decide⟩
theorem wk_yX3_counted : Cond.code yX3_counted cX3_counted 8 (some .int) ∈ lw_all := List.mem_filter.mpr ⟨List.mem_append_right _ (List.mem_of_getElem? (i := 761) (by decide +kernel)), by decide⟩
theorem wm_L_114 : Cond.methodLink RL 114 yX4_harbour ∈ lw_all := List.mem_filter.mpr ⟨List.mem_append_right _ (List.mem_of_getElem? (i := 762) (by decide +kernel)), by decide⟩
theorem wn_yX4_harbour : Cond.instanceMethod yX4_harbour ∈ lw_all := List.mem_filter.mpr ⟨List.mem_append_right _ (List.mem_of_getElem? (i := 763) (by decide +kernel)), by decide⟩
theorem wo_yX4_harbour : Cond.selects yX4_harbour.cls yX4_harbour yX4_harbour ∈ lw_all := List.mem_filter.mpr ⟨List.mem_append_right _ (List.mem_of_getElem? (i := 764) (by decide +kernel)), by decide⟩
theorem wk_yX4_harbour : Cond.code yX4_harbour cX4_harbour 3 (some .int) ∈ lw_all := List.mem_filter.mpr ⟨List.mem_append_right _ (List.mem_of_getElem? (i := 765) (by decide +kernel)), by decide⟩
theorem wm_X4_113 : Cond.methodLink RX4 113 yX4_harbourTold ∈ lw_all := List.mem_filter.mpr ⟨List.mem_append_right _ (List.mem_of_getElem? (i := 766) (by decide +kernel)), by decide⟩
theorem wn_yX4_harbourTold : Cond.instanceMethod yX4_harbourTold ∈ lw_all := List.mem_filter.mpr ⟨List.mem_append_right _ (List.mem_of_getElem? (i := 768) (by decide +kernel)), by decide⟩
theorem wk_yX4_harbourTold : Cond.code yX4_harbourTold cX4_harbourTold 6 (some .int) ∈ lw_all := List.mem_filter.mpr ⟨List.mem_append_right _ (List.mem_of_getElem? (i := 769) (by decide +kernel)), by decide⟩
theorem wm_X4_110 : Cond.methodLink RX4 110 yX3_isMore ∈ lw_all := List.mem_filter.mpr ⟨List.mem_append_right _ (List.mem_of_getElem? (i := 770) (by decide +kernel)), by decide⟩
theorem wm_L_118 : Cond.methodLink RL 118 yX4_until ∈ lw_all := List.mem_filter.mpr ⟨List.mem_append_right _ (List.mem_of_getElem? (i := 771) (by decide +kernel)), by decide⟩
theorem wn_yX4_until : Cond.instanceMethod yX4_until ∈ lw_all := List.mem_filter.mpr ⟨List.mem_append_right _ (List.mem_of_getElem? (i := 772) (by decide +kernel)), by decide⟩
theorem wo_yX4_until : Cond.selects yX4_until.cls yX4_until yX4_until ∈ lw_all := List.mem_filter.mpr ⟨List.mem_append_right _ (List.mem_of_getElem? (i := 773) (by decide +kernel)), by decide⟩
theorem wk_yX4_until : Cond.code yX4_until cX4_until 2 (some .int) ∈ lw_all := List.mem_filter.mpr ⟨List.mem_append_right _ (List.mem_of_getElem? (i := 774) (by decide +kernel)), by decide⟩
theorem wm_X4_116 : Cond.methodLink RX4 116 yX3_become ∈ lw_all := List.mem_filter.mpr ⟨List.mem_append_right _ (List.mem_of_getElem? (i := 775) (by decide +kernel)), by decide⟩
theorem wn_yX3_become : Cond.instanceMethod yX3_become ∈ lw_all := List.mem_filter.mpr ⟨List.mem_append_right _ (List.mem_of_getElem? (i := 776) (by decide +kernel)), by decide⟩
theorem wo_yX3_become : Cond.selects yX3_become.cls yX3_become yX3_become ∈ lw_all := List.mem_filter.mpr ⟨List.mem_append_right _ (List.mem_of_getElem? (i := 777) (by decide +kernel)), by decide⟩
theorem wk_yX3_become : Cond.code yX3_become cX3_become 2 none ∈ lw_all := List.mem_filter.mpr ⟨List.mem_append_right _ (List.mem_of_getElem? (i := 778) (by decide +kernel)), by decide⟩
theorem wm_X3_71 : Cond.methodLink RX3 71 yX3_copy ∈ lw_all := List.mem_filter.mpr ⟨List.mem_append_right _ (List.mem_of_getElem? (i := 779) (by decide +kernel)), by decide⟩
theorem ws_yX3_copy : Cond.static yX3_copy ∈ lw_all := List.mem_filter.mpr ⟨List.mem_append_right _ (List.mem_of_getElem? (i := 780) (by decide +kernel)), by decide⟩
theorem wk_yX3_copy : Cond.code yX3_copy cX3_copy 2 none ∈ lw_all := List.mem_filter.mpr ⟨List.mem_append_right _ (List.mem_of_getElem? (i := 781) (by decide +kernel)), by decide⟩
theorem wm_X3_65 : Cond.methodLink RX3 65 arraycopyName ∈ lw_all := List.mem_filter.mpr ⟨List.mem_append_right _ (List.mem_of_getElem? (i := 782) (by decide +kernel)), by decide⟩
theorem wm_X4_120 : Cond.methodLink RX4 120 yX3_isLed ∈ lw_all := List.mem_filter.mpr ⟨List.mem_append_right _ (List.mem_of_getElem? (i := 783) (by decide +kernel)), by decide⟩
theorem wn_yX3_isLed : Cond.instanceMethod yX3_isLed ∈ lw_all := List.mem_filter.mpr ⟨List.mem_append_right _ (List.mem_of_getElem? (i := 784) (by decide +kernel)), by decide⟩
theorem wo_yX3_isLed : Cond.selects yX3_isLed.cls yX3_isLed yX3_isLed ∈ lw_all := List.mem_filter.mpr ⟨List.mem_append_right _ (List.mem_of_getElem? (i := 785) (by decide +kernel)), by decide⟩
theorem wk_yX3_isLed : Cond.code yX3_isLed cX3_isLed 4 (some .boolean) ∈ lw_all := List.mem_filter.mpr ⟨List.mem_append_right _ (List.mem_of_getElem? (i := 786) (by decide +kernel)), by decide⟩
theorem wm_X4_124 : Cond.methodLink RX4 124 yX3_pass ∈ lw_all := List.mem_filter.mpr ⟨List.mem_append_right _ (List.mem_of_getElem? (i := 787) (by decide +kernel)), by decide⟩
theorem wm_L_121 : Cond.methodLink RL 121 yX4_foresee ∈ lw_all := List.mem_filter.mpr ⟨List.mem_append_right _ (List.mem_of_getElem? (i := 788) (by decide +kernel)), by decide⟩
theorem wn_yX4_foresee : Cond.instanceMethod yX4_foresee ∈ lw_all := List.mem_filter.mpr ⟨List.mem_append_right _ (List.mem_of_getElem? (i := 789) (by decide +kernel)), by decide⟩
theorem wo_yX4_foresee : Cond.selects yX4_foresee.cls yX4_foresee yX4_foresee ∈ lw_all := List.mem_filter.mpr ⟨List.mem_append_right _ (List.mem_of_getElem? (i := 790) (by decide +kernel)), by decide⟩
theorem wk_yX4_foresee : Cond.code yX4_foresee cX4_foresee 3 (some .int) ∈ lw_all := List.mem_filter.mpr ⟨List.mem_append_right _ (List.mem_of_getElem? (i := 791) (by decide +kernel)), by decide⟩
theorem wm_L_124 : Cond.methodLink RL 124 yX4_advise ∈ lw_all := List.mem_filter.mpr ⟨List.mem_append_right _ (List.mem_of_getElem? (i := 792) (by decide +kernel)), by decide⟩
theorem wn_yX4_advise : Cond.instanceMethod yX4_advise ∈ lw_all := List.mem_filter.mpr ⟨List.mem_append_right _ (List.mem_of_getElem? (i := 793) (by decide +kernel)), by decide⟩
theorem wo_yX4_advise : Cond.selects yX4_advise.cls yX4_advise yX4_advise ∈ lw_all := List.mem_filter.mpr ⟨List.mem_append_right _ (List.mem_of_getElem? (i := 794) (by decide +kernel)), by decide⟩
theorem wk_yX4_advise : Cond.code yX4_advise cX4_advise 6 (some .int) ∈ lw_all := List.mem_filter.mpr ⟨List.mem_append_right _ (List.mem_of_getElem? (i := 795) (by decide +kernel)), by decide⟩
theorem wm_L_129 : Cond.methodLink RL 129 yX4_mean ∈ lw_all := List.mem_filter.mpr ⟨List.mem_append_right _ (List.mem_of_getElem? (i := 796) (by decide +kernel)), by decide⟩
theorem wn_yX4_mean : Cond.instanceMethod yX4_mean ∈ lw_all := List.mem_filter.mpr ⟨List.mem_append_right _ (List.mem_of_getElem? (i := 797) (by decide +kernel)), by decide⟩
theorem wo_yX4_mean : Cond.selects yX4_mean.cls yX4_mean yX4_mean ∈ lw_all := List.mem_filter.mpr ⟨List.mem_append_right _ (List.mem_of_getElem? (i := 798) (by decide +kernel)), by decide⟩
theorem wk_yX4_mean : Cond.code yX4_mean cX4_mean 3 (some .double) ∈ lw_all := List.mem_filter.mpr ⟨List.mem_append_right _ (List.mem_of_getElem? (i := 799) (by decide +kernel)), by decide⟩
theorem wm_L_134 : Cond.methodLink RL 134 yX4_digest ∈ lw_all := List.mem_filter.mpr ⟨List.mem_append_right _ (List.mem_of_getElem? (i := 800) (by decide +kernel)), by decide⟩
theorem wn_yX4_digest : Cond.instanceMethod yX4_digest ∈ lw_all := List.mem_filter.mpr ⟨List.mem_append_right _ (List.mem_of_getElem? (i := 801) (by decide +kernel)), by decide⟩
theorem wo_yX4_digest : Cond.selects yX4_digest.cls yX4_digest yX4_digest ∈ lw_all := List.mem_filter.mpr ⟨List.mem_append_right _ (List.mem_of_getElem? (i := 802) (by decide +kernel)), by decide⟩
theorem wk_yX4_digest : Cond.code yX4_digest cX4_digest 6 (some .long) ∈ lw_all := List.mem_filter.mpr ⟨List.mem_append_right _ (List.mem_of_getElem? (i := 803) (by decide +kernel)), by decide⟩
theorem wc_X4_127 : Cond.constantLong RX4 127 (1759) ∈ lw_all := List.mem_filter.mpr ⟨List.mem_append_right _ (List.mem_of_getElem? (i := 804) (by decide +kernel)), by decide⟩
theorem wc_X4_129 : Cond.constantLong RX4 129 (31) ∈ lw_all := List.mem_filter.mpr ⟨List.mem_append_right _ (List.mem_of_getElem? (i := 805) (by decide +kernel)), by decide⟩
theorem wa_long : Cond.arrayClass .long ∈ lw_all := List.mem_filter.mpr ⟨List.mem_append_right _ (List.mem_of_getElem? (i := 806) (by decide +kernel)), by decide⟩
theorem wo_yX2_digestOfBoat : Cond.selects yX2_digestOfBoat.cls yX2_digestOfBoat yX2_digestOfBoat ∈ lw_all := List.mem_filter.mpr ⟨List.mem_append_left _ (List.mem_of_getElem? (i := 0) (by decide +kernel)), by decide⟩
theorem wo_yX2_needBoat : Cond.selects yX2_needBoat.cls yX2_needBoat yX2_needBoat ∈ lw_all := List.mem_filter.mpr ⟨List.mem_append_left _ (List.mem_of_getElem? (i := 2) (by decide +kernel)), by decide⟩
theorem wo_yX2_needBelow : Cond.selects yX2_needBelow.cls yX2_needBelow yX2_needBelow ∈ lw_all := List.mem_filter.mpr ⟨List.mem_append_left _ (List.mem_of_getElem? (i := 3) (by decide +kernel)), by decide⟩
theorem wo_yX2_needHours : Cond.selects yX2_needHours.cls yX2_needHours yX2_needHours ∈ lw_all := List.mem_filter.mpr ⟨List.mem_append_left _ (List.mem_of_getElem? (i := 4) (by decide +kernel)), by decide⟩
theorem wo_yX4_no : Cond.selects yX4_no.cls yX4_no yX4_no ∈ lw_all := List.mem_filter.mpr ⟨List.mem_append_left _ (List.mem_of_getElem? (i := 5) (by decide +kernel)), by decide⟩
theorem wo_yX4_isBoat : Cond.selects yX4_isBoat.cls yX4_isBoat yX4_isBoat ∈ lw_all := List.mem_filter.mpr ⟨List.mem_append_left _ (List.mem_of_getElem? (i := 6) (by decide +kernel)), by decide⟩
theorem wo_yX3_stand : Cond.selects yX3_stand.cls yX3_stand yX3_stand ∈ lw_all := List.mem_filter.mpr ⟨List.mem_append_left _ (List.mem_of_getElem? (i := 7) (by decide +kernel)), by decide⟩
theorem wo_yX3_hearOf : Cond.selects yX3_hearOf.cls yX3_hearOf yX3_hearOf ∈ lw_all := List.mem_filter.mpr ⟨List.mem_append_left _ (List.mem_of_getElem? (i := 8) (by decide +kernel)), by decide⟩
theorem wo_yX3_tell : Cond.selects yX3_tell.cls yX3_tell yX3_tell ∈ lw_all := List.mem_filter.mpr ⟨List.mem_append_left _ (List.mem_of_getElem? (i := 9) (by decide +kernel)), by decide⟩
theorem wo_yX3_takeFrom : Cond.selects yX3_takeFrom.cls yX3_takeFrom yX3_takeFrom ∈ lw_all := List.mem_filter.mpr ⟨List.mem_append_left _ (List.mem_of_getElem? (i := 10) (by decide +kernel)), by decide⟩
theorem wo_yX3_commit : Cond.selects yX3_commit.cls yX3_commit yX3_commit ∈ lw_all := List.mem_filter.mpr ⟨List.mem_append_left _ (List.mem_of_getElem? (i := 11) (by decide +kernel)), by decide⟩
theorem wo_yX4_boatTold : Cond.selects yX4_boatTold.cls yX4_boatTold yX4_boatTold ∈ lw_all := List.mem_filter.mpr ⟨List.mem_append_left _ (List.mem_of_getElem? (i := 12) (by decide +kernel)), by decide⟩
theorem wo_yX4_entryTold : Cond.selects yX4_entryTold.cls yX4_entryTold yX4_entryTold ∈ lw_all := List.mem_filter.mpr ⟨List.mem_append_left _ (List.mem_of_getElem? (i := 13) (by decide +kernel)), by decide⟩
theorem wo_yX4_harbourTold : Cond.selects yX4_harbourTold.cls yX4_harbourTold yX4_harbourTold ∈ lw_all := List.mem_filter.mpr ⟨List.mem_append_left _ (List.mem_of_getElem? (i := 14) (by decide +kernel)), by decide⟩
theorem wu_X0 : ∀ w ∈ u_ws RX0 TX0 13, w ∈ lw_all := fun w hw => by
  have h : ∀ w ∈ u_ws RX0 TX0 13, goodWord w = true := by decide +kernel
  refine List.mem_filter.mpr ⟨List.mem_append_right _ ?_, h w hw⟩
  have h2 : u_ws RX0 TX0 13 = [73, 75, 77, 79, 81, 83, 85, 87, 89, 91, 93, 95, 97].filterMap (fun i => tables_1[i]?) := by decide +kernel
  rw [h2] at hw
  obtain ⟨i, -, hi⟩ := List.mem_filterMap.mp hw
  exact List.mem_of_getElem? hi
theorem wu_X1 : ∀ w ∈ u_ws RX1 TX1 4, w ∈ lw_all := fun w hw => by
  have h : ∀ w ∈ u_ws RX1 TX1 4, goodWord w = true := by decide +kernel
  refine List.mem_filter.mpr ⟨List.mem_append_right _ ?_, h w hw⟩
  have h2 : u_ws RX1 TX1 4 = [42, 44, 46, 48].filterMap (fun i => tables_1[i]?) := by decide +kernel
  rw [h2] at hw
  obtain ⟨i, -, hi⟩ := List.mem_filterMap.mp hw
  exact List.mem_of_getElem? hi
theorem wu_X2 : ∀ w ∈ u_ws RX2 TX2 2, w ∈ lw_all := fun w hw => by
  have h : ∀ w ∈ u_ws RX2 TX2 2, goodWord w = true := by decide +kernel
  refine List.mem_filter.mpr ⟨List.mem_append_right _ ?_, h w hw⟩
  have h2 : u_ws RX2 TX2 2 = [116, 118].filterMap (fun i => tables_1[i]?) := by decide +kernel
  rw [h2] at hw
  obtain ⟨i, -, hi⟩ := List.mem_filterMap.mp hw
  exact List.mem_of_getElem? hi
theorem wu_X3 : ∀ w ∈ u_ws RX3 TX3 16, w ∈ lw_all := fun w hw => by
  have h : ∀ w ∈ u_ws RX3 TX3 16, goodWord w = true := by decide +kernel
  refine List.mem_filter.mpr ⟨List.mem_append_right _ ?_, h w hw⟩
  have h2 : u_ws RX3 TX3 16 = [580, 582, 584, 586, 588, 590, 592, 594, 596, 598, 600, 602, 604, 606, 608, 610].filterMap (fun i => tables_1[i]?) := by decide +kernel
  rw [h2] at hw
  obtain ⟨i, -, hi⟩ := List.mem_filterMap.mp hw
  exact List.mem_of_getElem? hi
theorem wu_X4 : ∀ w ∈ u_ws RX4 TX4 3, w ∈ lw_all := fun w hw => by
  have h : ∀ w ∈ u_ws RX4 TX4 3, goodWord w = true := by decide +kernel
  refine List.mem_filter.mpr ⟨List.mem_append_right _ ?_, h w hw⟩
  have h2 : u_ws RX4 TX4 3 = [616, 618, 620].filterMap (fun i => tables_1[i]?) := by decide +kernel
  rw [h2] at hw
  obtain ⟨i, -, hi⟩ := List.mem_filterMap.mp hw
  exact List.mem_of_getElem? hi
theorem wq_yX2_init : zCal yX2_init cX2_init 1 none 0 := ⟨wk_yX2_init, wi_X2, by decide, by decide, by decide +kernel⟩
theorem wq_yX0_init : zCal yX0_init cX0_init 1 none 0 := ⟨wk_yX0_init, wi_X0, by decide, by decide, by decide +kernel⟩
theorem wq_yX1_init : zCal yX1_init cX1_init 1 none 0 := ⟨wk_yX1_init, wi_X1, by decide, by decide, by decide +kernel⟩
theorem wq_yX0_begin : zCal yX0_begin cX0_begin 3 none 1 := ⟨wk_yX0_begin, wi_X0, by decide, by decide, by decide +kernel⟩
theorem wq_yX1_clear : zCal yX1_clear cX1_clear 2 none 1 := ⟨wk_yX1_clear, wi_X1, by decide, by decide, by decide +kernel⟩
theorem wq_yX2_leader : zCal yX2_leader cX2_leader 3 (some .int) 0 := ⟨wk_yX2_leader, wi_X2, by decide, by decide, by decide +kernel⟩
theorem wq_yX0_leadsNow : zCal yX0_leadsNow cX0_leadsNow 2 (some .boolean) 1 := ⟨wk_yX0_leadsNow, wi_X0, by decide, by decide, by decide +kernel⟩
theorem wq_yX2_until : zCal yX2_until cX2_until 2 (some .int) 0 := ⟨wk_yX2_until, wi_X2, by decide, by decide, by decide +kernel⟩
theorem wq_yX0_copyFrom : zCal yX0_copyFrom cX0_copyFrom 3 none 1 := ⟨wk_yX0_copyFrom, wi_X0, by decide, by decide, by decide +kernel⟩
theorem wq_yX1_copyFrom : zCal yX1_copyFrom cX1_copyFrom 2 none 1 := ⟨wk_yX1_copyFrom, wi_X1, by decide, by decide, by decide +kernel⟩
theorem wq_yX0_isLed : zCal yX0_isLed cX0_isLed 2 (some .boolean) 0 := ⟨wk_yX0_isLed, wi_X0, by decide, by decide, by decide +kernel⟩
theorem wq_yX0_upIn : zCal yX0_upIn cX0_upIn 4 (some .int) 1 := ⟨wk_yX0_upIn, wi_X0, by decide, by decide, by decide +kernel⟩
theorem wq_yX0_isMoreThanHalf : zCal yX0_isMoreThanHalf cX0_isMoreThanHalf 2 (some .boolean) 1 := ⟨wk_yX0_isMoreThanHalf, wi_X0, by decide, by decide, by decide +kernel⟩
theorem wq_yX0_passHours : zCal yX0_passHours cX0_passHours 3 none 1 := ⟨wk_yX0_passHours, wi_X0, by decide, by decide, by decide +kernel⟩
theorem wq_yX0_runClocks : zCal yX0_runClocks cX0_runClocks 2 none 0 := ⟨wk_yX0_runClocks, wi_X0, by decide, by decide, by decide +kernel⟩
theorem wq_yX0_stand : zCal yX0_stand cX0_stand 4 none 1 := ⟨wk_yX0_stand, wi_X0, by decide, by decide, by decide +kernel⟩
theorem wq_yX0_hear : zCal yX0_hear cX0_hear 3 (some .boolean) 2 := ⟨wk_yX0_hear, wi_X0, by decide, by decide, by decide +kernel⟩
theorem wq_yX0_givesVote : zCal yX0_givesVote cX0_givesVote 4 (some .boolean) 2 := ⟨wk_yX0_givesVote, wi_X0, by decide, by decide, by decide +kernel⟩
theorem wq_yX0_meetTerms : zCal yX0_meetTerms cX0_meetTerms 3 (some .boolean) 2 := ⟨wk_yX0_meetTerms, wi_X0, by decide, by decide, by decide +kernel⟩
theorem wq_yX0_takeTerm : zCal yX0_takeTerm cX0_takeTerm 3 none 2 := ⟨wk_yX0_takeTerm, wi_X0, by decide, by decide, by decide +kernel⟩
theorem wq_yX1_asNew : zCal yX1_asNew cX1_asNew 5 (some .boolean) 2 := ⟨wk_yX1_asNew, wi_X1, by decide, by decide, by decide +kernel⟩
theorem wq_yX1_lastTerm : zCal yX1_lastTerm cX1_lastTerm 2 (some .int) 1 := ⟨wk_yX1_lastTerm, wi_X1, by decide, by decide, by decide +kernel⟩
theorem wq_yX0_tellAll : zCal yX0_tellAll cX0_tellAll 2 none 0 := ⟨wk_yX0_tellAll, wi_X0, by decide, by decide, by decide +kernel⟩
theorem wq_yX0_tellOthers : zCal yX0_tellOthers cX0_tellOthers 3 none 1 := ⟨wk_yX0_tellOthers, wi_X0, by decide, by decide, by decide +kernel⟩
theorem wq_yX0_tell : zCal yX0_tell cX0_tell 3 none 2 := ⟨wk_yX0_tell, wi_X0, by decide, by decide, by decide +kernel⟩
theorem wq_yX1_mend : zCal yX1_mend cX1_mend 4 (some .boolean) 2 := ⟨wk_yX1_mend, wi_X1, by decide, by decide, by decide +kernel⟩
theorem wq_yX1_agreement : zCal yX1_agreement cX1_agreement 7 (some .int) 2 := ⟨wk_yX1_agreement, wi_X1, by decide, by decide, by decide +kernel⟩
theorem wq_yX1_loseLast : zCal yX1_loseLast cX1_loseLast 2 none 1 := ⟨wk_yX1_loseLast, wi_X1, by decide, by decide, by decide +kernel⟩
theorem wq_yX1_termAt : zCal yX1_termAt cX1_termAt 3 (some .int) 2 := ⟨wk_yX1_termAt, wi_X1, by decide, by decide, by decide +kernel⟩
theorem wq_yX1_fishAt : zCal yX1_fishAt cX1_fishAt 3 (some .int) 2 := ⟨wk_yX1_fishAt, wi_X1, by decide, by decide, by decide +kernel⟩
theorem wq_yX1_append : zCal yX1_append cX1_append 5 none 3 := ⟨wk_yX1_append, wi_X1, by decide, by decide, by decide +kernel⟩
theorem wq_yX1_learnCommitted : zCal yX1_learnCommitted cX1_learnCommitted 4 none 2 := ⟨wk_yX1_learnCommitted, wi_X1, by decide, by decide, by decide +kernel⟩
theorem wq_yX0_commitAll : zCal yX0_commitAll cX0_commitAll 2 none 0 := ⟨wk_yX0_commitAll, wi_X0, by decide, by decide, by decide +kernel⟩
theorem wq_yX0_commit : zCal yX0_commit cX0_commit 3 none 1 := ⟨wk_yX0_commit, wi_X0, by decide, by decide, by decide +kernel⟩
theorem wq_yX0_hearersThatAgree : zCal yX0_hearersThatAgree cX0_hearersThatAgree 5 (some .int) 2 := ⟨wk_yX0_hearersThatAgree, wi_X0, by decide, by decide, by decide +kernel⟩
theorem wq_yX2_mean : zCal yX2_mean cX2_mean 3 (some .double) 0 := ⟨wk_yX2_mean, wi_X2, by decide, by decide, by decide +kernel⟩
theorem wq_yX2_digest : zCal yX2_digest cX2_digest 4 (some .long) 0 := ⟨wk_yX2_digest, wi_X2, by decide, by decide, by decide +kernel⟩
theorem wq_yX0_ofFleet : zCal yX0_ofFleet cX0_ofFleet 2 (some .int) 1 := ⟨wk_yX0_ofFleet, wi_X0, by decide, by decide, by decide +kernel⟩
theorem wq_yX0_boatsUp : zCal yX0_boatsUp cX0_boatsUp 3 (some .int) 0 := ⟨wk_yX0_boatsUp, wi_X0, by decide, by decide, by decide +kernel⟩
theorem wq_yX0_boatsLeading : zCal yX0_boatsLeading cX0_boatsLeading 3 (some .int) 0 := ⟨wk_yX0_boatsLeading, wi_X0, by decide, by decide, by decide +kernel⟩
theorem wq_yX0_greatestTerm : zCal yX0_greatestTerm cX0_greatestTerm 3 (some .int) 0 := ⟨wk_yX0_greatestTerm, wi_X0, by decide, by decide, by decide +kernel⟩
theorem wq_yX0_mostKnown : zCal yX0_mostKnown cX0_mostKnown 3 (some .int) 0 := ⟨wk_yX0_mostKnown, wi_X0, by decide, by decide, by decide +kernel⟩
theorem wq_yX0_fewestKnown : zCal yX0_fewestKnown cX0_fewestKnown 3 (some .int) 0 := ⟨wk_yX0_fewestKnown, wi_X0, by decide, by decide, by decide +kernel⟩
theorem wq_yX2_digestOfBoat : zCal yX2_digestOfBoat cX2_digestOfBoat 8 (some .long) 2 := ⟨wk_yX2_digestOfBoat, wi_X2, by decide, by decide, by decide +kernel⟩
theorem wq_yX0_ofBoat : zCal yX0_ofBoat cX0_ofBoat 3 (some .int) 2 := ⟨wk_yX0_ofBoat, wi_X0, by decide, by decide, by decide +kernel⟩
theorem wq_yX0_ofEntry : zCal yX0_ofEntry cX0_ofEntry 4 (some .int) 3 := ⟨wk_yX0_ofEntry, wi_X0, by decide, by decide, by decide +kernel⟩
theorem wq_yX0_boatsThatAgree : zCal yX0_boatsThatAgree cX0_boatsThatAgree 5 (some .int) 2 := ⟨wk_yX0_boatsThatAgree, wi_X0, by decide, by decide, by decide +kernel⟩
theorem wq_yX2_fleet : zCal yX2_fleet cX2_fleet 2 (some .int) 1 := ⟨wk_yX2_fleet, wi_X2, by decide, by decide, by decide +kernel⟩
theorem wq_yX2_setPatience : zCal yX2_setPatience cX2_setPatience 4 (some .int) 2 := ⟨wk_yX2_setPatience, wi_X2, by decide, by decide, by decide +kernel⟩
theorem wq_yX2_needBoat : zCal yX2_needBoat cX2_needBoat 2 none 1 := ⟨wk_yX2_needBoat, wi_X2, by decide, by decide, by decide +kernel⟩
theorem wq_yX2_go : zCal yX2_go cX2_go 4 (some .int) 2 := ⟨wk_yX2_go, wi_X2, by decide, by decide, by decide +kernel⟩
theorem wq_yX2_needBelow : zCal yX2_needBelow cX2_needBelow 3 none 2 := ⟨wk_yX2_needBelow, wi_X2, by decide, by decide, by decide +kernel⟩
theorem wq_yX2_sink : zCal yX2_sink cX2_sink 2 (some .boolean) 1 := ⟨wk_yX2_sink, wi_X2, by decide, by decide, by decide +kernel⟩
theorem wq_yX0_raise : zCal yX0_raise cX0_raise 2 none 1 := ⟨wk_yX0_raise, wi_X0, by decide, by decide, by decide +kernel⟩
theorem wq_yX2_write : zCal yX2_write cX2_write 3 (some .int) 2 := ⟨wk_yX2_write, wi_X2, by decide, by decide, by decide +kernel⟩
theorem wq_yX2_pass : zCal yX2_pass cX2_pass 3 (some .int) 1 := ⟨wk_yX2_pass, wi_X2, by decide, by decide, by decide +kernel⟩
theorem wq_yX2_needHours : zCal yX2_needHours cX2_needHours 3 none 2 := ⟨wk_yX2_needHours, wi_X2, by decide, by decide, by decide +kernel⟩
theorem wq_yX2_told : zCal yX2_told cX2_told 3 (some .int) 2 := ⟨wk_yX2_told, wi_X2, by decide, by decide, by decide +kernel⟩
theorem wq_yX2_entry : zCal yX2_entry cX2_entry 4 (some .int) 3 := ⟨wk_yX2_entry, wi_X2, by decide, by decide, by decide +kernel⟩
theorem wq_yX2_agree : zCal yX2_agree cX2_agree 3 (some .int) 2 := ⟨wk_yX2_agree, wi_X2, by decide, by decide, by decide +kernel⟩
theorem wq_yX2_newer : zCal yX2_newer cX2_newer 3 (some .boolean) 2 := ⟨wk_yX2_newer, wi_X2, by decide, by decide, by decide +kernel⟩
theorem wq_yX2_count : zCal yX2_count cX2_count 2 (some .int) 1 := ⟨wk_yX2_count, wi_X2, by decide, by decide, by decide +kernel⟩
theorem wq_yX2_harbour : zCal yX2_harbour cX2_harbour 4 (some .int) 2 := ⟨wk_yX2_harbour, wi_X2, by decide, by decide, by decide +kernel⟩
theorem wq_yX0_newestIn : zCal yX0_newestIn cX0_newestIn 4 (some .int) 1 := ⟨wk_yX0_newestIn, wi_X0, by decide, by decide, by decide +kernel⟩
theorem wq_yX2_foresee : zCal yX2_foresee cX2_foresee 3 (some .int) 2 := ⟨wk_yX2_foresee, wi_X2, by decide, by decide, by decide +kernel⟩
theorem wq_yX2_advise : zCal yX2_advise cX2_advise 7 (some .int) 2 := ⟨wk_yX2_advise, wi_X2, by decide, by decide, by decide +kernel⟩
theorem wq_yX4_init : zCal yX4_init cX4_init 1 none 0 := ⟨wk_yX4_init, wi_X4, by decide, by decide, by decide +kernel⟩
theorem wq_yX3_init : zCal yX3_init cX3_init 1 none 0 := ⟨wk_yX3_init, wi_X3, by decide, by decide, by decide +kernel⟩
theorem wq_yX3_begin : zCal yX3_begin cX3_begin 3 none 1 := ⟨wk_yX3_begin, wi_X3, by decide, by decide, by decide +kernel⟩
theorem wq_yX4_thrown : zCal yX4_thrown cX4_thrown 1 (some .int) 0 := ⟨wk_yX4_thrown, wi_X4, by decide, by decide, by decide +kernel⟩
theorem wq_yX4_fleet : zCal yX4_fleet cX4_fleet 2 (some .int) 1 := ⟨wk_yX4_fleet, wi_X4, by decide, by decide, by decide +kernel⟩
theorem wq_yX4_isIn : zCal yX4_isIn cX4_isIn 3 (some .boolean) 3 := ⟨wk_yX4_isIn, wi_X4, by decide, by decide, by decide +kernel⟩
theorem wq_yX4_no : zCal yX4_no cX4_no 2 (some .int) 1 := ⟨wk_yX4_no, wi_X4, by decide, by decide, by decide +kernel⟩
theorem wq_yX4_setPatience : zCal yX4_setPatience cX4_setPatience 4 (some .int) 2 := ⟨wk_yX4_setPatience, wi_X4, by decide, by decide, by decide +kernel⟩
theorem wq_yX4_isBoat : zCal yX4_isBoat cX4_isBoat 2 (some .boolean) 1 := ⟨wk_yX4_isBoat, wi_X4, by decide, by decide, by decide +kernel⟩
theorem wq_yX4_go : zCal yX4_go cX4_go 4 (some .int) 2 := ⟨wk_yX4_go, wi_X4, by decide, by decide, by decide +kernel⟩
theorem wq_yX4_sink : zCal yX4_sink cX4_sink 2 (some .boolean) 1 := ⟨wk_yX4_sink, wi_X4, by decide, by decide, by decide +kernel⟩
theorem wq_yX4_write : zCal yX4_write cX4_write 3 (some .int) 2 := ⟨wk_yX4_write, wi_X4, by decide, by decide, by decide +kernel⟩
theorem wq_yX3_isUp : zCal yX3_isUp cX3_isUp 3 (some .boolean) 2 := ⟨wk_yX3_isUp, wi_X3, by decide, by decide, by decide +kernel⟩
theorem wq_yX3_add : zCal yX3_add cX3_add 4 none 3 := ⟨wk_yX3_add, wi_X3, by decide, by decide, by decide +kernel⟩
theorem wq_yX4_pass : zCal yX4_pass cX4_pass 3 (some .int) 1 := ⟨wk_yX4_pass, wi_X4, by decide, by decide, by decide +kernel⟩
theorem wq_yX3_passOn : zCal yX3_passOn cX3_passOn 3 none 1 := ⟨wk_yX3_passOn, wi_X3, by decide, by decide, by decide +kernel⟩
theorem wq_yX3_pass : zCal yX3_pass cX3_pass 2 none 0 := ⟨wk_yX3_pass, wi_X3, by decide, by decide, by decide +kernel⟩
theorem wq_yX3_stand : zCal yX3_stand cX3_stand 4 none 1 := ⟨wk_yX3_stand, wi_X3, by decide, by decide, by decide +kernel⟩
theorem wq_yX3_hear : zCal yX3_hear cX3_hear 3 (some .boolean) 2 := ⟨wk_yX3_hear, wi_X3, by decide, by decide, by decide +kernel⟩
theorem wq_yX3_hearOf : zCal yX3_hearOf cX3_hearOf 3 none 2 := ⟨wk_yX3_hearOf, wi_X3, by decide, by decide, by decide +kernel⟩
theorem wq_yX3_isAsNew : zCal yX3_isAsNew cX3_isAsNew 3 (some .boolean) 2 := ⟨wk_yX3_isAsNew, wi_X3, by decide, by decide, by decide +kernel⟩
theorem wq_yX3_lastTerm : zCal yX3_lastTerm cX3_lastTerm 2 (some .int) 1 := ⟨wk_yX3_lastTerm, wi_X3, by decide, by decide, by decide +kernel⟩
theorem wq_yX3_isMore : zCal yX3_isMore cX3_isMore 2 (some .boolean) 1 := ⟨wk_yX3_isMore, wi_X3, by decide, by decide, by decide +kernel⟩
theorem wq_yX3_tell : zCal yX3_tell cX3_tell 3 none 1 := ⟨wk_yX3_tell, wi_X3, by decide, by decide, by decide +kernel⟩
theorem wq_yX3_takeFrom : zCal yX3_takeFrom cX3_takeFrom 4 none 2 := ⟨wk_yX3_takeFrom, wi_X3, by decide, by decide, by decide +kernel⟩
theorem wq_yX3_agree : zCal yX3_agree cX3_agree 4 (some .int) 2 := ⟨wk_yX3_agree, wi_X3, by decide, by decide, by decide +kernel⟩
theorem wq_yX3_commit : zCal yX3_commit cX3_commit 5 none 1 := ⟨wk_yX3_commit, wi_X3, by decide, by decide, by decide +kernel⟩
theorem wq_yX4_told : zCal yX4_told cX4_told 3 (some .int) 2 := ⟨wk_yX4_told, wi_X4, by decide, by decide, by decide +kernel⟩
theorem wq_yX4_boatTold : zCal yX4_boatTold cX4_boatTold 3 (some .int) 2 := ⟨wk_yX4_boatTold, wi_X4, by decide, by decide, by decide +kernel⟩
theorem wq_yX4_entry : zCal yX4_entry cX4_entry 4 (some .int) 3 := ⟨wk_yX4_entry, wi_X4, by decide, by decide, by decide +kernel⟩
theorem wq_yX4_entryTold : zCal yX4_entryTold cX4_entryTold 6 (some .int) 3 := ⟨wk_yX4_entryTold, wi_X4, by decide, by decide, by decide +kernel⟩
theorem wq_yX4_agree : zCal yX4_agree cX4_agree 3 (some .int) 2 := ⟨wk_yX4_agree, wi_X4, by decide, by decide, by decide +kernel⟩
theorem wq_yX4_newer : zCal yX4_newer cX4_newer 3 (some .boolean) 2 := ⟨wk_yX4_newer, wi_X4, by decide, by decide, by decide +kernel⟩
theorem wq_yX4_leader : zCal yX4_leader cX4_leader 3 (some .int) 0 := ⟨wk_yX4_leader, wi_X4, by decide, by decide, by decide +kernel⟩
theorem wq_yX4_count : zCal yX4_count cX4_count 2 (some .int) 1 := ⟨wk_yX4_count, wi_X4, by decide, by decide, by decide +kernel⟩
theorem wq_yX3_counted : zCal yX3_counted cX3_counted 8 (some .int) 1 := ⟨wk_yX3_counted, wi_X3, by decide, by decide, by decide +kernel⟩
theorem wq_yX4_harbour : zCal yX4_harbour cX4_harbour 3 (some .int) 2 := ⟨wk_yX4_harbour, wi_X4, by decide, by decide, by decide +kernel⟩
theorem wq_yX4_harbourTold : zCal yX4_harbourTold cX4_harbourTold 6 (some .int) 2 := ⟨wk_yX4_harbourTold, wi_X4, by decide, by decide, by decide +kernel⟩
theorem wq_yX4_until : zCal yX4_until cX4_until 2 (some .int) 0 := ⟨wk_yX4_until, wi_X4, by decide, by decide, by decide +kernel⟩
theorem wq_yX3_become : zCal yX3_become cX3_become 2 none 1 := ⟨wk_yX3_become, wi_X3, by decide, by decide, by decide +kernel⟩
theorem wq_yX3_copy : zCal yX3_copy cX3_copy 2 none 2 := ⟨wk_yX3_copy, wi_X3, by decide, by decide, by decide +kernel⟩
theorem wq_yX3_isLed : zCal yX3_isLed cX3_isLed 4 (some .boolean) 0 := ⟨wk_yX3_isLed, wi_X3, by decide, by decide, by decide +kernel⟩
theorem wq_yX4_foresee : zCal yX4_foresee cX4_foresee 3 (some .int) 2 := ⟨wk_yX4_foresee, wi_X4, by decide, by decide, by decide +kernel⟩
theorem wq_yX4_advise : zCal yX4_advise cX4_advise 6 (some .int) 2 := ⟨wk_yX4_advise, wi_X4, by decide, by decide, by decide +kernel⟩
theorem wq_yX4_mean : zCal yX4_mean cX4_mean 3 (some .double) 0 := ⟨wk_yX4_mean, wi_X4, by decide, by decide, by decide +kernel⟩
theorem wq_yX4_digest : zCal yX4_digest cX4_digest 6 (some .long) 0 := ⟨wk_yX4_digest, wi_X4, by decide, by decide, by decide +kernel⟩
