/-! which words stand in the tables, by their places -/
theorem wm_L_15 : Cond.methodLink RL 15 yL_below ∈ lw_all := List.mem_filter.mpr ⟨List.mem_append_right _ (List.mem_of_getElem? (i := 500) (by decide +kernel)), by decide⟩
theorem ws_yL_below : Cond.static yL_below ∈ lw_all := List.mem_filter.mpr ⟨List.mem_append_right _ (List.mem_of_getElem? (i := 501) (by decide +kernel)), by decide⟩
set_option maxRecDepth 100000 in
theorem wk_yL_below : Cond.code yL_below cL_below 2 (some .int) ∈ lw_all := List.mem_filter.mpr ⟨List.mem_append_right _ (List.mem_of_getElem? (i := 502) rfl), by decide⟩
theorem wc_L_7 : Cond.constant RL 7 (2147483647) ∈ lw_all := List.mem_filter.mpr ⟨List.mem_append_right _ (List.mem_of_getElem? (i := 503) (by decide +kernel)), by decide⟩
theorem wm_L_82 : Cond.methodLink RL 82 yL_cell ∈ lw_all := List.mem_filter.mpr ⟨List.mem_append_right _ (List.mem_of_getElem? (i := 504) (by decide +kernel)), by decide⟩
theorem ws_yL_cell : Cond.static yL_cell ∈ lw_all := List.mem_filter.mpr ⟨List.mem_append_right _ (List.mem_of_getElem? (i := 505) (by decide +kernel)), by decide⟩
set_option maxRecDepth 100000 in
theorem wk_yL_cell : Cond.code yL_cell cL_cell 2 (some .int) ∈ lw_all := List.mem_filter.mpr ⟨List.mem_append_right _ (List.mem_of_getElem? (i := 506) rfl), by decide⟩
theorem wc_L_8 : Cond.constant RL 8 (790386105) ∈ lw_all := List.mem_filter.mpr ⟨List.mem_append_right _ (List.mem_of_getElem? (i := 507) (by decide +kernel)), by decide⟩
theorem wm_L_92 : Cond.methodLink RL 92 yL_act ∈ lw_all := List.mem_filter.mpr ⟨List.mem_append_right _ (List.mem_of_getElem? (i := 508) (by decide +kernel)), by decide⟩
theorem ws_yL_act : Cond.static yL_act ∈ lw_all := List.mem_filter.mpr ⟨List.mem_append_right _ (List.mem_of_getElem? (i := 509) (by decide +kernel)), by decide⟩
set_option maxRecDepth 100000 in
theorem wk_yL_act : Cond.codeWith yL_act cL_act 13 (some .boolean) [(459, 486, 504, 71), (487, 501, 504, 71)] ∈ lw_all := List.mem_filter.mpr ⟨List.mem_append_right _ (List.mem_of_getElem? (i := 510) rfl), by decide⟩
theorem wl_L_71 : Cond.classLink RL 71 "java/lang/IllegalStateException" ∈ lw_all := List.mem_filter.mpr ⟨List.mem_append_right _ (List.mem_of_getElem? (i := 511) (by decide +kernel)), by decide⟩
theorem wm_L_27 : Cond.methodLink RL 27 yX2_setPatience ∈ lw_all := List.mem_filter.mpr ⟨List.mem_append_right _ (List.mem_of_getElem? (i := 512) (by decide +kernel)), by decide⟩
theorem wn_yX2_setPatience : Cond.instanceMethod yX2_setPatience ∈ lw_all := List.mem_filter.mpr ⟨List.mem_append_right _ (List.mem_of_getElem? (i := 513) (by decide +kernel)), by decide⟩
theorem wo_yX2_setPatience : Cond.selects yX2_setPatience.cls yX2_setPatience yX2_setPatience ∈ lw_all := List.mem_filter.mpr ⟨List.mem_append_right _ (List.mem_of_getElem? (i := 514) (by decide +kernel)), by decide⟩
set_option maxRecDepth 100000 in
theorem wk_yX2_setPatience : Cond.code yX2_setPatience cX2_setPatience 4 (some .int) ∈ lw_all := List.mem_filter.mpr ⟨List.mem_append_right _ (List.mem_of_getElem? (i := 515) rfl), by decide⟩
theorem wm_L_35 : Cond.methodLink RL 35 yX2_go ∈ lw_all := List.mem_filter.mpr ⟨List.mem_append_right _ (List.mem_of_getElem? (i := 517) (by decide +kernel)), by decide⟩
theorem wn_yX2_go : Cond.instanceMethod yX2_go ∈ lw_all := List.mem_filter.mpr ⟨List.mem_append_right _ (List.mem_of_getElem? (i := 518) (by decide +kernel)), by decide⟩
theorem wo_yX2_go : Cond.selects yX2_go.cls yX2_go yX2_go ∈ lw_all := List.mem_filter.mpr ⟨List.mem_append_right _ (List.mem_of_getElem? (i := 519) (by decide +kernel)), by decide⟩
set_option maxRecDepth 100000 in
theorem wk_yX2_go : Cond.code yX2_go cX2_go 4 (some .int) ∈ lw_all := List.mem_filter.mpr ⟨List.mem_append_right _ (List.mem_of_getElem? (i := 520) rfl), by decide⟩
theorem wm_L_51 : Cond.methodLink RL 51 yX2_sink ∈ lw_all := List.mem_filter.mpr ⟨List.mem_append_right _ (List.mem_of_getElem? (i := 521) (by decide +kernel)), by decide⟩
theorem wn_yX2_sink : Cond.instanceMethod yX2_sink ∈ lw_all := List.mem_filter.mpr ⟨List.mem_append_right _ (List.mem_of_getElem? (i := 522) (by decide +kernel)), by decide⟩
theorem wo_yX2_sink : Cond.selects yX2_sink.cls yX2_sink yX2_sink ∈ lw_all := List.mem_filter.mpr ⟨List.mem_append_right _ (List.mem_of_getElem? (i := 523) (by decide +kernel)), by decide⟩
set_option maxRecDepth 100000 in
theorem wk_yX2_sink : Cond.code yX2_sink cX2_sink 2 (some .boolean) ∈ lw_all := List.mem_filter.mpr ⟨List.mem_append_right _ (List.mem_of_getElem? (i := 524) rfl), by decide⟩
theorem wm_X2_50 : Cond.methodLink RX2 50 yX0_raise ∈ lw_all := List.mem_filter.mpr ⟨List.mem_append_right _ (List.mem_of_getElem? (i := 525) (by decide +kernel)), by decide⟩
theorem wn_yX0_raise : Cond.instanceMethod yX0_raise ∈ lw_all := List.mem_filter.mpr ⟨List.mem_append_right _ (List.mem_of_getElem? (i := 526) (by decide +kernel)), by decide⟩
theorem wo_yX0_raise : Cond.selects yX0_raise.cls yX0_raise yX0_raise ∈ lw_all := List.mem_filter.mpr ⟨List.mem_append_right _ (List.mem_of_getElem? (i := 527) (by decide +kernel)), by decide⟩
set_option maxRecDepth 100000 in
theorem wk_yX0_raise : Cond.code yX0_raise cX0_raise 2 none ∈ lw_all := List.mem_filter.mpr ⟨List.mem_append_right _ (List.mem_of_getElem? (i := 528) rfl), by decide⟩
theorem wl_L_59 : Cond.classLink RL 59 "[I" ∈ lw_all := List.mem_filter.mpr ⟨List.mem_append_right _ (List.mem_of_getElem? (i := 529) (by decide +kernel)), by decide⟩
theorem wm_L_64 : Cond.methodLink RL 64 yX2_write ∈ lw_all := List.mem_filter.mpr ⟨List.mem_append_right _ (List.mem_of_getElem? (i := 530) (by decide +kernel)), by decide⟩
theorem wn_yX2_write : Cond.instanceMethod yX2_write ∈ lw_all := List.mem_filter.mpr ⟨List.mem_append_right _ (List.mem_of_getElem? (i := 531) (by decide +kernel)), by decide⟩
theorem wo_yX2_write : Cond.selects yX2_write.cls yX2_write yX2_write ∈ lw_all := List.mem_filter.mpr ⟨List.mem_append_right _ (List.mem_of_getElem? (i := 532) (by decide +kernel)), by decide⟩
set_option maxRecDepth 100000 in
theorem wk_yX2_write : Cond.code yX2_write cX2_write 3 (some .int) ∈ lw_all := List.mem_filter.mpr ⟨List.mem_append_right _ (List.mem_of_getElem? (i := 533) rfl), by decide⟩
theorem wl_X2_59 : Cond.classLink RX2 59 "java/lang/IllegalStateException" ∈ lw_all := List.mem_filter.mpr ⟨List.mem_append_right _ (List.mem_of_getElem? (i := 535) (by decide +kernel)), by decide⟩
theorem wt_IllegalStateException : Cond.castable "java/lang/IllegalStateException" "java/lang/IllegalStateException" ∈ lw_env := List.mem_filter.mpr ⟨List.mem_append_right _ (List.mem_of_getElem? (i := 537) (by decide +kernel)), by decide⟩
theorem wm_X2_63 : Cond.methodLink RX2 63 (⟨"java/lang/IllegalStateException", "<init>", "(Ljava/lang/String;)V"⟩ : MethodName) ∈ lw_all := List.mem_filter.mpr ⟨List.mem_append_right _ (List.mem_of_getElem? (i := 545) (by decide +kernel)), by decide⟩
theorem wm_X2_78 : Cond.methodLink RX2 78 yX1_append ∈ lw_all := List.mem_filter.mpr ⟨List.mem_append_right _ (List.mem_of_getElem? (i := 552) (by decide +kernel)), by decide⟩
theorem wm_L_67 : Cond.methodLink RL 67 yX3_relog ∈ lw_all := List.mem_filter.mpr ⟨List.mem_append_right _ (List.mem_of_getElem? (i := 553) (by decide +kernel)), by decide⟩
theorem wm_L_97 : Cond.methodLink RL 97 yL_build ∈ lw_all := List.mem_filter.mpr ⟨List.mem_append_right _ (List.mem_of_getElem? (i := 554) (by decide +kernel)), by decide⟩
theorem ws_yL_build : Cond.static yL_build ∈ lw_all := List.mem_filter.mpr ⟨List.mem_append_right _ (List.mem_of_getElem? (i := 555) (by decide +kernel)), by decide⟩
set_option maxRecDepth 100000 in
theorem wk_yL_build : Cond.code yL_build cL_build 5 (some (.object "FleetTermsLaw$Sim")) ∈ lw_all := List.mem_filter.mpr ⟨List.mem_append_right _ (List.mem_of_getElem? (i := 556) rfl), by decide⟩
theorem wm_L_86 : Cond.methodLink RL 86 yX2_fleet ∈ lw_all := List.mem_filter.mpr ⟨List.mem_append_right _ (List.mem_of_getElem? (i := 557) (by decide +kernel)), by decide⟩
theorem wn_yX2_fleet : Cond.instanceMethod yX2_fleet ∈ lw_all := List.mem_filter.mpr ⟨List.mem_append_right _ (List.mem_of_getElem? (i := 558) (by decide +kernel)), by decide⟩
theorem wo_yX2_fleet : Cond.selects yX2_fleet.cls yX2_fleet yX2_fleet ∈ lw_all := List.mem_filter.mpr ⟨List.mem_append_right _ (List.mem_of_getElem? (i := 559) (by decide +kernel)), by decide⟩
set_option maxRecDepth 100000 in
theorem wk_yX2_fleet : Cond.code yX2_fleet cX2_fleet 2 (some .int) ∈ lw_all := List.mem_filter.mpr ⟨List.mem_append_right _ (List.mem_of_getElem? (i := 560) rfl), by decide⟩
theorem wl_L_10 : Cond.classLink RL 10 RX4 ∈ lw_all := List.mem_filter.mpr ⟨List.mem_append_right _ (List.mem_of_getElem? (i := 562) (by decide +kernel)), by decide⟩
theorem wm_L_89 : Cond.methodLink RL 89 yX4_init ∈ lw_all := List.mem_filter.mpr ⟨List.mem_append_right _ (List.mem_of_getElem? (i := 563) (by decide +kernel)), by decide⟩
theorem wn_yX4_init : Cond.instanceMethod yX4_init ∈ lw_all := List.mem_filter.mpr ⟨List.mem_append_right _ (List.mem_of_getElem? (i := 564) (by decide +kernel)), by decide⟩
set_option maxRecDepth 100000 in
theorem wk_yX4_init : Cond.code yX4_init cX4_init 3 none ∈ lw_all := List.mem_filter.mpr ⟨List.mem_append_right _ (List.mem_of_getElem? (i := 565) rfl), by decide⟩
theorem wm_X4_1 : Cond.methodLink RX4 1 objectInit ∈ lw_all := List.mem_filter.mpr ⟨List.mem_append_right _ (List.mem_of_getElem? (i := 566) (by decide +kernel)), by decide⟩
theorem wl_X4_7 : Cond.classLink RX4 7 RX3 ∈ lw_all := List.mem_filter.mpr ⟨List.mem_append_right _ (List.mem_of_getElem? (i := 567) (by decide +kernel)), by decide⟩
theorem wa_over_B : Cond.arrayOver (FieldType.object "FleetTermsLaw$Boat") ∈ lw_env := List.mem_filter.mpr ⟨List.mem_append_right _ (List.mem_of_getElem? (i := 568) (by decide +kernel)), by decide⟩
theorem wz_X3 : Cond.instantiable RX3 9 ∈ lw_all := List.mem_filter.mpr ⟨List.mem_append_right _ (List.mem_of_getElem? (i := 569) (by decide +kernel)), by decide⟩
theorem wm_X4_15 : Cond.methodLink RX4 15 yX3_init ∈ lw_all := List.mem_filter.mpr ⟨List.mem_append_right _ (List.mem_of_getElem? (i := 570) (by decide +kernel)), by decide⟩
theorem wn_yX3_init : Cond.instanceMethod yX3_init ∈ lw_all := List.mem_filter.mpr ⟨List.mem_append_right _ (List.mem_of_getElem? (i := 571) (by decide +kernel)), by decide⟩
set_option maxRecDepth 100000 in
theorem wk_yX3_init : Cond.code yX3_init cX3_init 2 none ∈ lw_all := List.mem_filter.mpr ⟨List.mem_append_right _ (List.mem_of_getElem? (i := 572) rfl), by decide⟩
theorem wm_X3_1 : Cond.methodLink RX3 1 objectInit ∈ lw_all := List.mem_filter.mpr ⟨List.mem_append_right _ (List.mem_of_getElem? (i := 573) (by decide +kernel)), by decide⟩
theorem wf_X3_23 : Cond.fieldLink RX3 23 (TX3 0).1 (TX3 0).2.1 (TX3 0).2.2.1 ∈ lw_all := List.mem_filter.mpr ⟨List.mem_append_right _ (List.mem_of_getElem? (i := 574) (by decide +kernel)), by decide⟩
theorem wf_X4_52 : Cond.fieldLink RX4 52 (TX3 0).1 (TX3 0).2.1 (TX3 0).2.2.1 ∈ lw_all := List.mem_filter.mpr ⟨List.mem_append_right _ (List.mem_of_getElem? (i := 575) (by decide +kernel)), by decide⟩
theorem wf_L_21 : Cond.fieldLink RL 21 (TX3 0).1 (TX3 0).2.1 (TX3 0).2.2.1 ∈ lw_all := List.mem_filter.mpr ⟨List.mem_append_right _ (List.mem_of_getElem? (i := 576) (by decide +kernel)), by decide⟩
theorem wf_X3_26 : Cond.fieldLink RX3 26 (TX3 1).1 (TX3 1).2.1 (TX3 1).2.2.1 ∈ lw_all := List.mem_filter.mpr ⟨List.mem_append_right _ (List.mem_of_getElem? (i := 577) (by decide +kernel)), by decide⟩
theorem wf_X4_55 : Cond.fieldLink RX4 55 (TX3 1).1 (TX3 1).2.1 (TX3 1).2.2.1 ∈ lw_all := List.mem_filter.mpr ⟨List.mem_append_right _ (List.mem_of_getElem? (i := 578) (by decide +kernel)), by decide⟩
theorem wf_L_45 : Cond.fieldLink RL 45 (TX3 1).1 (TX3 1).2.1 (TX3 1).2.2.1 ∈ lw_all := List.mem_filter.mpr ⟨List.mem_append_right _ (List.mem_of_getElem? (i := 579) (by decide +kernel)), by decide⟩
theorem wf_X4_43 : Cond.fieldLink RX4 43 (TX3 2).1 (TX3 2).2.1 (TX3 2).2.2.1 ∈ lw_all := List.mem_filter.mpr ⟨List.mem_append_right _ (List.mem_of_getElem? (i := 580) (by decide +kernel)), by decide⟩
theorem wf_L_61 : Cond.fieldLink RL 61 (TX3 2).1 (TX3 2).2.1 (TX3 2).2.2.1 ∈ lw_all := List.mem_filter.mpr ⟨List.mem_append_right _ (List.mem_of_getElem? (i := 581) (by decide +kernel)), by decide⟩
theorem wf_X3_32 : Cond.fieldLink RX3 32 (TX3 2).1 (TX3 2).2.1 (TX3 2).2.2.1 ∈ lw_all := List.mem_filter.mpr ⟨List.mem_append_right _ (List.mem_of_getElem? (i := 582) (by decide +kernel)), by decide⟩
theorem wf_X3_7 : Cond.fieldLink RX3 7 (TX3 3).1 (TX3 3).2.1 (TX3 3).2.2.1 ∈ lw_all := List.mem_filter.mpr ⟨List.mem_append_right _ (List.mem_of_getElem? (i := 583) (by decide +kernel)), by decide⟩
theorem wf_X4_49 : Cond.fieldLink RX4 49 (TX3 3).1 (TX3 3).2.1 (TX3 3).2.2.1 ∈ lw_all := List.mem_filter.mpr ⟨List.mem_append_right _ (List.mem_of_getElem? (i := 584) (by decide +kernel)), by decide⟩
theorem wf_X4_46 : Cond.fieldLink RX4 46 (TX3 4).1 (TX3 4).2.1 (TX3 4).2.2.1 ∈ lw_all := List.mem_filter.mpr ⟨List.mem_append_right _ (List.mem_of_getElem? (i := 585) (by decide +kernel)), by decide⟩
theorem wf_L_42 : Cond.fieldLink RL 42 (TX3 4).1 (TX3 4).2.1 (TX3 4).2.2.1 ∈ lw_all := List.mem_filter.mpr ⟨List.mem_append_right _ (List.mem_of_getElem? (i := 586) (by decide +kernel)), by decide⟩
theorem wf_X3_35 : Cond.fieldLink RX3 35 (TX3 4).1 (TX3 4).2.1 (TX3 4).2.2.1 ∈ lw_all := List.mem_filter.mpr ⟨List.mem_append_right _ (List.mem_of_getElem? (i := 587) (by decide +kernel)), by decide⟩
theorem wf_X4_40 : Cond.fieldLink RX4 40 (TX3 5).1 (TX3 5).2.1 (TX3 5).2.2.1 ∈ lw_all := List.mem_filter.mpr ⟨List.mem_append_right _ (List.mem_of_getElem? (i := 588) (by decide +kernel)), by decide⟩
theorem wf_L_32 : Cond.fieldLink RL 32 (TX3 5).1 (TX3 5).2.1 (TX3 5).2.2.1 ∈ lw_all := List.mem_filter.mpr ⟨List.mem_append_right _ (List.mem_of_getElem? (i := 589) (by decide +kernel)), by decide⟩
theorem wf_X3_13 : Cond.fieldLink RX3 13 (TX3 6).1 (TX3 6).2.1 (TX3 6).2.2.1 ∈ lw_all := List.mem_filter.mpr ⟨List.mem_append_right _ (List.mem_of_getElem? (i := 590) (by decide +kernel)), by decide⟩
theorem wf_X4_36 : Cond.fieldLink RX4 36 (TX3 6).1 (TX3 6).2.1 (TX3 6).2.2.1 ∈ lw_all := List.mem_filter.mpr ⟨List.mem_append_right _ (List.mem_of_getElem? (i := 591) (by decide +kernel)), by decide⟩
theorem wf_L_38 : Cond.fieldLink RL 38 (TX3 6).1 (TX3 6).2.1 (TX3 6).2.2.1 ∈ lw_all := List.mem_filter.mpr ⟨List.mem_append_right _ (List.mem_of_getElem? (i := 592) (by decide +kernel)), by decide⟩
theorem wf_L_48 : Cond.fieldLink RL 48 (TX3 7).1 (TX3 7).2.1 (TX3 7).2.2.1 ∈ lw_all := List.mem_filter.mpr ⟨List.mem_append_right _ (List.mem_of_getElem? (i := 593) (by decide +kernel)), by decide⟩
theorem wf_X4_81 : Cond.fieldLink RX4 81 (TX3 7).1 (TX3 7).2.1 (TX3 7).2.2.1 ∈ lw_all := List.mem_filter.mpr ⟨List.mem_append_right _ (List.mem_of_getElem? (i := 594) (by decide +kernel)), by decide⟩
theorem wf_X3_19 : Cond.fieldLink RX3 19 (TX3 8).1 (TX3 8).2.1 (TX3 8).2.2.1 ∈ lw_all := List.mem_filter.mpr ⟨List.mem_append_right _ (List.mem_of_getElem? (i := 595) (by decide +kernel)), by decide⟩
theorem wf_L_55 : Cond.fieldLink RL 55 (TX3 8).1 (TX3 8).2.1 (TX3 8).2.2.1 ∈ lw_all := List.mem_filter.mpr ⟨List.mem_append_right _ (List.mem_of_getElem? (i := 596) (by decide +kernel)), by decide⟩
theorem wf_X4_73 : Cond.fieldLink RX4 73 (TX3 8).1 (TX3 8).2.1 (TX3 8).2.2.1 ∈ lw_all := List.mem_filter.mpr ⟨List.mem_append_right _ (List.mem_of_getElem? (i := 597) (by decide +kernel)), by decide⟩
theorem wf_X4_19 : Cond.fieldLink RX4 19 (TX4 0).1 (TX4 0).2.1 (TX4 0).2.2.1 ∈ lw_all := List.mem_filter.mpr ⟨List.mem_append_right _ (List.mem_of_getElem? (i := 617) (by decide +kernel)), by decide⟩
theorem wf_X4_23 : Cond.fieldLink RX4 23 (TX4 1).1 (TX4 1).2.1 (TX4 1).2.2.1 ∈ lw_all := List.mem_filter.mpr ⟨List.mem_append_right _ (List.mem_of_getElem? (i := 618) (by decide +kernel)), by decide⟩
theorem wf_X4_26 : Cond.fieldLink RX4 26 (TX4 2).1 (TX4 2).2.1 (TX4 2).2.2.1 ∈ lw_all := List.mem_filter.mpr ⟨List.mem_append_right _ (List.mem_of_getElem? (i := 619) (by decide +kernel)), by decide⟩
theorem wf_L_73 : Cond.fieldLink RL 73 (TX4 2).1 (TX4 2).2.1 (TX4 2).2.2.1 ∈ lw_all := List.mem_filter.mpr ⟨List.mem_append_right _ (List.mem_of_getElem? (i := 620) (by decide +kernel)), by decide⟩
theorem wf_X4_29 : Cond.fieldLink RX4 29 (TX4 3).1 (TX4 3).2.1 (TX4 3).2.2.1 ∈ lw_all := List.mem_filter.mpr ⟨List.mem_append_right _ (List.mem_of_getElem? (i := 621) (by decide +kernel)), by decide⟩
theorem wf_X4_9 : Cond.fieldLink RX4 9 (TX4 4).1 (TX4 4).2.1 (TX4 4).2.2.1 ∈ lw_all := List.mem_filter.mpr ⟨List.mem_append_right _ (List.mem_of_getElem? (i := 622) (by decide +kernel)), by decide⟩
theorem wf_L_9 : Cond.fieldLink RL 9 (TX4 4).1 (TX4 4).2.1 (TX4 4).2.2.1 ∈ lw_all := List.mem_filter.mpr ⟨List.mem_append_right _ (List.mem_of_getElem? (i := 623) (by decide +kernel)), by decide⟩
theorem wm_L_144 : Cond.methodLink RL 144 yJ9_abs_0f7a4 ∈ lw_all := List.mem_filter.mpr ⟨List.mem_append_right _ (List.mem_of_getElem? (i := 635) (by decide +kernel)), by decide⟩
theorem ws_yJ9_abs_0f7a4 : Cond.static yJ9_abs_0f7a4 ∈ lw_all := List.mem_filter.mpr ⟨List.mem_append_right _ (List.mem_of_getElem? (i := 636) (by decide +kernel)), by decide⟩
set_option maxRecDepth 100000 in
theorem wk_yJ9_abs_0f7a4 : Cond.code yJ9_abs_0f7a4 cJ9_abs_0f7a4 1 (some .int) ∈ lw_all := List.mem_filter.mpr ⟨List.mem_append_right _ (List.mem_of_getElem? (i := 637) rfl), by decide⟩
theorem wm_L_108 : Cond.methodLink RL 108 yJ9_max_7cf53 ∈ lw_all := List.mem_filter.mpr ⟨List.mem_append_right _ (List.mem_of_getElem? (i := 638) (by decide +kernel)), by decide⟩
theorem wm_L_113 : Cond.methodLink RL 113 yJ9_min_7cf53 ∈ lw_all := List.mem_filter.mpr ⟨List.mem_append_right _ (List.mem_of_getElem? (i := 639) (by decide +kernel)), by decide⟩
