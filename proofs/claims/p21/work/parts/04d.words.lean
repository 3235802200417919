/-! which words stand in the tables, by their places -/
theorem wm_X2_127 : Cond.methodLink RX2 127 yX0_isLed ∈ lw_all := List.mem_filter.mpr ⟨List.mem_append_right _ (List.mem_of_getElem? (i := 402) (by decide +kernel)), by decide⟩
theorem wn_yX0_isLed : Cond.instanceMethod yX0_isLed ∈ lw_all := List.mem_filter.mpr ⟨List.mem_append_right _ (List.mem_of_getElem? (i := 403) (by decide +kernel)), by decide⟩
theorem wo_yX0_isLed : Cond.selects yX0_isLed.cls yX0_isLed yX0_isLed ∈ lw_all := List.mem_filter.mpr ⟨List.mem_append_right _ (List.mem_of_getElem? (i := 404) (by decide +kernel)), by decide⟩
set_option maxRecDepth 100000 in
theorem wk_yX0_isLed : Cond.code yX0_isLed cX0_isLed 2 (some .boolean) ∈ lw_all := List.mem_filter.mpr ⟨List.mem_append_right _ (List.mem_of_getElem? (i := 405) rfl), by decide⟩
theorem wm_X0_140 : Cond.methodLink RX0 140 yX0_upIn ∈ lw_all := List.mem_filter.mpr ⟨List.mem_append_right _ (List.mem_of_getElem? (i := 406) (by decide +kernel)), by decide⟩
theorem wn_yX0_upIn : Cond.instanceMethod yX0_upIn ∈ lw_all := List.mem_filter.mpr ⟨List.mem_append_right _ (List.mem_of_getElem? (i := 407) (by decide +kernel)), by decide⟩
theorem wo_yX0_upIn : Cond.selects yX0_upIn.cls yX0_upIn yX0_upIn ∈ lw_all := List.mem_filter.mpr ⟨List.mem_append_right _ (List.mem_of_getElem? (i := 408) (by decide +kernel)), by decide⟩
set_option maxRecDepth 100000 in
theorem wk_yX0_upIn : Cond.code yX0_upIn cX0_upIn 4 (some .int) ∈ lw_all := List.mem_filter.mpr ⟨List.mem_append_right _ (List.mem_of_getElem? (i := 409) rfl), by decide⟩
theorem wm_L_141 : Cond.methodLink RL 141 yX2_foresee ∈ lw_all := List.mem_filter.mpr ⟨List.mem_append_right _ (List.mem_of_getElem? (i := 410) (by decide +kernel)), by decide⟩
theorem wn_yX2_foresee : Cond.instanceMethod yX2_foresee ∈ lw_all := List.mem_filter.mpr ⟨List.mem_append_right _ (List.mem_of_getElem? (i := 411) (by decide +kernel)), by decide⟩
theorem wo_yX2_foresee : Cond.selects yX2_foresee.cls yX2_foresee yX2_foresee ∈ lw_all := List.mem_filter.mpr ⟨List.mem_append_right _ (List.mem_of_getElem? (i := 412) (by decide +kernel)), by decide⟩
set_option maxRecDepth 100000 in
theorem wk_yX2_foresee : Cond.code yX2_foresee cX2_foresee 3 (some .int) ∈ lw_all := List.mem_filter.mpr ⟨List.mem_append_right _ (List.mem_of_getElem? (i := 413) rfl), by decide⟩
theorem wm_L_130 : Cond.methodLink RL 130 yX2_mean ∈ lw_all := List.mem_filter.mpr ⟨List.mem_append_right _ (List.mem_of_getElem? (i := 415) (by decide +kernel)), by decide⟩
theorem wn_yX2_mean : Cond.instanceMethod yX2_mean ∈ lw_all := List.mem_filter.mpr ⟨List.mem_append_right _ (List.mem_of_getElem? (i := 416) (by decide +kernel)), by decide⟩
theorem wo_yX2_mean : Cond.selects yX2_mean.cls yX2_mean yX2_mean ∈ lw_all := List.mem_filter.mpr ⟨List.mem_append_right _ (List.mem_of_getElem? (i := 417) (by decide +kernel)), by decide⟩
set_option maxRecDepth 100000 in
theorem wk_yX2_mean : Cond.code yX2_mean cX2_mean 3 (some .double) ∈ lw_all := List.mem_filter.mpr ⟨List.mem_append_right _ (List.mem_of_getElem? (i := 418) rfl), by decide⟩
theorem wm_L_101 : Cond.methodLink RL 101 yX2_digest ∈ lw_all := List.mem_filter.mpr ⟨List.mem_append_right _ (List.mem_of_getElem? (i := 419) (by decide +kernel)), by decide⟩
theorem wn_yX2_digest : Cond.instanceMethod yX2_digest ∈ lw_all := List.mem_filter.mpr ⟨List.mem_append_right _ (List.mem_of_getElem? (i := 420) (by decide +kernel)), by decide⟩
theorem wo_yX2_digest : Cond.selects yX2_digest.cls yX2_digest yX2_digest ∈ lw_all := List.mem_filter.mpr ⟨List.mem_append_right _ (List.mem_of_getElem? (i := 421) (by decide +kernel)), by decide⟩
set_option maxRecDepth 100000 in
theorem wk_yX2_digest : Cond.code yX2_digest cX2_digest 4 (some .long) ∈ lw_all := List.mem_filter.mpr ⟨List.mem_append_right _ (List.mem_of_getElem? (i := 422) rfl), by decide⟩
theorem wc_X2_145 : Cond.constantLong RX2 145 (1759) ∈ lw_all := List.mem_filter.mpr ⟨List.mem_append_right _ (List.mem_of_getElem? (i := 423) (by decide +kernel)), by decide⟩
theorem wc_X2_147 : Cond.constantLong RX2 147 (31) ∈ lw_all := List.mem_filter.mpr ⟨List.mem_append_right _ (List.mem_of_getElem? (i := 424) (by decide +kernel)), by decide⟩
theorem wm_X2_149 : Cond.methodLink RX2 149 yX2_digestOfBoat ∈ lw_all := List.mem_filter.mpr ⟨List.mem_append_right _ (List.mem_of_getElem? (i := 425) (by decide +kernel)), by decide⟩
theorem wn_yX2_digestOfBoat : Cond.instanceMethod yX2_digestOfBoat ∈ lw_all := List.mem_filter.mpr ⟨List.mem_append_right _ (List.mem_of_getElem? (i := 427) (by decide +kernel)), by decide⟩
set_option maxRecDepth 100000 in
theorem wk_yX2_digestOfBoat : Cond.code yX2_digestOfBoat cX2_digestOfBoat 8 (some .long) ∈ lw_all := List.mem_filter.mpr ⟨List.mem_append_right _ (List.mem_of_getElem? (i := 428) rfl), by decide⟩
theorem wm_L_76 : Cond.methodLink RL 76 yX4_go ∈ lw_all := List.mem_filter.mpr ⟨List.mem_append_right _ (List.mem_of_getElem? (i := 429) (by decide +kernel)), by decide⟩
theorem wn_yX4_go : Cond.instanceMethod yX4_go ∈ lw_all := List.mem_filter.mpr ⟨List.mem_append_right _ (List.mem_of_getElem? (i := 430) (by decide +kernel)), by decide⟩
theorem wo_yX4_go : Cond.selects yX4_go.cls yX4_go yX4_go ∈ lw_all := List.mem_filter.mpr ⟨List.mem_append_right _ (List.mem_of_getElem? (i := 431) (by decide +kernel)), by decide⟩
set_option maxRecDepth 100000 in
theorem wk_yX4_go : Cond.code yX4_go cX4_go 2 none ∈ lw_all := List.mem_filter.mpr ⟨List.mem_append_right _ (List.mem_of_getElem? (i := 432) rfl), by decide⟩
theorem wm_X4_84 : Cond.methodLink RX4 84 yX4_stand ∈ lw_all := List.mem_filter.mpr ⟨List.mem_append_right _ (List.mem_of_getElem? (i := 433) (by decide +kernel)), by decide⟩
theorem wn_yX4_stand : Cond.instanceMethod yX4_stand ∈ lw_all := List.mem_filter.mpr ⟨List.mem_append_right _ (List.mem_of_getElem? (i := 435) (by decide +kernel)), by decide⟩
theorem wz_X4 : Cond.instantiable RX4 5 ∈ lw_all := List.mem_filter.mpr ⟨List.mem_append_right _ (List.mem_of_getElem? (i := 436) (by decide +kernel)), by decide⟩
set_option maxRecDepth 100000 in
theorem wk_yX4_stand : Cond.code yX4_stand cX4_stand 6 none ∈ lw_all := List.mem_filter.mpr ⟨List.mem_append_right _ (List.mem_of_getElem? (i := 437) rfl), by decide⟩
theorem wm_X4_58 : Cond.methodLink RX4 58 yX4_hear ∈ lw_all := List.mem_filter.mpr ⟨List.mem_append_right _ (List.mem_of_getElem? (i := 438) (by decide +kernel)), by decide⟩
theorem wn_yX4_hear : Cond.instanceMethod yX4_hear ∈ lw_all := List.mem_filter.mpr ⟨List.mem_append_right _ (List.mem_of_getElem? (i := 439) (by decide +kernel)), by decide⟩
theorem wo_yX4_hear : Cond.selects yX4_hear.cls yX4_hear yX4_hear ∈ lw_all := List.mem_filter.mpr ⟨List.mem_append_right _ (List.mem_of_getElem? (i := 440) (by decide +kernel)), by decide⟩
set_option maxRecDepth 100000 in
theorem wk_yX4_hear : Cond.code yX4_hear cX4_hear 3 (some .boolean) ∈ lw_all := List.mem_filter.mpr ⟨List.mem_append_right _ (List.mem_of_getElem? (i := 441) rfl), by decide⟩
theorem wm_X4_62 : Cond.methodLink RX4 62 yX3_meet ∈ lw_all := List.mem_filter.mpr ⟨List.mem_append_right _ (List.mem_of_getElem? (i := 442) (by decide +kernel)), by decide⟩
theorem wn_yX3_meet : Cond.instanceMethod yX3_meet ∈ lw_all := List.mem_filter.mpr ⟨List.mem_append_right _ (List.mem_of_getElem? (i := 443) (by decide +kernel)), by decide⟩
theorem wo_yX3_meet : Cond.selects yX3_meet.cls yX3_meet yX3_meet ∈ lw_all := List.mem_filter.mpr ⟨List.mem_append_right _ (List.mem_of_getElem? (i := 444) (by decide +kernel)), by decide⟩
set_option maxRecDepth 100000 in
theorem wk_yX3_meet : Cond.code yX3_meet cX3_meet 2 none ∈ lw_all := List.mem_filter.mpr ⟨List.mem_append_right _ (List.mem_of_getElem? (i := 445) rfl), by decide⟩
theorem wm_X4_65 : Cond.methodLink RX4 65 yX3_isAsNew ∈ lw_all := List.mem_filter.mpr ⟨List.mem_append_right _ (List.mem_of_getElem? (i := 446) (by decide +kernel)), by decide⟩
theorem wn_yX3_isAsNew : Cond.instanceMethod yX3_isAsNew ∈ lw_all := List.mem_filter.mpr ⟨List.mem_append_right _ (List.mem_of_getElem? (i := 447) (by decide +kernel)), by decide⟩
theorem wo_yX3_isAsNew : Cond.selects yX3_isAsNew.cls yX3_isAsNew yX3_isAsNew ∈ lw_all := List.mem_filter.mpr ⟨List.mem_append_right _ (List.mem_of_getElem? (i := 448) (by decide +kernel)), by decide⟩
set_option maxRecDepth 100000 in
theorem wk_yX3_isAsNew : Cond.code yX3_isAsNew cX3_isAsNew 2 (some .boolean) ∈ lw_all := List.mem_filter.mpr ⟨List.mem_append_right _ (List.mem_of_getElem? (i := 449) rfl), by decide⟩
theorem wm_X3_44 : Cond.methodLink RX3 44 yX3_last ∈ lw_all := List.mem_filter.mpr ⟨List.mem_append_right _ (List.mem_of_getElem? (i := 450) (by decide +kernel)), by decide⟩
theorem wn_yX3_last : Cond.instanceMethod yX3_last ∈ lw_all := List.mem_filter.mpr ⟨List.mem_append_right _ (List.mem_of_getElem? (i := 451) (by decide +kernel)), by decide⟩
theorem wo_yX3_last : Cond.selects yX3_last.cls yX3_last yX3_last ∈ lw_all := List.mem_filter.mpr ⟨List.mem_append_right _ (List.mem_of_getElem? (i := 452) (by decide +kernel)), by decide⟩
set_option maxRecDepth 100000 in
theorem wk_yX3_last : Cond.code yX3_last cX3_last 1 (some .int) ∈ lw_all := List.mem_filter.mpr ⟨List.mem_append_right _ (List.mem_of_getElem? (i := 453) rfl), by decide⟩
theorem wm_X4_87 : Cond.methodLink RX4 87 yX4_tell ∈ lw_all := List.mem_filter.mpr ⟨List.mem_append_right _ (List.mem_of_getElem? (i := 454) (by decide +kernel)), by decide⟩
theorem wn_yX4_tell : Cond.instanceMethod yX4_tell ∈ lw_all := List.mem_filter.mpr ⟨List.mem_append_right _ (List.mem_of_getElem? (i := 456) (by decide +kernel)), by decide⟩
set_option maxRecDepth 100000 in
theorem wk_yX4_tell : Cond.code yX4_tell cX4_tell 7 none ∈ lw_all := List.mem_filter.mpr ⟨List.mem_append_right _ (List.mem_of_getElem? (i := 457) rfl), by decide⟩
theorem wm_X4_69 : Cond.methodLink RX4 69 yX3_same ∈ lw_all := List.mem_filter.mpr ⟨List.mem_append_right _ (List.mem_of_getElem? (i := 458) (by decide +kernel)), by decide⟩
theorem wn_yX3_same : Cond.instanceMethod yX3_same ∈ lw_all := List.mem_filter.mpr ⟨List.mem_append_right _ (List.mem_of_getElem? (i := 459) (by decide +kernel)), by decide⟩
theorem wo_yX3_same : Cond.selects yX3_same.cls yX3_same yX3_same ∈ lw_all := List.mem_filter.mpr ⟨List.mem_append_right _ (List.mem_of_getElem? (i := 460) (by decide +kernel)), by decide⟩
set_option maxRecDepth 100000 in
theorem wk_yX3_same : Cond.code yX3_same cX3_same 3 (some .int) ∈ lw_all := List.mem_filter.mpr ⟨List.mem_append_right _ (List.mem_of_getElem? (i := 461) rfl), by decide⟩
theorem wm_X4_77 : Cond.methodLink RX4 77 yX3_relog ∈ lw_all := List.mem_filter.mpr ⟨List.mem_append_right _ (List.mem_of_getElem? (i := 462) (by decide +kernel)), by decide⟩
theorem wn_yX3_relog : Cond.instanceMethod yX3_relog ∈ lw_all := List.mem_filter.mpr ⟨List.mem_append_right _ (List.mem_of_getElem? (i := 463) (by decide +kernel)), by decide⟩
theorem wo_yX3_relog : Cond.selects yX3_relog.cls yX3_relog yX3_relog ∈ lw_all := List.mem_filter.mpr ⟨List.mem_append_right _ (List.mem_of_getElem? (i := 464) (by decide +kernel)), by decide⟩
set_option maxRecDepth 100000 in
theorem wk_yX3_relog : Cond.code yX3_relog cX3_relog 7 none ∈ lw_all := List.mem_filter.mpr ⟨List.mem_append_right _ (List.mem_of_getElem? (i := 465) rfl), by decide⟩
theorem wl_X3_17 : Cond.classLink RX3 17 "[I" ∈ lw_all := List.mem_filter.mpr ⟨List.mem_append_right _ (List.mem_of_getElem? (i := 466) (by decide +kernel)), by decide⟩
theorem wa_over_I : Cond.arrayOver (FieldType.array FieldType.int) ∈ lw_env := List.mem_filter.mpr ⟨List.mem_append_right _ (List.mem_of_getElem? (i := 467) (by decide +kernel)), by decide⟩
theorem wm_X4_90 : Cond.methodLink RX4 90 yX4_commit ∈ lw_all := List.mem_filter.mpr ⟨List.mem_append_right _ (List.mem_of_getElem? (i := 468) (by decide +kernel)), by decide⟩
theorem wn_yX4_commit : Cond.instanceMethod yX4_commit ∈ lw_all := List.mem_filter.mpr ⟨List.mem_append_right _ (List.mem_of_getElem? (i := 470) (by decide +kernel)), by decide⟩
set_option maxRecDepth 100000 in
theorem wk_yX4_commit : Cond.code yX4_commit cX4_commit 7 none ∈ lw_all := List.mem_filter.mpr ⟨List.mem_append_right _ (List.mem_of_getElem? (i := 471) rfl), by decide⟩
theorem wm_L_147 : Cond.methodLink RL 147 yX4_isSame ∈ lw_all := List.mem_filter.mpr ⟨List.mem_append_right _ (List.mem_of_getElem? (i := 472) (by decide +kernel)), by decide⟩
theorem wn_yX4_isSame : Cond.instanceMethod yX4_isSame ∈ lw_all := List.mem_filter.mpr ⟨List.mem_append_right _ (List.mem_of_getElem? (i := 473) (by decide +kernel)), by decide⟩
theorem wo_yX4_isSame : Cond.selects yX4_isSame.cls yX4_isSame yX4_isSame ∈ lw_all := List.mem_filter.mpr ⟨List.mem_append_right _ (List.mem_of_getElem? (i := 474) (by decide +kernel)), by decide⟩
set_option maxRecDepth 100000 in
theorem wk_yX4_isSame : Cond.code yX4_isSame cX4_isSame 13 (some .boolean) ∈ lw_all := List.mem_filter.mpr ⟨List.mem_append_right _ (List.mem_of_getElem? (i := 475) rfl), by decide⟩
theorem wm_X4_106 : Cond.methodLink RX4 106 yX2_count ∈ lw_all := List.mem_filter.mpr ⟨List.mem_append_right _ (List.mem_of_getElem? (i := 476) (by decide +kernel)), by decide⟩
theorem wm_X4_111 : Cond.methodLink RX4 111 yX4_counted ∈ lw_all := List.mem_filter.mpr ⟨List.mem_append_right _ (List.mem_of_getElem? (i := 477) (by decide +kernel)), by decide⟩
theorem wn_yX4_counted : Cond.instanceMethod yX4_counted ∈ lw_all := List.mem_filter.mpr ⟨List.mem_append_right _ (List.mem_of_getElem? (i := 478) (by decide +kernel)), by decide⟩
theorem wo_yX4_counted : Cond.selects yX4_counted.cls yX4_counted yX4_counted ∈ lw_all := List.mem_filter.mpr ⟨List.mem_append_right _ (List.mem_of_getElem? (i := 479) (by decide +kernel)), by decide⟩
set_option maxRecDepth 100000 in
theorem wk_yX4_counted : Cond.code yX4_counted cX4_counted 7 (some .int) ∈ lw_all := List.mem_filter.mpr ⟨List.mem_append_right _ (List.mem_of_getElem? (i := 480) rfl), by decide⟩
theorem wm_X4_93 : Cond.methodLink RX4 93 yJ9_max_7cf53 ∈ lw_all := List.mem_filter.mpr ⟨List.mem_append_right _ (List.mem_of_getElem? (i := 481) (by decide +kernel)), by decide⟩
theorem wm_X4_99 : Cond.methodLink RX4 99 yJ9_min_7cf53 ∈ lw_all := List.mem_filter.mpr ⟨List.mem_append_right _ (List.mem_of_getElem? (i := 482) (by decide +kernel)), by decide⟩
theorem wm_X4_114 : Cond.methodLink RX4 114 yX3_last ∈ lw_all := List.mem_filter.mpr ⟨List.mem_append_right _ (List.mem_of_getElem? (i := 483) (by decide +kernel)), by decide⟩
theorem wm_X4_118 : Cond.methodLink RX4 118 yX2_told ∈ lw_all := List.mem_filter.mpr ⟨List.mem_append_right _ (List.mem_of_getElem? (i := 484) (by decide +kernel)), by decide⟩
theorem wm_X4_121 : Cond.methodLink RX4 121 yX2_entry ∈ lw_all := List.mem_filter.mpr ⟨List.mem_append_right _ (List.mem_of_getElem? (i := 485) (by decide +kernel)), by decide⟩
theorem wm_X4_125 : Cond.methodLink RX4 125 yX2_agree ∈ lw_all := List.mem_filter.mpr ⟨List.mem_append_right _ (List.mem_of_getElem? (i := 486) (by decide +kernel)), by decide⟩
theorem wm_X4_128 : Cond.methodLink RX4 128 yX2_newer ∈ lw_all := List.mem_filter.mpr ⟨List.mem_append_right _ (List.mem_of_getElem? (i := 487) (by decide +kernel)), by decide⟩
theorem wm_X4_131 : Cond.methodLink RX4 131 yX2_harbour ∈ lw_all := List.mem_filter.mpr ⟨List.mem_append_right _ (List.mem_of_getElem? (i := 488) (by decide +kernel)), by decide⟩
theorem wn_yX2_harbour : Cond.instanceMethod yX2_harbour ∈ lw_all := List.mem_filter.mpr ⟨List.mem_append_right _ (List.mem_of_getElem? (i := 489) (by decide +kernel)), by decide⟩
theorem wo_yX2_harbour : Cond.selects yX2_harbour.cls yX2_harbour yX2_harbour ∈ lw_all := List.mem_filter.mpr ⟨List.mem_append_right _ (List.mem_of_getElem? (i := 490) (by decide +kernel)), by decide⟩
set_option maxRecDepth 100000 in
theorem wk_yX2_harbour : Cond.code yX2_harbour cX2_harbour 4 (some .int) ∈ lw_all := List.mem_filter.mpr ⟨List.mem_append_right _ (List.mem_of_getElem? (i := 491) rfl), by decide⟩
theorem wm_X2_114 : Cond.methodLink RX2 114 yX0_newestIn ∈ lw_all := List.mem_filter.mpr ⟨List.mem_append_right _ (List.mem_of_getElem? (i := 492) (by decide +kernel)), by decide⟩
theorem wn_yX0_newestIn : Cond.instanceMethod yX0_newestIn ∈ lw_all := List.mem_filter.mpr ⟨List.mem_append_right _ (List.mem_of_getElem? (i := 493) (by decide +kernel)), by decide⟩
theorem wo_yX0_newestIn : Cond.selects yX0_newestIn.cls yX0_newestIn yX0_newestIn ∈ lw_all := List.mem_filter.mpr ⟨List.mem_append_right _ (List.mem_of_getElem? (i := 494) (by decide +kernel)), by decide⟩
set_option maxRecDepth 100000 in
theorem wk_yX0_newestIn : Cond.code yX0_newestIn cX0_newestIn 4 (some .int) ∈ lw_all := List.mem_filter.mpr ⟨List.mem_append_right _ (List.mem_of_getElem? (i := 495) rfl), by decide⟩
theorem wm_X2_117 : Cond.methodLink RX2 117 yX0_upIn ∈ lw_all := List.mem_filter.mpr ⟨List.mem_append_right _ (List.mem_of_getElem? (i := 496) (by decide +kernel)), by decide⟩
theorem wm_X2_120 : Cond.methodLink RX2 120 yX0_isMoreThanHalf ∈ lw_all := List.mem_filter.mpr ⟨List.mem_append_right _ (List.mem_of_getElem? (i := 497) (by decide +kernel)), by decide⟩
theorem wm_X4_133 : Cond.methodLink RX4 133 yX2_leader ∈ lw_all := List.mem_filter.mpr ⟨List.mem_append_right _ (List.mem_of_getElem? (i := 498) (by decide +kernel)), by decide⟩
theorem wm_X4_136 : Cond.methodLink RX4 136 yX2_mean ∈ lw_all := List.mem_filter.mpr ⟨List.mem_append_right _ (List.mem_of_getElem? (i := 499) (by decide +kernel)), by decide⟩
