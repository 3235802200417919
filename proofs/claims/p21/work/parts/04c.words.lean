/-! which words stand in the tables, by their places -/
theorem wm_X0_134 : Cond.methodLink RX0 134 yX0_hearersThatAgree ∈ lw_all := List.mem_filter.mpr ⟨List.mem_append_right _ (List.mem_of_getElem? (i := 292) (by decide +kernel)), by decide⟩
theorem wn_yX0_hearersThatAgree : Cond.instanceMethod yX0_hearersThatAgree ∈ lw_all := List.mem_filter.mpr ⟨List.mem_append_right _ (List.mem_of_getElem? (i := 293) (by decide +kernel)), by decide⟩
theorem wo_yX0_hearersThatAgree : Cond.selects yX0_hearersThatAgree.cls yX0_hearersThatAgree yX0_hearersThatAgree ∈ lw_all := List.mem_filter.mpr ⟨List.mem_append_right _ (List.mem_of_getElem? (i := 294) (by decide +kernel)), by decide⟩
set_option maxRecDepth 100000 in
theorem wk_yX0_hearersThatAgree : Cond.code yX0_hearersThatAgree cX0_hearersThatAgree 5 (some .int) ∈ lw_all := List.mem_filter.mpr ⟨List.mem_append_right _ (List.mem_of_getElem? (i := 295) rfl), by decide⟩
theorem wm_X0_137 : Cond.methodLink RX0 137 yX1_agreement ∈ lw_all := List.mem_filter.mpr ⟨List.mem_append_right _ (List.mem_of_getElem? (i := 296) (by decide +kernel)), by decide⟩
theorem wm_L_105 : Cond.methodLink RL 105 yX2_told ∈ lw_all := List.mem_filter.mpr ⟨List.mem_append_right _ (List.mem_of_getElem? (i := 297) (by decide +kernel)), by decide⟩
theorem wn_yX2_told : Cond.instanceMethod yX2_told ∈ lw_all := List.mem_filter.mpr ⟨List.mem_append_right _ (List.mem_of_getElem? (i := 298) (by decide +kernel)), by decide⟩
theorem wo_yX2_told : Cond.selects yX2_told.cls yX2_told yX2_told ∈ lw_all := List.mem_filter.mpr ⟨List.mem_append_right _ (List.mem_of_getElem? (i := 299) (by decide +kernel)), by decide⟩
set_option maxRecDepth 100000 in
theorem wk_yX2_told : Cond.code yX2_told cX2_told 3 (some .int) ∈ lw_all := List.mem_filter.mpr ⟨List.mem_append_right _ (List.mem_of_getElem? (i := 300) rfl), by decide⟩
theorem wm_X2_30 : Cond.methodLink RX2 30 yX2_needBoat ∈ lw_all := List.mem_filter.mpr ⟨List.mem_append_right _ (List.mem_of_getElem? (i := 301) (by decide +kernel)), by decide⟩
theorem wn_yX2_needBoat : Cond.instanceMethod yX2_needBoat ∈ lw_all := List.mem_filter.mpr ⟨List.mem_append_right _ (List.mem_of_getElem? (i := 303) (by decide +kernel)), by decide⟩
set_option maxRecDepth 100000 in
theorem wk_yX2_needBoat : Cond.code yX2_needBoat cX2_needBoat 2 none ∈ lw_all := List.mem_filter.mpr ⟨List.mem_append_right _ (List.mem_of_getElem? (i := 304) rfl), by decide⟩
theorem wl_X2_131 : Cond.classLink RX2 131 "java/lang/IndexOutOfBoundsException" ∈ lw_all := List.mem_filter.mpr ⟨List.mem_append_right _ (List.mem_of_getElem? (i := 305) (by decide +kernel)), by decide⟩
theorem wt_IndexOutOfBoundsException : Cond.castable "java/lang/IndexOutOfBoundsException" "java/lang/IndexOutOfBoundsException" ∈ lw_env := List.mem_filter.mpr ⟨List.mem_append_right _ (List.mem_of_getElem? (i := 307) (by decide +kernel)), by decide⟩
theorem wm_X2_135 : Cond.methodLink RX2 135 (⟨"java/lang/IndexOutOfBoundsException", "<init>", "(Ljava/lang/String;)V"⟩ : MethodName) ∈ lw_all := List.mem_filter.mpr ⟨List.mem_append_right _ (List.mem_of_getElem? (i := 315) (by decide +kernel)), by decide⟩
theorem wm_X2_39 : Cond.methodLink RX2 39 yX2_needBelow ∈ lw_all := List.mem_filter.mpr ⟨List.mem_append_right _ (List.mem_of_getElem? (i := 321) (by decide +kernel)), by decide⟩
theorem wn_yX2_needBelow : Cond.instanceMethod yX2_needBelow ∈ lw_all := List.mem_filter.mpr ⟨List.mem_append_right _ (List.mem_of_getElem? (i := 323) (by decide +kernel)), by decide⟩
set_option maxRecDepth 100000 in
theorem wk_yX2_needBelow : Cond.code yX2_needBelow cX2_needBelow 3 none ∈ lw_all := List.mem_filter.mpr ⟨List.mem_append_right _ (List.mem_of_getElem? (i := 324) rfl), by decide⟩
theorem wm_X2_92 : Cond.methodLink RX2 92 yX0_ofBoat ∈ lw_all := List.mem_filter.mpr ⟨List.mem_append_right _ (List.mem_of_getElem? (i := 326) (by decide +kernel)), by decide⟩
theorem wn_yX0_ofBoat : Cond.instanceMethod yX0_ofBoat ∈ lw_all := List.mem_filter.mpr ⟨List.mem_append_right _ (List.mem_of_getElem? (i := 327) (by decide +kernel)), by decide⟩
theorem wo_yX0_ofBoat : Cond.selects yX0_ofBoat.cls yX0_ofBoat yX0_ofBoat ∈ lw_all := List.mem_filter.mpr ⟨List.mem_append_right _ (List.mem_of_getElem? (i := 328) (by decide +kernel)), by decide⟩
set_option maxRecDepth 100000 in
theorem wk_yX0_ofBoat : Cond.code yX0_ofBoat cX0_ofBoat 3 (some .int) ∈ lw_all := List.mem_filter.mpr ⟨List.mem_append_right _ (List.mem_of_getElem? (i := 329) rfl), by decide⟩
theorem wm_X0_144 : Cond.methodLink RX0 144 yX1_lastTerm ∈ lw_all := List.mem_filter.mpr ⟨List.mem_append_right _ (List.mem_of_getElem? (i := 330) (by decide +kernel)), by decide⟩
theorem wm_L_116 : Cond.methodLink RL 116 yX2_entry ∈ lw_all := List.mem_filter.mpr ⟨List.mem_append_right _ (List.mem_of_getElem? (i := 331) (by decide +kernel)), by decide⟩
theorem wn_yX2_entry : Cond.instanceMethod yX2_entry ∈ lw_all := List.mem_filter.mpr ⟨List.mem_append_right _ (List.mem_of_getElem? (i := 332) (by decide +kernel)), by decide⟩
theorem wo_yX2_entry : Cond.selects yX2_entry.cls yX2_entry yX2_entry ∈ lw_all := List.mem_filter.mpr ⟨List.mem_append_right _ (List.mem_of_getElem? (i := 333) (by decide +kernel)), by decide⟩
set_option maxRecDepth 100000 in
theorem wk_yX2_entry : Cond.code yX2_entry cX2_entry 4 (some .int) ∈ lw_all := List.mem_filter.mpr ⟨List.mem_append_right _ (List.mem_of_getElem? (i := 334) rfl), by decide⟩
theorem wm_X2_96 : Cond.methodLink RX2 96 yX0_ofEntry ∈ lw_all := List.mem_filter.mpr ⟨List.mem_append_right _ (List.mem_of_getElem? (i := 335) (by decide +kernel)), by decide⟩
theorem wn_yX0_ofEntry : Cond.instanceMethod yX0_ofEntry ∈ lw_all := List.mem_filter.mpr ⟨List.mem_append_right _ (List.mem_of_getElem? (i := 336) (by decide +kernel)), by decide⟩
theorem wo_yX0_ofEntry : Cond.selects yX0_ofEntry.cls yX0_ofEntry yX0_ofEntry ∈ lw_all := List.mem_filter.mpr ⟨List.mem_append_right _ (List.mem_of_getElem? (i := 337) (by decide +kernel)), by decide⟩
set_option maxRecDepth 100000 in
theorem wk_yX0_ofEntry : Cond.code yX0_ofEntry cX0_ofEntry 4 (some .int) ∈ lw_all := List.mem_filter.mpr ⟨List.mem_append_right _ (List.mem_of_getElem? (i := 338) rfl), by decide⟩
theorem wm_X0_147 : Cond.methodLink RX0 147 yX1_fishAt ∈ lw_all := List.mem_filter.mpr ⟨List.mem_append_right _ (List.mem_of_getElem? (i := 339) (by decide +kernel)), by decide⟩
theorem wm_X0_150 : Cond.methodLink RX0 150 yX0_boatsThatAgree ∈ lw_all := List.mem_filter.mpr ⟨List.mem_append_right _ (List.mem_of_getElem? (i := 340) (by decide +kernel)), by decide⟩
theorem wn_yX0_boatsThatAgree : Cond.instanceMethod yX0_boatsThatAgree ∈ lw_all := List.mem_filter.mpr ⟨List.mem_append_right _ (List.mem_of_getElem? (i := 341) (by decide +kernel)), by decide⟩
theorem wo_yX0_boatsThatAgree : Cond.selects yX0_boatsThatAgree.cls yX0_boatsThatAgree yX0_boatsThatAgree ∈ lw_all := List.mem_filter.mpr ⟨List.mem_append_right _ (List.mem_of_getElem? (i := 342) (by decide +kernel)), by decide⟩
set_option maxRecDepth 100000 in
theorem wk_yX0_boatsThatAgree : Cond.code yX0_boatsThatAgree cX0_boatsThatAgree 5 (some .int) ∈ lw_all := List.mem_filter.mpr ⟨List.mem_append_right _ (List.mem_of_getElem? (i := 343) rfl), by decide⟩
theorem wm_L_120 : Cond.methodLink RL 120 yX2_agree ∈ lw_all := List.mem_filter.mpr ⟨List.mem_append_right _ (List.mem_of_getElem? (i := 344) (by decide +kernel)), by decide⟩
theorem wn_yX2_agree : Cond.instanceMethod yX2_agree ∈ lw_all := List.mem_filter.mpr ⟨List.mem_append_right _ (List.mem_of_getElem? (i := 345) (by decide +kernel)), by decide⟩
theorem wo_yX2_agree : Cond.selects yX2_agree.cls yX2_agree yX2_agree ∈ lw_all := List.mem_filter.mpr ⟨List.mem_append_right _ (List.mem_of_getElem? (i := 346) (by decide +kernel)), by decide⟩
set_option maxRecDepth 100000 in
theorem wk_yX2_agree : Cond.code yX2_agree cX2_agree 3 (some .int) ∈ lw_all := List.mem_filter.mpr ⟨List.mem_append_right _ (List.mem_of_getElem? (i := 347) rfl), by decide⟩
theorem wm_X2_100 : Cond.methodLink RX2 100 yX1_agreement ∈ lw_all := List.mem_filter.mpr ⟨List.mem_append_right _ (List.mem_of_getElem? (i := 348) (by decide +kernel)), by decide⟩
theorem wm_L_123 : Cond.methodLink RL 123 yX2_newer ∈ lw_all := List.mem_filter.mpr ⟨List.mem_append_right _ (List.mem_of_getElem? (i := 349) (by decide +kernel)), by decide⟩
theorem wn_yX2_newer : Cond.instanceMethod yX2_newer ∈ lw_all := List.mem_filter.mpr ⟨List.mem_append_right _ (List.mem_of_getElem? (i := 350) (by decide +kernel)), by decide⟩
theorem wo_yX2_newer : Cond.selects yX2_newer.cls yX2_newer yX2_newer ∈ lw_all := List.mem_filter.mpr ⟨List.mem_append_right _ (List.mem_of_getElem? (i := 351) (by decide +kernel)), by decide⟩
set_option maxRecDepth 100000 in
theorem wk_yX2_newer : Cond.code yX2_newer cX2_newer 3 (some .boolean) ∈ lw_all := List.mem_filter.mpr ⟨List.mem_append_right _ (List.mem_of_getElem? (i := 352) rfl), by decide⟩
theorem wm_X2_103 : Cond.methodLink RX2 103 yX1_asNew ∈ lw_all := List.mem_filter.mpr ⟨List.mem_append_right _ (List.mem_of_getElem? (i := 353) (by decide +kernel)), by decide⟩
theorem wm_L_134 : Cond.methodLink RL 134 yX2_leader ∈ lw_all := List.mem_filter.mpr ⟨List.mem_append_right _ (List.mem_of_getElem? (i := 354) (by decide +kernel)), by decide⟩
theorem wn_yX2_leader : Cond.instanceMethod yX2_leader ∈ lw_all := List.mem_filter.mpr ⟨List.mem_append_right _ (List.mem_of_getElem? (i := 355) (by decide +kernel)), by decide⟩
theorem wo_yX2_leader : Cond.selects yX2_leader.cls yX2_leader yX2_leader ∈ lw_all := List.mem_filter.mpr ⟨List.mem_append_right _ (List.mem_of_getElem? (i := 356) (by decide +kernel)), by decide⟩
set_option maxRecDepth 100000 in
theorem wk_yX2_leader : Cond.code yX2_leader cX2_leader 3 (some .int) ∈ lw_all := List.mem_filter.mpr ⟨List.mem_append_right _ (List.mem_of_getElem? (i := 357) rfl), by decide⟩
theorem wm_X2_55 : Cond.methodLink RX2 55 yX0_leadsNow ∈ lw_all := List.mem_filter.mpr ⟨List.mem_append_right _ (List.mem_of_getElem? (i := 358) (by decide +kernel)), by decide⟩
theorem wm_L_127 : Cond.methodLink RL 127 yX2_count ∈ lw_all := List.mem_filter.mpr ⟨List.mem_append_right _ (List.mem_of_getElem? (i := 359) (by decide +kernel)), by decide⟩
theorem wn_yX2_count : Cond.instanceMethod yX2_count ∈ lw_all := List.mem_filter.mpr ⟨List.mem_append_right _ (List.mem_of_getElem? (i := 360) (by decide +kernel)), by decide⟩
theorem wo_yX2_count : Cond.selects yX2_count.cls yX2_count yX2_count ∈ lw_all := List.mem_filter.mpr ⟨List.mem_append_right _ (List.mem_of_getElem? (i := 361) (by decide +kernel)), by decide⟩
set_option maxRecDepth 100000 in
theorem wk_yX2_count : Cond.code yX2_count cX2_count 2 (some .int) ∈ lw_all := List.mem_filter.mpr ⟨List.mem_append_right _ (List.mem_of_getElem? (i := 362) rfl), by decide⟩
theorem wm_X2_110 : Cond.methodLink RX2 110 yX0_ofFleet ∈ lw_all := List.mem_filter.mpr ⟨List.mem_append_right _ (List.mem_of_getElem? (i := 363) (by decide +kernel)), by decide⟩
theorem wn_yX0_ofFleet : Cond.instanceMethod yX0_ofFleet ∈ lw_all := List.mem_filter.mpr ⟨List.mem_append_right _ (List.mem_of_getElem? (i := 364) (by decide +kernel)), by decide⟩
theorem wo_yX0_ofFleet : Cond.selects yX0_ofFleet.cls yX0_ofFleet yX0_ofFleet ∈ lw_all := List.mem_filter.mpr ⟨List.mem_append_right _ (List.mem_of_getElem? (i := 365) (by decide +kernel)), by decide⟩
set_option maxRecDepth 100000 in
theorem wk_yX0_ofFleet : Cond.code yX0_ofFleet cX0_ofFleet 2 (some .int) ∈ lw_all := List.mem_filter.mpr ⟨List.mem_append_right _ (List.mem_of_getElem? (i := 366) rfl), by decide⟩
theorem wm_X0_153 : Cond.methodLink RX0 153 yX0_boatsUp ∈ lw_all := List.mem_filter.mpr ⟨List.mem_append_right _ (List.mem_of_getElem? (i := 367) (by decide +kernel)), by decide⟩
theorem wn_yX0_boatsUp : Cond.instanceMethod yX0_boatsUp ∈ lw_all := List.mem_filter.mpr ⟨List.mem_append_right _ (List.mem_of_getElem? (i := 368) (by decide +kernel)), by decide⟩
theorem wo_yX0_boatsUp : Cond.selects yX0_boatsUp.cls yX0_boatsUp yX0_boatsUp ∈ lw_all := List.mem_filter.mpr ⟨List.mem_append_right _ (List.mem_of_getElem? (i := 369) (by decide +kernel)), by decide⟩
set_option maxRecDepth 100000 in
theorem wk_yX0_boatsUp : Cond.code yX0_boatsUp cX0_boatsUp 3 (some .int) ∈ lw_all := List.mem_filter.mpr ⟨List.mem_append_right _ (List.mem_of_getElem? (i := 370) rfl), by decide⟩
theorem wm_X0_157 : Cond.methodLink RX0 157 yX0_boatsLeading ∈ lw_all := List.mem_filter.mpr ⟨List.mem_append_right _ (List.mem_of_getElem? (i := 371) (by decide +kernel)), by decide⟩
theorem wn_yX0_boatsLeading : Cond.instanceMethod yX0_boatsLeading ∈ lw_all := List.mem_filter.mpr ⟨List.mem_append_right _ (List.mem_of_getElem? (i := 372) (by decide +kernel)), by decide⟩
theorem wo_yX0_boatsLeading : Cond.selects yX0_boatsLeading.cls yX0_boatsLeading yX0_boatsLeading ∈ lw_all := List.mem_filter.mpr ⟨List.mem_append_right _ (List.mem_of_getElem? (i := 373) (by decide +kernel)), by decide⟩
set_option maxRecDepth 100000 in
theorem wk_yX0_boatsLeading : Cond.code yX0_boatsLeading cX0_boatsLeading 3 (some .int) ∈ lw_all := List.mem_filter.mpr ⟨List.mem_append_right _ (List.mem_of_getElem? (i := 374) rfl), by decide⟩
theorem wm_X0_160 : Cond.methodLink RX0 160 yX0_greatestTerm ∈ lw_all := List.mem_filter.mpr ⟨List.mem_append_right _ (List.mem_of_getElem? (i := 375) (by decide +kernel)), by decide⟩
theorem wn_yX0_greatestTerm : Cond.instanceMethod yX0_greatestTerm ∈ lw_all := List.mem_filter.mpr ⟨List.mem_append_right _ (List.mem_of_getElem? (i := 376) (by decide +kernel)), by decide⟩
theorem wo_yX0_greatestTerm : Cond.selects yX0_greatestTerm.cls yX0_greatestTerm yX0_greatestTerm ∈ lw_all := List.mem_filter.mpr ⟨List.mem_append_right _ (List.mem_of_getElem? (i := 377) (by decide +kernel)), by decide⟩
set_option maxRecDepth 100000 in
theorem wk_yX0_greatestTerm : Cond.code yX0_greatestTerm cX0_greatestTerm 3 (some .int) ∈ lw_all := List.mem_filter.mpr ⟨List.mem_append_right _ (List.mem_of_getElem? (i := 378) rfl), by decide⟩
theorem wm_X0_163 : Cond.methodLink RX0 163 yX0_mostKnown ∈ lw_all := List.mem_filter.mpr ⟨List.mem_append_right _ (List.mem_of_getElem? (i := 379) (by decide +kernel)), by decide⟩
theorem wn_yX0_mostKnown : Cond.instanceMethod yX0_mostKnown ∈ lw_all := List.mem_filter.mpr ⟨List.mem_append_right _ (List.mem_of_getElem? (i := 380) (by decide +kernel)), by decide⟩
theorem wo_yX0_mostKnown : Cond.selects yX0_mostKnown.cls yX0_mostKnown yX0_mostKnown ∈ lw_all := List.mem_filter.mpr ⟨List.mem_append_right _ (List.mem_of_getElem? (i := 381) (by decide +kernel)), by decide⟩
set_option maxRecDepth 100000 in
theorem wk_yX0_mostKnown : Cond.code yX0_mostKnown cX0_mostKnown 3 (some .int) ∈ lw_all := List.mem_filter.mpr ⟨List.mem_append_right _ (List.mem_of_getElem? (i := 382) rfl), by decide⟩
theorem wm_X0_166 : Cond.methodLink RX0 166 yX0_fewestKnown ∈ lw_all := List.mem_filter.mpr ⟨List.mem_append_right _ (List.mem_of_getElem? (i := 383) (by decide +kernel)), by decide⟩
theorem wn_yX0_fewestKnown : Cond.instanceMethod yX0_fewestKnown ∈ lw_all := List.mem_filter.mpr ⟨List.mem_append_right _ (List.mem_of_getElem? (i := 384) (by decide +kernel)), by decide⟩
theorem wo_yX0_fewestKnown : Cond.selects yX0_fewestKnown.cls yX0_fewestKnown yX0_fewestKnown ∈ lw_all := List.mem_filter.mpr ⟨List.mem_append_right _ (List.mem_of_getElem? (i := 385) (by decide +kernel)), by decide⟩
set_option maxRecDepth 100000 in
theorem wk_yX0_fewestKnown : Cond.code yX0_fewestKnown cX0_fewestKnown 3 (some .int) ∈ lw_all := List.mem_filter.mpr ⟨List.mem_append_right _ (List.mem_of_getElem? (i := 386) rfl), by decide⟩
theorem wm_L_138 : Cond.methodLink RL 138 yX2_until ∈ lw_all := List.mem_filter.mpr ⟨List.mem_append_right _ (List.mem_of_getElem? (i := 387) (by decide +kernel)), by decide⟩
theorem wn_yX2_until : Cond.instanceMethod yX2_until ∈ lw_all := List.mem_filter.mpr ⟨List.mem_append_right _ (List.mem_of_getElem? (i := 388) (by decide +kernel)), by decide⟩
theorem wo_yX2_until : Cond.selects yX2_until.cls yX2_until yX2_until ∈ lw_all := List.mem_filter.mpr ⟨List.mem_append_right _ (List.mem_of_getElem? (i := 389) (by decide +kernel)), by decide⟩
set_option maxRecDepth 100000 in
theorem wk_yX2_until : Cond.code yX2_until cX2_until 2 (some .int) ∈ lw_all := List.mem_filter.mpr ⟨List.mem_append_right _ (List.mem_of_getElem? (i := 390) rfl), by decide⟩
theorem wm_X2_123 : Cond.methodLink RX2 123 yX0_copyFrom ∈ lw_all := List.mem_filter.mpr ⟨List.mem_append_right _ (List.mem_of_getElem? (i := 391) (by decide +kernel)), by decide⟩
theorem wn_yX0_copyFrom : Cond.instanceMethod yX0_copyFrom ∈ lw_all := List.mem_filter.mpr ⟨List.mem_append_right _ (List.mem_of_getElem? (i := 392) (by decide +kernel)), by decide⟩
theorem wo_yX0_copyFrom : Cond.selects yX0_copyFrom.cls yX0_copyFrom yX0_copyFrom ∈ lw_all := List.mem_filter.mpr ⟨List.mem_append_right _ (List.mem_of_getElem? (i := 393) (by decide +kernel)), by decide⟩
set_option maxRecDepth 100000 in
theorem wk_yX0_copyFrom : Cond.code yX0_copyFrom cX0_copyFrom 3 none ∈ lw_all := List.mem_filter.mpr ⟨List.mem_append_right _ (List.mem_of_getElem? (i := 394) rfl), by decide⟩
theorem wm_X0_70 : Cond.methodLink RX0 70 yX1_copyFrom ∈ lw_all := List.mem_filter.mpr ⟨List.mem_append_right _ (List.mem_of_getElem? (i := 395) (by decide +kernel)), by decide⟩
theorem wn_yX1_copyFrom : Cond.instanceMethod yX1_copyFrom ∈ lw_all := List.mem_filter.mpr ⟨List.mem_append_right _ (List.mem_of_getElem? (i := 396) (by decide +kernel)), by decide⟩
theorem wo_yX1_copyFrom : Cond.selects yX1_copyFrom.cls yX1_copyFrom yX1_copyFrom ∈ lw_all := List.mem_filter.mpr ⟨List.mem_append_right _ (List.mem_of_getElem? (i := 397) (by decide +kernel)), by decide⟩
set_option maxRecDepth 100000 in
theorem wk_yX1_copyFrom : Cond.code yX1_copyFrom cX1_copyFrom 2 none ∈ lw_all := List.mem_filter.mpr ⟨List.mem_append_right _ (List.mem_of_getElem? (i := 398) rfl), by decide⟩
theorem wm_X1_24 : Cond.methodLink RX1 24 arraycopyName ∈ lw_all := List.mem_filter.mpr ⟨List.mem_append_right _ (List.mem_of_getElem? (i := 399) (by decide +kernel)), by decide⟩
theorem ws_arraycopyName : Cond.static arraycopyName ∈ lw_all := List.mem_filter.mpr ⟨List.mem_append_right _ (List.mem_of_getElem? (i := 400) (by decide +kernel)), by decide⟩
theorem wnat_arraycopyName : Cond.native arraycopyName ∈ lw_all := List.mem_filter.mpr ⟨List.mem_append_right _ (List.mem_of_getElem? (i := 401) (by decide +kernel)), by decide⟩
