/-! which words stand in the tables, by their places -/
theorem wo_yX2_needHours : Cond.selects yX2_needHours.cls yX2_needHours yX2_needHours ∈ lw_all := List.mem_filter.mpr ⟨List.mem_append_left _ (List.mem_of_getElem? (i := 0) (by decide +kernel)), by decide⟩
theorem wo_yX2_needBoat : Cond.selects yX2_needBoat.cls yX2_needBoat yX2_needBoat ∈ lw_all := List.mem_filter.mpr ⟨List.mem_append_left _ (List.mem_of_getElem? (i := 2) (by decide +kernel)), by decide⟩
theorem wo_yX2_needBelow : Cond.selects yX2_needBelow.cls yX2_needBelow yX2_needBelow ∈ lw_all := List.mem_filter.mpr ⟨List.mem_append_left _ (List.mem_of_getElem? (i := 3) (by decide +kernel)), by decide⟩
theorem wo_yX2_digestOfBoat : Cond.selects yX2_digestOfBoat.cls yX2_digestOfBoat yX2_digestOfBoat ∈ lw_all := List.mem_filter.mpr ⟨List.mem_append_left _ (List.mem_of_getElem? (i := 4) (by decide +kernel)), by decide⟩
theorem wo_yX4_stand : Cond.selects yX4_stand.cls yX4_stand yX4_stand ∈ lw_all := List.mem_filter.mpr ⟨List.mem_append_left _ (List.mem_of_getElem? (i := 5) (by decide +kernel)), by decide⟩
theorem wo_yX4_tell : Cond.selects yX4_tell.cls yX4_tell yX4_tell ∈ lw_all := List.mem_filter.mpr ⟨List.mem_append_left _ (List.mem_of_getElem? (i := 6) (by decide +kernel)), by decide⟩
theorem wo_yX4_commit : Cond.selects yX4_commit.cls yX4_commit yX4_commit ∈ lw_all := List.mem_filter.mpr ⟨List.mem_append_left _ (List.mem_of_getElem? (i := 7) (by decide +kernel)), by decide⟩
theorem wu_X0 : ∀ w ∈ u_ws RX0 TX0 13, w ∈ lw_all := fun w hw => by
  have h : ∀ w ∈ u_ws RX0 TX0 13, goodWord w = true := by decide +kernel
  refine List.mem_filter.mpr ⟨List.mem_append_right _ ?_, h w hw⟩
  have h2 : u_ws RX0 TX0 13 = [73, 75, 77, 79, 81, 83, 85, 87, 89, 91, 93, 95, 97].filterMap (fun i => tables_1[i]?) := by decide +kernel
  rw [h2] at hw
  obtain ⟨i, -, hi⟩ := List.mem_filterMap.mp hw
  exact List.mem_of_getElem? hi
theorem wu_X1 : ∀ w ∈ u_ws RX1 TX1 4, w ∈ lw_all := fun w hw => by
  have h : ∀ w ∈ u_ws RX1 TX1 4, goodWord w = true := by decide +kernel
  refine List.mem_filter.mpr ⟨List.mem_append_right _ ?_, h w hw⟩
  have h2 : u_ws RX1 TX1 4 = [42, 44, 46, 48].filterMap (fun i => tables_1[i]?) := by decide +kernel
  rw [h2] at hw
  obtain ⟨i, -, hi⟩ := List.mem_filterMap.mp hw
  exact List.mem_of_getElem? hi
theorem wu_X2 : ∀ w ∈ u_ws RX2 TX2 2, w ∈ lw_all := fun w hw => by
  have h : ∀ w ∈ u_ws RX2 TX2 2, goodWord w = true := by decide +kernel
  refine List.mem_filter.mpr ⟨List.mem_append_right _ ?_, h w hw⟩
  have h2 : u_ws RX2 TX2 2 = [116, 118].filterMap (fun i => tables_1[i]?) := by decide +kernel
  rw [h2] at hw
  obtain ⟨i, -, hi⟩ := List.mem_filterMap.mp hw
  exact List.mem_of_getElem? hi
theorem wu_X3 : ∀ w ∈ u_ws RX3 TX3 9, w ∈ lw_all := fun w hw => by
  have h : ∀ w ∈ u_ws RX3 TX3 9, goodWord w = true := by decide +kernel
  refine List.mem_filter.mpr ⟨List.mem_append_right _ ?_, h w hw⟩
  have h2 : u_ws RX3 TX3 9 = [598, 600, 602, 604, 606, 608, 610, 612, 614].filterMap (fun i => tables_1[i]?) := by decide +kernel
  rw [h2] at hw
  obtain ⟨i, -, hi⟩ := List.mem_filterMap.mp hw
  exact List.mem_of_getElem? hi
theorem wu_X4 : ∀ w ∈ u_ws RX4 TX4 5, w ∈ lw_all := fun w hw => by
  have h : ∀ w ∈ u_ws RX4 TX4 5, goodWord w = true := by decide +kernel
  refine List.mem_filter.mpr ⟨List.mem_append_right _ ?_, h w hw⟩
  have h2 : u_ws RX4 TX4 5 = [624, 626, 628, 630, 632].filterMap (fun i => tables_1[i]?) := by decide +kernel
  rw [h2] at hw
  obtain ⟨i, -, hi⟩ := List.mem_filterMap.mp hw
  exact List.mem_of_getElem? hi
theorem wq_yX2_init : zCal yX2_init cX2_init 1 none 0 := ⟨wk_yX2_init, wi_X2, by decide, by decide, by decide +kernel⟩
theorem wq_yX0_init : zCal yX0_init cX0_init 1 none 0 := ⟨wk_yX0_init, wi_X0, by decide, by decide, by decide +kernel⟩
theorem wq_yX1_init : zCal yX1_init cX1_init 1 none 0 := ⟨wk_yX1_init, wi_X1, by decide, by decide, by decide +kernel⟩
theorem wq_yX0_begin : zCal yX0_begin cX0_begin 3 none 1 := ⟨wk_yX0_begin, wi_X0, by decide, by decide, by decide +kernel⟩
theorem wq_yX1_clear : zCal yX1_clear cX1_clear 2 none 1 := ⟨wk_yX1_clear, wi_X1, by decide, by decide, by decide +kernel⟩
theorem wq_yX2_pass : zCal yX2_pass cX2_pass 3 (some .int) 1 := ⟨wk_yX2_pass, wi_X2, by decide, by decide, by decide +kernel⟩
theorem wq_yX2_needHours : zCal yX2_needHours cX2_needHours 3 none 2 := ⟨wk_yX2_needHours, wi_X2, by decide, by decide, by decide +kernel⟩
theorem wq_yX0_passHours : zCal yX0_passHours cX0_passHours 3 none 1 := ⟨wk_yX0_passHours, wi_X0, by decide, by decide, by decide +kernel⟩
theorem wq_yX0_runClocks : zCal yX0_runClocks cX0_runClocks 2 none 0 := ⟨wk_yX0_runClocks, wi_X0, by decide, by decide, by decide +kernel⟩
theorem wq_yX0_stand : zCal yX0_stand cX0_stand 4 none 1 := ⟨wk_yX0_stand, wi_X0, by decide, by decide, by decide +kernel⟩
theorem wq_yX0_hear : zCal yX0_hear cX0_hear 3 (some .boolean) 2 := ⟨wk_yX0_hear, wi_X0, by decide, by decide, by decide +kernel⟩
theorem wq_yX0_givesVote : zCal yX0_givesVote cX0_givesVote 4 (some .boolean) 2 := ⟨wk_yX0_givesVote, wi_X0, by decide, by decide, by decide +kernel⟩
theorem wq_yX0_meetTerms : zCal yX0_meetTerms cX0_meetTerms 3 (some .boolean) 2 := ⟨wk_yX0_meetTerms, wi_X0, by decide, by decide, by decide +kernel⟩
theorem wq_yX0_takeTerm : zCal yX0_takeTerm cX0_takeTerm 3 none 2 := ⟨wk_yX0_takeTerm, wi_X0, by decide, by decide, by decide +kernel⟩
theorem wq_yX1_asNew : zCal yX1_asNew cX1_asNew 5 (some .boolean) 2 := ⟨wk_yX1_asNew, wi_X1, by decide, by decide, by decide +kernel⟩
theorem wq_yX1_lastTerm : zCal yX1_lastTerm cX1_lastTerm 2 (some .int) 1 := ⟨wk_yX1_lastTerm, wi_X1, by decide, by decide, by decide +kernel⟩
theorem wq_yX0_isMoreThanHalf : zCal yX0_isMoreThanHalf cX0_isMoreThanHalf 2 (some .boolean) 1 := ⟨wk_yX0_isMoreThanHalf, wi_X0, by decide, by decide, by decide +kernel⟩
theorem wq_yX0_tellAll : zCal yX0_tellAll cX0_tellAll 2 none 0 := ⟨wk_yX0_tellAll, wi_X0, by decide, by decide, by decide +kernel⟩
theorem wq_yX0_leadsNow : zCal yX0_leadsNow cX0_leadsNow 2 (some .boolean) 1 := ⟨wk_yX0_leadsNow, wi_X0, by decide, by decide, by decide +kernel⟩
theorem wq_yX0_tellOthers : zCal yX0_tellOthers cX0_tellOthers 3 none 1 := ⟨wk_yX0_tellOthers, wi_X0, by decide, by decide, by decide +kernel⟩
theorem wq_yX0_tell : zCal yX0_tell cX0_tell 3 none 2 := ⟨wk_yX0_tell, wi_X0, by decide, by decide, by decide +kernel⟩
theorem wq_yX1_mend : zCal yX1_mend cX1_mend 4 (some .boolean) 2 := ⟨wk_yX1_mend, wi_X1, by decide, by decide, by decide +kernel⟩
theorem wq_yX1_agreement : zCal yX1_agreement cX1_agreement 7 (some .int) 2 := ⟨wk_yX1_agreement, wi_X1, by decide, by decide, by decide +kernel⟩
theorem wq_yX1_loseLast : zCal yX1_loseLast cX1_loseLast 2 none 1 := ⟨wk_yX1_loseLast, wi_X1, by decide, by decide, by decide +kernel⟩
theorem wq_yX1_termAt : zCal yX1_termAt cX1_termAt 3 (some .int) 2 := ⟨wk_yX1_termAt, wi_X1, by decide, by decide, by decide +kernel⟩
theorem wq_yX1_fishAt : zCal yX1_fishAt cX1_fishAt 3 (some .int) 2 := ⟨wk_yX1_fishAt, wi_X1, by decide, by decide, by decide +kernel⟩
theorem wq_yX1_append : zCal yX1_append cX1_append 5 none 3 := ⟨wk_yX1_append, wi_X1, by decide, by decide, by decide +kernel⟩
theorem wq_yX1_learnCommitted : zCal yX1_learnCommitted cX1_learnCommitted 4 none 2 := ⟨wk_yX1_learnCommitted, wi_X1, by decide, by decide, by decide +kernel⟩
theorem wq_yX0_commitAll : zCal yX0_commitAll cX0_commitAll 2 none 0 := ⟨wk_yX0_commitAll, wi_X0, by decide, by decide, by decide +kernel⟩
theorem wq_yX0_commit : zCal yX0_commit cX0_commit 3 none 1 := ⟨wk_yX0_commit, wi_X0, by decide, by decide, by decide +kernel⟩
theorem wq_yX0_hearersThatAgree : zCal yX0_hearersThatAgree cX0_hearersThatAgree 5 (some .int) 2 := ⟨wk_yX0_hearersThatAgree, wi_X0, by decide, by decide, by decide +kernel⟩
theorem wq_yX2_told : zCal yX2_told cX2_told 3 (some .int) 2 := ⟨wk_yX2_told, wi_X2, by decide, by decide, by decide +kernel⟩
theorem wq_yX2_needBoat : zCal yX2_needBoat cX2_needBoat 2 none 1 := ⟨wk_yX2_needBoat, wi_X2, by decide, by decide, by decide +kernel⟩
theorem wq_yX2_needBelow : zCal yX2_needBelow cX2_needBelow 3 none 2 := ⟨wk_yX2_needBelow, wi_X2, by decide, by decide, by decide +kernel⟩
theorem wq_yX0_ofBoat : zCal yX0_ofBoat cX0_ofBoat 3 (some .int) 2 := ⟨wk_yX0_ofBoat, wi_X0, by decide, by decide, by decide +kernel⟩
theorem wq_yX2_entry : zCal yX2_entry cX2_entry 4 (some .int) 3 := ⟨wk_yX2_entry, wi_X2, by decide, by decide, by decide +kernel⟩
theorem wq_yX0_ofEntry : zCal yX0_ofEntry cX0_ofEntry 4 (some .int) 3 := ⟨wk_yX0_ofEntry, wi_X0, by decide, by decide, by decide +kernel⟩
theorem wq_yX0_boatsThatAgree : zCal yX0_boatsThatAgree cX0_boatsThatAgree 5 (some .int) 2 := ⟨wk_yX0_boatsThatAgree, wi_X0, by decide, by decide, by decide +kernel⟩
theorem wq_yX2_agree : zCal yX2_agree cX2_agree 3 (some .int) 2 := ⟨wk_yX2_agree, wi_X2, by decide, by decide, by decide +kernel⟩
theorem wq_yX2_newer : zCal yX2_newer cX2_newer 3 (some .boolean) 2 := ⟨wk_yX2_newer, wi_X2, by decide, by decide, by decide +kernel⟩
theorem wq_yX2_leader : zCal yX2_leader cX2_leader 3 (some .int) 0 := ⟨wk_yX2_leader, wi_X2, by decide, by decide, by decide +kernel⟩
theorem wq_yX2_count : zCal yX2_count cX2_count 2 (some .int) 1 := ⟨wk_yX2_count, wi_X2, by decide, by decide, by decide +kernel⟩
theorem wq_yX0_ofFleet : zCal yX0_ofFleet cX0_ofFleet 2 (some .int) 1 := ⟨wk_yX0_ofFleet, wi_X0, by decide, by decide, by decide +kernel⟩
theorem wq_yX0_boatsUp : zCal yX0_boatsUp cX0_boatsUp 3 (some .int) 0 := ⟨wk_yX0_boatsUp, wi_X0, by decide, by decide, by decide +kernel⟩
theorem wq_yX0_boatsLeading : zCal yX0_boatsLeading cX0_boatsLeading 3 (some .int) 0 := ⟨wk_yX0_boatsLeading, wi_X0, by decide, by decide, by decide +kernel⟩
theorem wq_yX0_greatestTerm : zCal yX0_greatestTerm cX0_greatestTerm 3 (some .int) 0 := ⟨wk_yX0_greatestTerm, wi_X0, by decide, by decide, by decide +kernel⟩
theorem wq_yX0_mostKnown : zCal yX0_mostKnown cX0_mostKnown 3 (some .int) 0 := ⟨wk_yX0_mostKnown, wi_X0, by decide, by decide, by decide +kernel⟩
theorem wq_yX0_fewestKnown : zCal yX0_fewestKnown cX0_fewestKnown 3 (some .int) 0 := ⟨wk_yX0_fewestKnown, wi_X0, by decide, by decide, by decide +kernel⟩
theorem wq_yX2_until : zCal yX2_until cX2_until 2 (some .int) 0 := ⟨wk_yX2_until, wi_X2, by decide, by decide, by decide +kernel⟩
theorem wq_yX0_copyFrom : zCal yX0_copyFrom cX0_copyFrom 3 none 1 := ⟨wk_yX0_copyFrom, wi_X0, by decide, by decide, by decide +kernel⟩
theorem wq_yX1_copyFrom : zCal yX1_copyFrom cX1_copyFrom 2 none 1 := ⟨wk_yX1_copyFrom, wi_X1, by decide, by decide, by decide +kernel⟩
theorem wq_yX0_isLed : zCal yX0_isLed cX0_isLed 2 (some .boolean) 0 := ⟨wk_yX0_isLed, wi_X0, by decide, by decide, by decide +kernel⟩
theorem wq_yX0_upIn : zCal yX0_upIn cX0_upIn 4 (some .int) 1 := ⟨wk_yX0_upIn, wi_X0, by decide, by decide, by decide +kernel⟩
theorem wq_yX2_foresee : zCal yX2_foresee cX2_foresee 3 (some .int) 2 := ⟨wk_yX2_foresee, wi_X2, by decide, by decide, by decide +kernel⟩
theorem wq_yX2_mean : zCal yX2_mean cX2_mean 3 (some .double) 0 := ⟨wk_yX2_mean, wi_X2, by decide, by decide, by decide +kernel⟩
theorem wq_yX2_digest : zCal yX2_digest cX2_digest 4 (some .long) 0 := ⟨wk_yX2_digest, wi_X2, by decide, by decide, by decide +kernel⟩
theorem wq_yX2_digestOfBoat : zCal yX2_digestOfBoat cX2_digestOfBoat 8 (some .long) 2 := ⟨wk_yX2_digestOfBoat, wi_X2, by decide, by decide, by decide +kernel⟩
theorem wq_yX4_go : zCal yX4_go cX4_go 2 none 0 := ⟨wk_yX4_go, wi_X4, by decide, by decide, by decide +kernel⟩
theorem wq_yX4_stand : zCal yX4_stand cX4_stand 6 none 1 := ⟨wk_yX4_stand, wi_X4, by decide, by decide, by decide +kernel⟩
theorem wq_yX4_hear : zCal yX4_hear cX4_hear 3 (some .boolean) 2 := ⟨wk_yX4_hear, wi_X4, by decide, by decide, by decide +kernel⟩
theorem wq_yX3_meet : zCal yX3_meet cX3_meet 2 none 1 := ⟨wk_yX3_meet, wi_X3, by decide, by decide, by decide +kernel⟩
theorem wq_yX3_isAsNew : zCal yX3_isAsNew cX3_isAsNew 2 (some .boolean) 1 := ⟨wk_yX3_isAsNew, wi_X3, by decide, by decide, by decide +kernel⟩
theorem wq_yX3_last : zCal yX3_last cX3_last 1 (some .int) 0 := ⟨wk_yX3_last, wi_X3, by decide, by decide, by decide +kernel⟩
theorem wq_yX4_tell : zCal yX4_tell cX4_tell 7 none 1 := ⟨wk_yX4_tell, wi_X4, by decide, by decide, by decide +kernel⟩
theorem wq_yX3_same : zCal yX3_same cX3_same 3 (some .int) 1 := ⟨wk_yX3_same, wi_X3, by decide, by decide, by decide +kernel⟩
theorem wq_yX3_relog : zCal yX3_relog cX3_relog 7 none 3 := ⟨wk_yX3_relog, wi_X3, by decide, by decide, by decide +kernel⟩
theorem wq_yX4_commit : zCal yX4_commit cX4_commit 7 none 1 := ⟨wk_yX4_commit, wi_X4, by decide, by decide, by decide +kernel⟩
theorem wq_yX4_isSame : zCal yX4_isSame cX4_isSame 13 (some .boolean) 1 := ⟨wk_yX4_isSame, wi_X4, by decide, by decide, by decide +kernel⟩
theorem wq_yX4_counted : zCal yX4_counted cX4_counted 7 (some .int) 1 := ⟨wk_yX4_counted, wi_X4, by decide, by decide, by decide +kernel⟩
theorem wq_yX2_harbour : zCal yX2_harbour cX2_harbour 4 (some .int) 2 := ⟨wk_yX2_harbour, wi_X2, by decide, by decide, by decide +kernel⟩
theorem wq_yX0_newestIn : zCal yX0_newestIn cX0_newestIn 4 (some .int) 1 := ⟨wk_yX0_newestIn, wi_X0, by decide, by decide, by decide +kernel⟩
theorem wq_yL_below : zCal yL_below cL_below 2 (some .int) 2 := ⟨wk_yL_below, wi_L, by decide, by decide, by decide +kernel⟩
theorem wq_yL_cell : zCal yL_cell cL_cell 2 (some .int) 2 := ⟨wk_yL_cell, wi_L, by decide, by decide, by decide +kernel⟩
theorem wq_yX2_setPatience : zCal yX2_setPatience cX2_setPatience 4 (some .int) 2 := ⟨wk_yX2_setPatience, wi_X2, by decide, by decide, by decide +kernel⟩
theorem wq_yX2_go : zCal yX2_go cX2_go 4 (some .int) 2 := ⟨wk_yX2_go, wi_X2, by decide, by decide, by decide +kernel⟩
theorem wq_yX2_sink : zCal yX2_sink cX2_sink 2 (some .boolean) 1 := ⟨wk_yX2_sink, wi_X2, by decide, by decide, by decide +kernel⟩
theorem wq_yX0_raise : zCal yX0_raise cX0_raise 2 none 1 := ⟨wk_yX0_raise, wi_X0, by decide, by decide, by decide +kernel⟩
theorem wq_yX2_write : zCal yX2_write cX2_write 3 (some .int) 2 := ⟨wk_yX2_write, wi_X2, by decide, by decide, by decide +kernel⟩
theorem wq_yL_build : zCal yL_build cL_build 5 (some (.object "FleetTermsLaw$Sim")) 2 := ⟨wk_yL_build, wi_L, by decide, by decide, by decide +kernel⟩
theorem wq_yX2_fleet : zCal yX2_fleet cX2_fleet 2 (some .int) 1 := ⟨wk_yX2_fleet, wi_X2, by decide, by decide, by decide +kernel⟩
theorem wq_yX4_init : zCal yX4_init cX4_init 3 none 1 := ⟨wk_yX4_init, wi_X4, by decide, by decide, by decide +kernel⟩
theorem wq_yX3_init : zCal yX3_init cX3_init 2 none 1 := ⟨wk_yX3_init, wi_X3, by decide, by decide, by decide +kernel⟩
