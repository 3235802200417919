/-! which words stand in the tables, by their places -/
theorem wo_yX0_passHours : Cond.selects yX0_passHours.cls yX0_passHours yX0_passHours ∈ lw_all := List.mem_filter.mpr ⟨List.mem_append_right _ (List.mem_of_getElem? (i := 199) (by decide +kernel)), by decide⟩
set_option maxRecDepth 100000 in
theorem wk_yX0_passHours : Cond.code yX0_passHours cX0_passHours 3 none ∈ lw_all := List.mem_filter.mpr ⟨List.mem_append_right _ (List.mem_of_getElem? (i := 200) rfl), by decide⟩
theorem wm_X0_77 : Cond.methodLink RX0 77 yX0_runClocks ∈ lw_all := List.mem_filter.mpr ⟨List.mem_append_right _ (List.mem_of_getElem? (i := 201) (by decide +kernel)), by decide⟩
theorem wn_yX0_runClocks : Cond.instanceMethod yX0_runClocks ∈ lw_all := List.mem_filter.mpr ⟨List.mem_append_right _ (List.mem_of_getElem? (i := 202) (by decide +kernel)), by decide⟩
theorem wo_yX0_runClocks : Cond.selects yX0_runClocks.cls yX0_runClocks yX0_runClocks ∈ lw_all := List.mem_filter.mpr ⟨List.mem_append_right _ (List.mem_of_getElem? (i := 203) (by decide +kernel)), by decide⟩
set_option maxRecDepth 100000 in
theorem wk_yX0_runClocks : Cond.code yX0_runClocks cX0_runClocks 2 none ∈ lw_all := List.mem_filter.mpr ⟨List.mem_append_right _ (List.mem_of_getElem? (i := 204) rfl), by decide⟩
theorem wm_X0_86 : Cond.methodLink RX0 86 yX0_stand ∈ lw_all := List.mem_filter.mpr ⟨List.mem_append_right _ (List.mem_of_getElem? (i := 205) (by decide +kernel)), by decide⟩
theorem wn_yX0_stand : Cond.instanceMethod yX0_stand ∈ lw_all := List.mem_filter.mpr ⟨List.mem_append_right _ (List.mem_of_getElem? (i := 206) (by decide +kernel)), by decide⟩
theorem wo_yX0_stand : Cond.selects yX0_stand.cls yX0_stand yX0_stand ∈ lw_all := List.mem_filter.mpr ⟨List.mem_append_right _ (List.mem_of_getElem? (i := 207) (by decide +kernel)), by decide⟩
set_option maxRecDepth 100000 in
theorem wk_yX0_stand : Cond.code yX0_stand cX0_stand 4 none ∈ lw_all := List.mem_filter.mpr ⟨List.mem_append_right _ (List.mem_of_getElem? (i := 208) rfl), by decide⟩
theorem wm_X0_99 : Cond.methodLink RX0 99 yX0_hear ∈ lw_all := List.mem_filter.mpr ⟨List.mem_append_right _ (List.mem_of_getElem? (i := 209) (by decide +kernel)), by decide⟩
theorem wn_yX0_hear : Cond.instanceMethod yX0_hear ∈ lw_all := List.mem_filter.mpr ⟨List.mem_append_right _ (List.mem_of_getElem? (i := 210) (by decide +kernel)), by decide⟩
theorem wo_yX0_hear : Cond.selects yX0_hear.cls yX0_hear yX0_hear ∈ lw_all := List.mem_filter.mpr ⟨List.mem_append_right _ (List.mem_of_getElem? (i := 211) (by decide +kernel)), by decide⟩
set_option maxRecDepth 100000 in
theorem wk_yX0_hear : Cond.code yX0_hear cX0_hear 3 (some .boolean) ∈ lw_all := List.mem_filter.mpr ⟨List.mem_append_right _ (List.mem_of_getElem? (i := 212) rfl), by decide⟩
theorem wm_X0_103 : Cond.methodLink RX0 103 yX0_givesVote ∈ lw_all := List.mem_filter.mpr ⟨List.mem_append_right _ (List.mem_of_getElem? (i := 213) (by decide +kernel)), by decide⟩
theorem wn_yX0_givesVote : Cond.instanceMethod yX0_givesVote ∈ lw_all := List.mem_filter.mpr ⟨List.mem_append_right _ (List.mem_of_getElem? (i := 214) (by decide +kernel)), by decide⟩
theorem wo_yX0_givesVote : Cond.selects yX0_givesVote.cls yX0_givesVote yX0_givesVote ∈ lw_all := List.mem_filter.mpr ⟨List.mem_append_right _ (List.mem_of_getElem? (i := 215) (by decide +kernel)), by decide⟩
set_option maxRecDepth 100000 in
theorem wk_yX0_givesVote : Cond.code yX0_givesVote cX0_givesVote 4 (some .boolean) ∈ lw_all := List.mem_filter.mpr ⟨List.mem_append_right _ (List.mem_of_getElem? (i := 216) rfl), by decide⟩
theorem wm_X0_109 : Cond.methodLink RX0 109 yX0_meetTerms ∈ lw_all := List.mem_filter.mpr ⟨List.mem_append_right _ (List.mem_of_getElem? (i := 217) (by decide +kernel)), by decide⟩
theorem wn_yX0_meetTerms : Cond.instanceMethod yX0_meetTerms ∈ lw_all := List.mem_filter.mpr ⟨List.mem_append_right _ (List.mem_of_getElem? (i := 218) (by decide +kernel)), by decide⟩
theorem wo_yX0_meetTerms : Cond.selects yX0_meetTerms.cls yX0_meetTerms yX0_meetTerms ∈ lw_all := List.mem_filter.mpr ⟨List.mem_append_right _ (List.mem_of_getElem? (i := 219) (by decide +kernel)), by decide⟩
set_option maxRecDepth 100000 in
theorem wk_yX0_meetTerms : Cond.code yX0_meetTerms cX0_meetTerms 3 (some .boolean) ∈ lw_all := List.mem_filter.mpr ⟨List.mem_append_right _ (List.mem_of_getElem? (i := 220) rfl), by decide⟩
theorem wm_X0_125 : Cond.methodLink RX0 125 yX0_takeTerm ∈ lw_all := List.mem_filter.mpr ⟨List.mem_append_right _ (List.mem_of_getElem? (i := 221) (by decide +kernel)), by decide⟩
theorem wn_yX0_takeTerm : Cond.instanceMethod yX0_takeTerm ∈ lw_all := List.mem_filter.mpr ⟨List.mem_append_right _ (List.mem_of_getElem? (i := 222) (by decide +kernel)), by decide⟩
theorem wo_yX0_takeTerm : Cond.selects yX0_takeTerm.cls yX0_takeTerm yX0_takeTerm ∈ lw_all := List.mem_filter.mpr ⟨List.mem_append_right _ (List.mem_of_getElem? (i := 223) (by decide +kernel)), by decide⟩
set_option maxRecDepth 100000 in
theorem wk_yX0_takeTerm : Cond.code yX0_takeTerm cX0_takeTerm 3 none ∈ lw_all := List.mem_filter.mpr ⟨List.mem_append_right _ (List.mem_of_getElem? (i := 224) rfl), by decide⟩
theorem wm_X0_112 : Cond.methodLink RX0 112 yX1_asNew ∈ lw_all := List.mem_filter.mpr ⟨List.mem_append_right _ (List.mem_of_getElem? (i := 225) (by decide +kernel)), by decide⟩
theorem wn_yX1_asNew : Cond.instanceMethod yX1_asNew ∈ lw_all := List.mem_filter.mpr ⟨List.mem_append_right _ (List.mem_of_getElem? (i := 226) (by decide +kernel)), by decide⟩
theorem wo_yX1_asNew : Cond.selects yX1_asNew.cls yX1_asNew yX1_asNew ∈ lw_all := List.mem_filter.mpr ⟨List.mem_append_right _ (List.mem_of_getElem? (i := 227) (by decide +kernel)), by decide⟩
set_option maxRecDepth 100000 in
theorem wk_yX1_asNew : Cond.code yX1_asNew cX1_asNew 5 (some .boolean) ∈ lw_all := List.mem_filter.mpr ⟨List.mem_append_right _ (List.mem_of_getElem? (i := 228) rfl), by decide⟩
theorem wm_X1_36 : Cond.methodLink RX1 36 yX1_lastTerm ∈ lw_all := List.mem_filter.mpr ⟨List.mem_append_right _ (List.mem_of_getElem? (i := 229) (by decide +kernel)), by decide⟩
theorem wn_yX1_lastTerm : Cond.instanceMethod yX1_lastTerm ∈ lw_all := List.mem_filter.mpr ⟨List.mem_append_right _ (List.mem_of_getElem? (i := 230) (by decide +kernel)), by decide⟩
theorem wo_yX1_lastTerm : Cond.selects yX1_lastTerm.cls yX1_lastTerm yX1_lastTerm ∈ lw_all := List.mem_filter.mpr ⟨List.mem_append_right _ (List.mem_of_getElem? (i := 231) (by decide +kernel)), by decide⟩
set_option maxRecDepth 100000 in
theorem wk_yX1_lastTerm : Cond.code yX1_lastTerm cX1_lastTerm 2 (some .int) ∈ lw_all := List.mem_filter.mpr ⟨List.mem_append_right _ (List.mem_of_getElem? (i := 232) rfl), by decide⟩
theorem wm_X0_106 : Cond.methodLink RX0 106 yX0_isMoreThanHalf ∈ lw_all := List.mem_filter.mpr ⟨List.mem_append_right _ (List.mem_of_getElem? (i := 233) (by decide +kernel)), by decide⟩
theorem wn_yX0_isMoreThanHalf : Cond.instanceMethod yX0_isMoreThanHalf ∈ lw_all := List.mem_filter.mpr ⟨List.mem_append_right _ (List.mem_of_getElem? (i := 234) (by decide +kernel)), by decide⟩
theorem wo_yX0_isMoreThanHalf : Cond.selects yX0_isMoreThanHalf.cls yX0_isMoreThanHalf yX0_isMoreThanHalf ∈ lw_all := List.mem_filter.mpr ⟨List.mem_append_right _ (List.mem_of_getElem? (i := 235) (by decide +kernel)), by decide⟩
set_option maxRecDepth 100000 in
theorem wk_yX0_isMoreThanHalf : Cond.code yX0_isMoreThanHalf cX0_isMoreThanHalf 2 (some .boolean) ∈ lw_all := List.mem_filter.mpr ⟨List.mem_append_right _ (List.mem_of_getElem? (i := 236) rfl), by decide⟩
theorem wm_X0_80 : Cond.methodLink RX0 80 yX0_tellAll ∈ lw_all := List.mem_filter.mpr ⟨List.mem_append_right _ (List.mem_of_getElem? (i := 237) (by decide +kernel)), by decide⟩
theorem wn_yX0_tellAll : Cond.instanceMethod yX0_tellAll ∈ lw_all := List.mem_filter.mpr ⟨List.mem_append_right _ (List.mem_of_getElem? (i := 238) (by decide +kernel)), by decide⟩
theorem wo_yX0_tellAll : Cond.selects yX0_tellAll.cls yX0_tellAll yX0_tellAll ∈ lw_all := List.mem_filter.mpr ⟨List.mem_append_right _ (List.mem_of_getElem? (i := 239) (by decide +kernel)), by decide⟩
set_option maxRecDepth 100000 in
theorem wk_yX0_tellAll : Cond.code yX0_tellAll cX0_tellAll 2 none ∈ lw_all := List.mem_filter.mpr ⟨List.mem_append_right _ (List.mem_of_getElem? (i := 240) rfl), by decide⟩
theorem wm_X0_89 : Cond.methodLink RX0 89 yX0_leadsNow ∈ lw_all := List.mem_filter.mpr ⟨List.mem_append_right _ (List.mem_of_getElem? (i := 241) (by decide +kernel)), by decide⟩
theorem wn_yX0_leadsNow : Cond.instanceMethod yX0_leadsNow ∈ lw_all := List.mem_filter.mpr ⟨List.mem_append_right _ (List.mem_of_getElem? (i := 242) (by decide +kernel)), by decide⟩
theorem wo_yX0_leadsNow : Cond.selects yX0_leadsNow.cls yX0_leadsNow yX0_leadsNow ∈ lw_all := List.mem_filter.mpr ⟨List.mem_append_right _ (List.mem_of_getElem? (i := 243) (by decide +kernel)), by decide⟩
set_option maxRecDepth 100000 in
theorem wk_yX0_leadsNow : Cond.code yX0_leadsNow cX0_leadsNow 2 (some .boolean) ∈ lw_all := List.mem_filter.mpr ⟨List.mem_append_right _ (List.mem_of_getElem? (i := 244) rfl), by decide⟩
theorem wm_X0_93 : Cond.methodLink RX0 93 yX0_tellOthers ∈ lw_all := List.mem_filter.mpr ⟨List.mem_append_right _ (List.mem_of_getElem? (i := 245) (by decide +kernel)), by decide⟩
theorem wn_yX0_tellOthers : Cond.instanceMethod yX0_tellOthers ∈ lw_all := List.mem_filter.mpr ⟨List.mem_append_right _ (List.mem_of_getElem? (i := 246) (by decide +kernel)), by decide⟩
theorem wo_yX0_tellOthers : Cond.selects yX0_tellOthers.cls yX0_tellOthers yX0_tellOthers ∈ lw_all := List.mem_filter.mpr ⟨List.mem_append_right _ (List.mem_of_getElem? (i := 247) (by decide +kernel)), by decide⟩
set_option maxRecDepth 100000 in
theorem wk_yX0_tellOthers : Cond.code yX0_tellOthers cX0_tellOthers 3 none ∈ lw_all := List.mem_filter.mpr ⟨List.mem_append_right _ (List.mem_of_getElem? (i := 248) rfl), by decide⟩
theorem wm_X0_115 : Cond.methodLink RX0 115 yX0_tell ∈ lw_all := List.mem_filter.mpr ⟨List.mem_append_right _ (List.mem_of_getElem? (i := 249) (by decide +kernel)), by decide⟩
theorem wn_yX0_tell : Cond.instanceMethod yX0_tell ∈ lw_all := List.mem_filter.mpr ⟨List.mem_append_right _ (List.mem_of_getElem? (i := 250) (by decide +kernel)), by decide⟩
theorem wo_yX0_tell : Cond.selects yX0_tell.cls yX0_tell yX0_tell ∈ lw_all := List.mem_filter.mpr ⟨List.mem_append_right _ (List.mem_of_getElem? (i := 251) (by decide +kernel)), by decide⟩
set_option maxRecDepth 100000 in
theorem wk_yX0_tell : Cond.code yX0_tell cX0_tell 3 none ∈ lw_all := List.mem_filter.mpr ⟨List.mem_append_right _ (List.mem_of_getElem? (i := 252) rfl), by decide⟩
theorem wm_X0_119 : Cond.methodLink RX0 119 yX1_mend ∈ lw_all := List.mem_filter.mpr ⟨List.mem_append_right _ (List.mem_of_getElem? (i := 253) (by decide +kernel)), by decide⟩
theorem wn_yX1_mend : Cond.instanceMethod yX1_mend ∈ lw_all := List.mem_filter.mpr ⟨List.mem_append_right _ (List.mem_of_getElem? (i := 254) (by decide +kernel)), by decide⟩
theorem wo_yX1_mend : Cond.selects yX1_mend.cls yX1_mend yX1_mend ∈ lw_all := List.mem_filter.mpr ⟨List.mem_append_right _ (List.mem_of_getElem? (i := 255) (by decide +kernel)), by decide⟩
set_option maxRecDepth 100000 in
theorem wk_yX1_mend : Cond.code yX1_mend cX1_mend 4 (some .boolean) ∈ lw_all := List.mem_filter.mpr ⟨List.mem_append_right _ (List.mem_of_getElem? (i := 256) rfl), by decide⟩
theorem wm_X1_40 : Cond.methodLink RX1 40 yX1_agreement ∈ lw_all := List.mem_filter.mpr ⟨List.mem_append_right _ (List.mem_of_getElem? (i := 257) (by decide +kernel)), by decide⟩
theorem wn_yX1_agreement : Cond.instanceMethod yX1_agreement ∈ lw_all := List.mem_filter.mpr ⟨List.mem_append_right _ (List.mem_of_getElem? (i := 258) (by decide +kernel)), by decide⟩
theorem wo_yX1_agreement : Cond.selects yX1_agreement.cls yX1_agreement yX1_agreement ∈ lw_all := List.mem_filter.mpr ⟨List.mem_append_right _ (List.mem_of_getElem? (i := 259) (by decide +kernel)), by decide⟩
set_option maxRecDepth 100000 in
theorem wk_yX1_agreement : Cond.code yX1_agreement cX1_agreement 7 (some .int) ∈ lw_all := List.mem_filter.mpr ⟨List.mem_append_right _ (List.mem_of_getElem? (i := 260) rfl), by decide⟩
theorem wm_X1_30 : Cond.methodLink RX1 30 yJ9_min_7cf53 ∈ lw_all := List.mem_filter.mpr ⟨List.mem_append_right _ (List.mem_of_getElem? (i := 261) (by decide +kernel)), by decide⟩
theorem wm_X1_43 : Cond.methodLink RX1 43 yX1_loseLast ∈ lw_all := List.mem_filter.mpr ⟨List.mem_append_right _ (List.mem_of_getElem? (i := 262) (by decide +kernel)), by decide⟩
theorem wn_yX1_loseLast : Cond.instanceMethod yX1_loseLast ∈ lw_all := List.mem_filter.mpr ⟨List.mem_append_right _ (List.mem_of_getElem? (i := 263) (by decide +kernel)), by decide⟩
theorem wo_yX1_loseLast : Cond.selects yX1_loseLast.cls yX1_loseLast yX1_loseLast ∈ lw_all := List.mem_filter.mpr ⟨List.mem_append_right _ (List.mem_of_getElem? (i := 264) (by decide +kernel)), by decide⟩
set_option maxRecDepth 100000 in
theorem wk_yX1_loseLast : Cond.code yX1_loseLast cX1_loseLast 2 none ∈ lw_all := List.mem_filter.mpr ⟨List.mem_append_right _ (List.mem_of_getElem? (i := 265) rfl), by decide⟩
theorem wm_X1_47 : Cond.methodLink RX1 47 yX1_termAt ∈ lw_all := List.mem_filter.mpr ⟨List.mem_append_right _ (List.mem_of_getElem? (i := 266) (by decide +kernel)), by decide⟩
theorem wn_yX1_termAt : Cond.instanceMethod yX1_termAt ∈ lw_all := List.mem_filter.mpr ⟨List.mem_append_right _ (List.mem_of_getElem? (i := 267) (by decide +kernel)), by decide⟩
theorem wo_yX1_termAt : Cond.selects yX1_termAt.cls yX1_termAt yX1_termAt ∈ lw_all := List.mem_filter.mpr ⟨List.mem_append_right _ (List.mem_of_getElem? (i := 268) (by decide +kernel)), by decide⟩
set_option maxRecDepth 100000 in
theorem wk_yX1_termAt : Cond.code yX1_termAt cX1_termAt 3 (some .int) ∈ lw_all := List.mem_filter.mpr ⟨List.mem_append_right _ (List.mem_of_getElem? (i := 269) rfl), by decide⟩
theorem wm_X1_50 : Cond.methodLink RX1 50 yX1_fishAt ∈ lw_all := List.mem_filter.mpr ⟨List.mem_append_right _ (List.mem_of_getElem? (i := 270) (by decide +kernel)), by decide⟩
theorem wn_yX1_fishAt : Cond.instanceMethod yX1_fishAt ∈ lw_all := List.mem_filter.mpr ⟨List.mem_append_right _ (List.mem_of_getElem? (i := 271) (by decide +kernel)), by decide⟩
theorem wo_yX1_fishAt : Cond.selects yX1_fishAt.cls yX1_fishAt yX1_fishAt ∈ lw_all := List.mem_filter.mpr ⟨List.mem_append_right _ (List.mem_of_getElem? (i := 272) (by decide +kernel)), by decide⟩
set_option maxRecDepth 100000 in
theorem wk_yX1_fishAt : Cond.code yX1_fishAt cX1_fishAt 3 (some .int) ∈ lw_all := List.mem_filter.mpr ⟨List.mem_append_right _ (List.mem_of_getElem? (i := 273) rfl), by decide⟩
theorem wm_X1_53 : Cond.methodLink RX1 53 yX1_append ∈ lw_all := List.mem_filter.mpr ⟨List.mem_append_right _ (List.mem_of_getElem? (i := 274) (by decide +kernel)), by decide⟩
theorem wn_yX1_append : Cond.instanceMethod yX1_append ∈ lw_all := List.mem_filter.mpr ⟨List.mem_append_right _ (List.mem_of_getElem? (i := 275) (by decide +kernel)), by decide⟩
theorem wo_yX1_append : Cond.selects yX1_append.cls yX1_append yX1_append ∈ lw_all := List.mem_filter.mpr ⟨List.mem_append_right _ (List.mem_of_getElem? (i := 276) (by decide +kernel)), by decide⟩
set_option maxRecDepth 100000 in
theorem wk_yX1_append : Cond.code yX1_append cX1_append 5 none ∈ lw_all := List.mem_filter.mpr ⟨List.mem_append_right _ (List.mem_of_getElem? (i := 277) rfl), by decide⟩
theorem wm_X0_122 : Cond.methodLink RX0 122 yX1_learnCommitted ∈ lw_all := List.mem_filter.mpr ⟨List.mem_append_right _ (List.mem_of_getElem? (i := 278) (by decide +kernel)), by decide⟩
theorem wn_yX1_learnCommitted : Cond.instanceMethod yX1_learnCommitted ∈ lw_all := List.mem_filter.mpr ⟨List.mem_append_right _ (List.mem_of_getElem? (i := 279) (by decide +kernel)), by decide⟩
theorem wo_yX1_learnCommitted : Cond.selects yX1_learnCommitted.cls yX1_learnCommitted yX1_learnCommitted ∈ lw_all := List.mem_filter.mpr ⟨List.mem_append_right _ (List.mem_of_getElem? (i := 280) (by decide +kernel)), by decide⟩
set_option maxRecDepth 100000 in
theorem wk_yX1_learnCommitted : Cond.code yX1_learnCommitted cX1_learnCommitted 4 none ∈ lw_all := List.mem_filter.mpr ⟨List.mem_append_right _ (List.mem_of_getElem? (i := 281) rfl), by decide⟩
theorem wm_X1_57 : Cond.methodLink RX1 57 yJ9_max_7cf53 ∈ lw_all := List.mem_filter.mpr ⟨List.mem_append_right _ (List.mem_of_getElem? (i := 282) (by decide +kernel)), by decide⟩
theorem wm_X0_83 : Cond.methodLink RX0 83 yX0_commitAll ∈ lw_all := List.mem_filter.mpr ⟨List.mem_append_right _ (List.mem_of_getElem? (i := 283) (by decide +kernel)), by decide⟩
theorem wn_yX0_commitAll : Cond.instanceMethod yX0_commitAll ∈ lw_all := List.mem_filter.mpr ⟨List.mem_append_right _ (List.mem_of_getElem? (i := 284) (by decide +kernel)), by decide⟩
theorem wo_yX0_commitAll : Cond.selects yX0_commitAll.cls yX0_commitAll yX0_commitAll ∈ lw_all := List.mem_filter.mpr ⟨List.mem_append_right _ (List.mem_of_getElem? (i := 285) (by decide +kernel)), by decide⟩
set_option maxRecDepth 100000 in
theorem wk_yX0_commitAll : Cond.code yX0_commitAll cX0_commitAll 2 none ∈ lw_all := List.mem_filter.mpr ⟨List.mem_append_right _ (List.mem_of_getElem? (i := 286) rfl), by decide⟩
theorem wm_X0_96 : Cond.methodLink RX0 96 yX0_commit ∈ lw_all := List.mem_filter.mpr ⟨List.mem_append_right _ (List.mem_of_getElem? (i := 287) (by decide +kernel)), by decide⟩
theorem wn_yX0_commit : Cond.instanceMethod yX0_commit ∈ lw_all := List.mem_filter.mpr ⟨List.mem_append_right _ (List.mem_of_getElem? (i := 288) (by decide +kernel)), by decide⟩
theorem wo_yX0_commit : Cond.selects yX0_commit.cls yX0_commit yX0_commit ∈ lw_all := List.mem_filter.mpr ⟨List.mem_append_right _ (List.mem_of_getElem? (i := 289) (by decide +kernel)), by decide⟩
set_option maxRecDepth 100000 in
theorem wk_yX0_commit : Cond.code yX0_commit cX0_commit 3 none ∈ lw_all := List.mem_filter.mpr ⟨List.mem_append_right _ (List.mem_of_getElem? (i := 290) rfl), by decide⟩
theorem wm_X0_131 : Cond.methodLink RX0 131 yX1_termAt ∈ lw_all := List.mem_filter.mpr ⟨List.mem_append_right _ (List.mem_of_getElem? (i := 291) (by decide +kernel)), by decide⟩
