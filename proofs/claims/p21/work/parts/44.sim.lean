/-! the fleet by hand: its methods -/
def sm_hr (σ : zF) (b o : Nat) : Bool := decide (¬ b = o) && fl_hear σ b o
theorem sm_hr_iff {σ : zF} {b o : Nat} : sm_hr σ b o = true ↔ o ≠ b ∧ fl_hear σ b o = true := by
  unfold sm_hr
  rw [Bool.and_eq_true, decide_eq_true_iff]
  constructor
  · exact fun h => ⟨fun z => h.1 z.symm, h.2⟩
  · exact fun h => ⟨fun z => h.1 z.symm, h.2⟩
def fl_Vb (n : Nat) (σ : zF) : Prop := ∀ i, i < n → σ 4 i = -1 ∨ ∃ j, j < n ∧ σ 4 i = nI j
theorem fl_Lb.cells {n : Nat} {σ τ : zF} (h : fl_Lb n σ) (h8 : τ 8 = σ 8) (h10 : τ 10 = σ 10) : fl_Lb n τ := fun i hi => by
  have e : fl_last τ i = fl_last σ i := by
    unfold fl_last fl_ln
    rw [h8, h10]
  rw [e]
  exact h i hi
theorem fl_Vb.cell {n : Nat} {σ τ : zF} (h : fl_Vb n σ) (h4 : τ 4 = σ 4) : fl_Vb n τ := fun i hi => by
  rw [h4]
  exact h i hi
theorem fl_Vb.take {n : Nat} {σ : zF} (h : fl_Vb n σ) (b : Nat) (g : Int32) : fl_Vb n (fl_take σ b g) := fun i hi => by
  rw [take_4]
  split
  · exact Or.inl rfl
  · exact h i hi
theorem fl_Vb.hof {n : Nat} {σ : zF} (h : fl_Vb n σ) (b : Nat) (g : Int32) : fl_Vb n (fl_hof σ b g) := by
  unfold fl_hof
  split
  · exact h
  · exact h.take b g
theorem fl_Vb.votT {n : Nat} {σ : zF} (h : fl_Vb n σ) {b : Nat} (hb : b < n) (o : Nat) : fl_Vb n (fl_votT σ b o) := fun i hi => by
  rw [votT_4]
  split
  · exact Or.inr ⟨b, hb, rfl⟩
  · exact h i hi
theorem fl_Vb.votS {n : Nat} {σ : zF} (h : fl_Vb n σ) {b : Nat} (hb : b < n) (o : Nat) : fl_Vb n (fl_votS σ b o) := by
  unfold fl_votS
  split
  · exact h.take b _
  · exact (h.hof o _).votT hb o
theorem fl_Vb.std0 {n : Nat} {σ : zF} (h : fl_Vb n σ) {b : Nat} (hb : b < n) : fl_Vb n (fl_std0 σ b) := fun i hi => by
  rw [std0_4]
  split
  · exact Or.inr ⟨b, hb, rfl⟩
  · exact h i hi
theorem fl_Vb.ask {n b : Nat} (hb : b < n) : ∀ (f o v : Nat) (σ : zF), fl_Vb n σ → fl_Vb n (fl_askL b f o v σ).2
  | 0, _, _, _, h => h
  | f + 1, o, v, σ, h => by
    unfold fl_askL
    split
    · split
      · exact fl_Vb.ask hb f _ _ _ (h.votS hb o)
      · exact fl_Vb.ask hb f _ _ _ h
    · exact h
theorem fl_Vb.stand {n : Nat} {σ : zF} (h : fl_Vb n σ) {b : Nat} (hb : b < n) : fl_Vb n (fl_stand n σ b) := by
  unfold fl_stand fl_ask
  exact (fl_Vb.ask hb _ _ _ _ (h.std0 hb)).cell (stdE_k (by decide) (by decide))
theorem fl_Vb.clk1 {n : Nat} {σ : zF} (h : fl_Vb n σ) {i : Nat} (hi : i < n) : fl_Vb n (fl_clk1 n σ i) := by
  unfold fl_clk1
  split
  · split
    · exact fl_Vb.stand (h.cell (zU_ne (by decide))) hi
    · exact h.cell (zU_ne (by decide))
  · exact h
theorem fl_Vb.clk {n : Nat} {σ : zF} (h : fl_Vb n σ) : ∀ i, i ≤ n → fl_Vb n (fl_fold (fl_clk1 n) i σ)
  | 0, _ => h
  | i + 1, hi => (fl_Vb.clk h i (by omega)).clk1 (by omega)
theorem fl_Lb.clk {n : Nat} {σ : zF} (h : fl_Lb n σ) (i : Nat) : fl_Lb n (fl_fold (fl_clk1 n) i σ) := h.cells (clk_k (by omega) i) (clk_k (by omega) i)
theorem votS_lt {τ : zF} {b o : Nat} (h : τ 3 b < τ 3 o) : fl_hof (fl_hof τ o (τ 3 b)) b ((fl_hof τ o (τ 3 b)) 3 o) = fl_take τ b (τ 3 o) := by
  have h' := h
  rw [Int32.lt_iff_toInt_lt] at h'
  have e1 : fl_hof τ o (τ 3 b) = τ := by
    rw [fl_hof, if_pos (by rw [Int32.le_iff_toInt_le]; omega)]
  rw [e1, fl_hof, if_neg (Int32.not_le.mpr h)]
theorem votS_ge {τ : zF} {b o : Nat} (hbo : b ≠ o) (h : ¬ τ 3 b < τ 3 o) : fl_hof (fl_hof τ o (τ 3 b)) b ((fl_hof τ o (τ 3 b)) 3 o) = fl_hof τ o (τ 3 b) := by
  rw [hof_same τ o _ h]
  have e : fl_hof τ o (τ 3 b) 3 b = τ 3 b := hof_oth τ o _ hbo 3 (by decide) (by decide)
  generalize fl_hof τ o (τ 3 b) = ρ at e
  rw [fl_hof, if_pos (by rw [e]; exact Int32.le_refl _)]
theorem hof_lt {τ : zF} {t o : Nat} (h : τ 3 t < τ 3 o) : fl_hof τ t (τ 3 o) = fl_take τ t (τ 3 o) := by
  rw [fl_hof, if_neg (Int32.not_le.mpr h)]
theorem hof_ge {τ : zF} {t o : Nat} (h : ¬ τ 3 t < τ 3 o) : fl_hof τ t (τ 3 o) = τ := by
  rw [fl_hof, if_pos (Int32.not_lt.mp h)]
theorem vok_neg {n : Nat} {σ : zF} (hV : fl_Vb n σ) {b o : Nat} (ho : o < n) (h7 : n ≤ 7) (h : σ 4 o < 0) (hn : fl_nw σ b o = true) : fl_vok σ b o = true := by
  have e : σ 4 o = -1 := by
    rcases hV o ho with q | ⟨j, hj, q⟩
    · exact q
    · rw [q] at h
      exact absurd h (nI_pos (by omega))
  simp [fl_vok, e, hn]
theorem vok_own {σ : zF} {b o : Nat} (h : σ 4 o = nI b) (hn : fl_nw σ b o = true) : fl_vok σ b o = true := by simp [fl_vok, h, hn]
theorem vok_no {σ : zF} {b o : Nat} (h : ¬ σ 4 o < 0) (h2 : ¬ σ 4 o = nI b) : fl_vok σ b o = false := by
  have e : ¬ σ 4 o = -1 := fun z => h (by rw [z]; decide)
  simp [fl_vok, e, h2]
theorem vok_old {σ : zF} {b o : Nat} (hn : fl_nw σ b o = false) : fl_vok σ b o = false := by simp [fl_vok, hn]
theorem votB_lt {τ : zF} {b o : Nat} (h : τ 3 b < τ 3 o) : fl_votB τ b o = false := by simp [fl_votB, h]
theorem votB_ge {τ : zF} {b o : Nat} (h : ¬ τ 3 b < τ 3 o) : fl_votB τ b o = fl_vok (fl_hof τ o (τ 3 b)) b o := by simp [fl_votB, h]
theorem votS_no {τ : zF} {b o : Nat} (h : ¬ τ 3 b < τ 3 o) (hv : fl_vok (fl_hof τ o (τ 3 b)) b o = false) : fl_hof τ o (τ 3 b) = fl_votS τ b o := by
  rw [fl_votS, if_neg h, fl_votT, if_neg (by rw [hv]; decide)]
theorem votS_yes {τ : zF} {b o : Nat} (h : ¬ τ 3 b < τ 3 o) (hv : fl_vok (fl_hof τ o (τ 3 b)) b o = true) : zU (zU (fl_hof τ o (τ 3 b)) 4 o (nI b)) 2 o ((fl_hof τ o (τ 3 b)) 1 o) = fl_votS τ b o := by
  rw [fl_votS, if_neg h, fl_votT, if_pos hv]
theorem smK_8 {n : Nat} {σ τ : zF} {en : Nat → Nat → Nat} {ps : List (Nat × Int32 × Int32)} (h : smK n σ en ps) (hs : ∀ k, k = 8 ∨ k = 10 ∨ k = 11 → τ k = σ k) : smK n τ en ps := smK_cells h (hs 8 (by omega)).symm (hs 10 (by omega)).symm (hs 11 (by omega)).symm
theorem stand_k8 {n b : Nat} {σ : zF} : ∀ k, k = 8 ∨ k = 10 ∨ k = 11 → fl_stand n σ b k = σ k := fun k h => by
  unfold fl_stand fl_ask
  rw [stdE_k (by omega) (by omega), ask_k (by omega) (by omega) (by omega) (by omega), std0_k _ b (by omega) (by omega) (by omega) (by omega) (by omega)]
theorem ask_on {n b o v : Nat} {τ : zF} {F : Nat × zF} (hres : fl_ask n b o v τ = F) (ho : o < n) (h5 : τ 5 b = nI 1) (hc : sm_hr τ b o = true) {c : Bool} (hB : fl_votB τ b o = c) : fl_ask n b (o + 1) (if c = true then v + 1 else v) (fl_votS τ b o) = F := by
  rw [← hres, fl_ask_go n b o v τ ho h5, if_pos (sm_hr_iff.mp hc), hB]
theorem ask_off {n b o v : Nat} {τ : zF} {F : Nat × zF} (hres : fl_ask n b o v τ = F) (ho : o < n) (h5 : τ 5 b = nI 1) (hc : sm_hr τ b o = false) : fl_ask n b (o + 1) v τ = F := by
  rw [← hres, fl_ask_go n b o v τ ho h5, if_neg (fun z => by rw [sm_hr_iff.mpr z] at hc; exact absurd hc (by decide))]
theorem tells_on {n t o : Nat} {τ F : zF} (hres : fl_tells n t o τ = F) (ho : o < n) (h5 : τ 5 t = nI 2) (hc : sm_hr τ t o = true) : fl_tells n t (o + 1) (fl_tel τ t o) = F := by
  rw [← hres, fl_tells_go n t o τ ho h5, if_pos (sm_hr_iff.mp hc)]
theorem tells_off {n t o : Nat} {τ F : zF} (hres : fl_tells n t o τ = F) (ho : o < n) (h5 : τ 5 t = nI 2) (hc : sm_hr τ t o = false) : fl_tells n t (o + 1) τ = F := by
  rw [← hres, fl_tells_go n t o τ ho h5, if_neg (fun z => by rw [sm_hr_iff.mpr z] at hc; exact absurd hc (by decide))]
theorem tel_lt {τ : zF} {t o : Nat} (h : τ 3 t < τ 3 o) : fl_take τ t (τ 3 o) = fl_tel τ t o := by rw [fl_tel, if_pos h]
theorem tel_ge {τ : zF} {t o : Nat} (h : ¬ τ 3 t < τ 3 o) : fl_lrn (fl_lose (fl_mend (fl_got (fl_hof τ o (τ 3 t)) o) t o) (fl_cut (fl_got (fl_hof τ o (τ 3 t)) o) t o)) t o = fl_tel τ t o := by
  rw [fl_tel, if_neg h]
  rfl
theorem mend_cut {σ : zF} {t o : Nat} (h : fl_agr σ t o < fl_ln σ o) : zU (zU σ 8 o (nI (fl_ln σ o - 1))) 0 4 (zU σ 8 o (nI (fl_ln σ o - 1)) 0 4 + nI 1) = fl_lose (fl_mend σ t o) (fl_cut σ t o) := by
  rw [fl_mend, if_pos h, fl_cut, fl_lose, if_pos (decide_eq_true h)]
theorem mend_add {σ : zF} {t o : Nat} (h : ¬ fl_agr σ t o < fl_ln σ o) (h2 : fl_agr σ t o < fl_ln σ t) : fl_app σ o (σ 10 (t * 10 + fl_agr σ t o)) (σ 11 (t * 10 + fl_agr σ t o)) = fl_lose (fl_mend σ t o) (fl_cut σ t o) := by
  rw [fl_mend, if_neg h, if_pos h2, fl_cut, fl_lose, if_neg (fun z => h (of_decide_eq_true z))]
theorem mend_keep {σ : zF} {t o : Nat} (h : ¬ fl_agr σ t o < fl_ln σ o) (h2 : ¬ fl_agr σ t o < fl_ln σ t) : σ = fl_lose (fl_mend σ t o) (fl_cut σ t o) := by
  rw [fl_mend, if_neg h, if_neg h2, fl_cut, fl_lose, if_neg (fun z => h (of_decide_eq_true z))]
theorem zU_id {σ : zF} {k i : Nat} {v : Int32} (h : σ k i = v) : zU σ k i v = σ := by
  funext k' j
  rw [zU_at]
  split
  · rename_i e
    rw [e.1, e.2, h]
  · rfl
theorem lrn_same {n : Nat} {σ : zF} (hI : fl_Iv n σ) {t o : Nat} (ho : o < n) (h : min (fl_kn σ t) (fl_agr σ t o) ≤ fl_kn σ o) : σ = fl_lrn σ t o := by
  unfold fl_lrn
  rw [Nat.max_eq_left h]
  exact (zU_id (hI.kn ho)).symm
theorem lrn_more {σ : zF} {t o k : Nat} (h : fl_kn σ o < k) (hk : k = min (fl_kn σ t) (fl_agr σ t o)) : zU σ 9 o (nI k) = fl_lrn σ t o := by
  unfold fl_lrn
  rw [← hk, Nat.max_eq_right (by omega)]
theorem comL_low {n : Nat} {σ : zF} {b : Nat} : ∀ c, c ≤ fl_kn σ b → fl_comL n σ b c = σ
  | 0, _ => rfl
  | c + 1, h => by
    unfold fl_comL
    rw [if_neg (by omega)]
theorem cnt_eq {n : Nat} {σ : zF} {b k : Nat} (hb : b < n) (hl : fl_lead σ b = true) (hk : k ≤ fl_ln σ b) : fl_ct (fun o => sm_hr σ b o && decide (k ≤ fl_agr σ b o)) n + 1 = fl_cnt n σ b k := by
  have hself : fl_hear σ b b = true := hear_iff.mpr ⟨(lead_iff.mp hl).1, (lead_iff.mp hl).1, rfl⟩
  have key : ∀ m, fl_ct (fl_agrees σ b k) m = fl_ct (fun o => sm_hr σ b o && decide (k ≤ fl_agr σ b o)) m + (if b < m then 1 else 0) := by
    intro m
    induction m with
    | zero => rfl
    | succ m ih =>
      unfold fl_ct
      rw [ih]
      by_cases e : m = b
      · subst e
        have h1 : fl_agrees σ m k m = true := by simp [fl_agrees, hself, agr_self, hk]
        have h2 : (sm_hr σ m m && decide (k ≤ fl_agr σ m m)) = false := by simp [sm_hr]
        show (if fl_agrees σ m k m = true then _ else _) = (if (sm_hr σ m m && decide (k ≤ fl_agr σ m m)) = true then _ else _) + _
        rw [if_pos h1, h2]
        simp
      · have h1 : fl_agrees σ b k m = (sm_hr σ b m && decide (k ≤ fl_agr σ b m)) := by
          have : ¬ b = m := fun z => e z.symm
          simp [fl_agrees, sm_hr, this]
        rw [h1]
        by_cases hlt : b < m
        · rw [if_pos hlt, if_pos (by omega : b < m + 1)]
          split <;> omega
        · rw [if_neg hlt, if_neg (by omega : ¬ b < m + 1)]
          split <;> omega
  unfold fl_cnt
  rw [key n, if_pos hb]
theorem fl_ct_y {p : Nat → Bool} {o : Nat} (h : p o = true) : fl_ct p (o + 1) = fl_ct p o + 1 := if_pos h
theorem fl_ct_n {p : Nat → Bool} {o : Nat} (h : p o = false) : fl_ct p (o + 1) = fl_ct p o := if_neg (by rw [h]; decide)
theorem com_first {n : Nat} {σ : zF} (hI : fl_Iv n σ) {b : Nat} (hb : b < n) : fl_comL n σ b (fl_kn σ b + 1 - 1) = zU σ 9 b (nI (fl_kn σ b)) := by
  rw [Nat.add_sub_cancel, comL_low _ (Nat.le_refl _), zU_id (hI.kn hb)]
theorem com_step {n : Nat} {σ : zF} {b k best : Nat} (h0 : fl_kn σ b < k) (hc : fl_comL n σ b (k - 1) = zU σ 9 b (nI best)) (hno : ¬ (σ 10 (b * 10 + (k - 1)) = σ 3 b ∧ n / 2 < fl_cnt n σ b k)) : fl_comL n σ b (k + 1 - 1) = zU σ 9 b (nI best) := by
  obtain ⟨c, rfl⟩ : ∃ c, k = c + 1 := ⟨k - 1, by omega⟩
  rw [Nat.add_sub_cancel] at hc hno ⊢
  unfold fl_comL
  rw [if_pos h0, if_neg hno]
  exact hc
theorem com_yes {n : Nat} {σ : zF} {b k : Nat} (h0 : fl_kn σ b < k) (hy : σ 10 (b * 10 + (k - 1)) = σ 3 b ∧ n / 2 < fl_cnt n σ b k) : fl_comL n σ b (k + 1 - 1) = zU σ 9 b (nI k) := by
  obtain ⟨c, rfl⟩ : ∃ c, k = c + 1 := ⟨k - 1, by omega⟩
  rw [Nat.add_sub_cancel] at hy ⊢
  unfold fl_comL
  rw [if_pos h0, if_pos hy]
theorem com_end {n : Nat} {σ : zF} {b k best : Nat} (hc : fl_comL n σ b (k - 1) = zU σ 9 b (nI best)) (hk : fl_ln σ b < k) (hor : k ≤ fl_ln σ b + 1 ∨ k = fl_kn σ b + 1) : zU σ 9 b (nI best) = fl_com n σ b := by
  unfold fl_com
  rw [← hc]
  rcases hor with h | h
  · rw [show k - 1 = fl_ln σ b by omega]
  · rw [comL_low _ (by omega), comL_low _ (by omega)]
theorem smK_clk {n : Nat} {σ : zF} {en : Nat → Nat → Nat} {ps : List (Nat × Int32 × Int32)} (h : smK n σ en ps) (i : Nat) : smK n (fl_fold (fl_clk1 n) i σ) en ps := smK_8 h (fun k h => clk_k (by omega) i)
theorem smK_coms {n : Nat} {σ : zF} {en : Nat → Nat → Nat} {ps : List (Nat × Int32 × Int32)} (h : smK n σ en ps) (i : Nat) : smK n (fl_fold (fl_coms1 n) i σ) en ps := smK_8 h (fun k h => coms_k (by omega) i)
theorem fl_clkI {n : Nat} {σ : zF} (h : fl_Iv n σ) {i : Nat} (hi : i ≤ n) : fl_Iv n (fl_fold (fl_clk1 n) i σ) := fl_fold_Iv (fun _ _ hi hτ => fl_clk1_Iv hτ hi) h i hi
theorem fl_tlsI {n : Nat} {σ : zF} (h : fl_Iv n σ) {i : Nat} (hi : i ≤ n) : fl_Iv n (fl_fold (fl_tls1 n) i σ) := fl_fold_Iv (fun _ _ hi hτ => fl_tls1_Iv hτ hi) h i hi
theorem fl_comsI {n : Nat} {σ : zF} (h : fl_Iv n σ) {i : Nat} (hi : i ≤ n) : fl_Iv n (fl_fold (fl_coms1 n) i σ) := fl_fold_Iv (fun _ _ hi hτ => fl_coms1_Iv hτ hi) h i hi
theorem fold_s (f : zF → Nat → zF) (i : Nat) (σ : zF) : f (fl_fold f i σ) i = fl_fold f (i + 1) σ := rfl
theorem clk1_off {n : Nat} {τ : zF} {b : Nat} (h : τ 7 b = 0 ∨ τ 5 b = nI 2) : τ = fl_clk1 n τ b := by
  unfold fl_clk1
  rw [if_neg (fun z => h.elim z.1 z.2)]
theorem clk1_on {n : Nat} {τ : zF} {b : Nat} (h7 : ¬ τ 7 b = 0) (h5 : ¬ τ 5 b = nI 2) (hc : ¬ τ 2 b - nI 1 = 0) : zU τ 2 b (τ 2 b - nI 1) = fl_clk1 n τ b := by
  unfold fl_clk1
  rw [if_pos ⟨h7, h5⟩, if_neg hc]
theorem clk1_st {n : Nat} {τ : zF} {b : Nat} (h7 : ¬ τ 7 b = 0) (h5 : ¬ τ 5 b = nI 2) (hc : τ 2 b - nI 1 = 0) : fl_stand n (zU τ 2 b (τ 2 b - nI 1)) b = fl_clk1 n τ b := by
  unfold fl_clk1
  rw [if_pos ⟨h7, h5⟩, if_pos hc]
theorem tls1_on {n : Nat} {τ : zF} {b : Nat} (h7 : ¬ τ 7 b = 0) (h5 : τ 5 b = nI 2) : fl_tells n b 0 τ = fl_tls1 n τ b := by
  unfold fl_tls1
  rw [if_pos (lead_iff.mpr ⟨h7, h5⟩)]
theorem tls1_off {n : Nat} {τ : zF} {b : Nat} (h : τ 7 b = 0 ∨ ¬ τ 5 b = nI 2) : τ = fl_tls1 n τ b := by
  unfold fl_tls1
  rw [if_neg (fun z => h.elim (lead_iff.mp z).1 (fun q => q (lead_iff.mp z).2))]
theorem coms1_on {n : Nat} {τ : zF} {b : Nat} (h7 : ¬ τ 7 b = 0) (h5 : τ 5 b = nI 2) : fl_com n τ b = fl_coms1 n τ b := by
  unfold fl_coms1
  rw [if_pos (lead_iff.mpr ⟨h7, h5⟩)]
theorem coms1_off {n : Nat} {τ : zF} {b : Nat} (h : τ 7 b = 0 ∨ ¬ τ 5 b = nI 2) : τ = fl_coms1 n τ b := by
  unfold fl_coms1
  rw [if_neg (fun z => h.elim (lead_iff.mp z).1 (fun q => q (lead_iff.mp z).2))]
set_option maxHeartbeats 4000000 in
set_option maxRecDepth 100000 in
theorem c_X4_hear (l : Launch) (D : va_G) (cI cZ cB cE : ClassId) (n : Nat) (a g : Nat → Nat) (σ : zF) (en : Nat → Nat → Nat) (ps : List (Nat × Int32 × Int32)) (hI : fl_Iv n σ) (hk : smK n σ en ps) (b o : Nat) (hb : b < n) (ho : o < n) : zM l D (tyL cI cZ cB cE) yX4_hear cX4_hear 3 (some .boolean) (zR 0 0) [.ref (a 0), .int (nI (b)), .int (nI (o))] [(smS cB a n g σ, zZ), (smG cE n g σ en, zZ), (smP cI ps, zZ)] 0 0 (fun r u => r = some (.int (zb (sm_hr σ b o))) ∧ u = [(smS cB a n g σ, zZ), (smG cE n g σ en, zZ), (smP cI ps, zZ)]) := by
  have hn3 := hI.n3
  have hn7 := hI.n7
  refine z_of (by decide) (Nat.le_of_ble_eq_true rfl) rfl ?_
  intro p e s m args below meth c A C hr hin
  obtain ⟨Q, hQ⟩ : ∃ Q, Q = MQ below (zQ (fun r u => r = some (.int (zb (sm_hr σ b o))) ∧ u = [(smS cB a n g σ, zZ), (smG cE n g σ en, zZ), (smP cI ps, zZ)]) D (tyL cI cZ cB cE) A) args s 0 0 A := ⟨_, rfl⟩
  rw [← hQ]
  refine z_iload_n C dX4_hear_0 rfl 1 rfl ?_
  refine z_iload_n C dX4_hear_1 rfl 2 rfl ?_
  refine z_icmp_eqN C (tgt := 54) dX4_hear_2 (by decide) (by omega) (by omega) (fun c_2 => ?_) (fun c_2 => ?_)
  · refine z_iconst C (v := nI (0)) (by decide) dX4_hear_54 ?_
    rw [hQ]; exact z_zret C hr nar_0 dX4_hear_55 ⟨z_b0 (by simp [sm_hr, fl_hear, c_2]), rfl⟩
  · refine z_aload_n C dX4_hear_5 rfl 0 rfl ?_
    refine z_sget C 0 rfl 4 (by decide) (v := .ref (a 1)) rfl wf_X4_9 dX4_hear_6 ?_
    refine z_iload_n C dX4_hear_9 rfl 1 rfl ?_
    refine z_aB C 0 rfl (i := b) (by omega) (by omega) dX4_hear_10 ?_
    refine z_bget C 0 rfl (i := b) (by omega) 6 (by decide) (v := .int (σ 7 (b))) rfl wf_X4_36 dX4_hear_11 ?_
    refine z_if_eq C (tgt := 54) dX4_hear_14 (by decide) (fun c_14 => ?_) (fun c_14 => ?_)
    · refine z_iconst C (v := nI (0)) (by decide) dX4_hear_54 ?_
      rw [hQ]; exact z_zret C hr nar_0 dX4_hear_55 ⟨z_b0 (by simp [sm_hr, fl_hear, c_2, c_14]), rfl⟩
    · refine z_aload_n C dX4_hear_17 rfl 0 rfl ?_
      refine z_sget C 0 rfl 4 (by decide) (v := .ref (a 1)) rfl wf_X4_9 dX4_hear_18 ?_
      refine z_iload_n C dX4_hear_21 rfl 2 rfl ?_
      refine z_aB C 0 rfl (i := o) (by omega) (by omega) dX4_hear_22 ?_
      refine z_bget C 0 rfl (i := o) (by omega) 6 (by decide) (v := .int (σ 7 (o))) rfl wf_X4_36 dX4_hear_23 ?_
      refine z_if_eq C (tgt := 54) dX4_hear_26 (by decide) (fun c_26 => ?_) (fun c_26 => ?_)
      · refine z_iconst C (v := nI (0)) (by decide) dX4_hear_54 ?_
        rw [hQ]; exact z_zret C hr nar_0 dX4_hear_55 ⟨z_b0 (by simp [sm_hr, fl_hear, c_2, c_14, c_26]), rfl⟩
      · refine z_aload_n C dX4_hear_29 rfl 0 rfl ?_
        refine z_sget C 0 rfl 4 (by decide) (v := .ref (a 1)) rfl wf_X4_9 dX4_hear_30 ?_
        refine z_iload_n C dX4_hear_33 rfl 1 rfl ?_
        refine z_aB C 0 rfl (i := b) (by omega) (by omega) dX4_hear_34 ?_
        refine z_bget C 0 rfl (i := b) (by omega) 5 (by decide) (v := .int (σ 6 (b))) rfl wf_X4_40 dX4_hear_35 ?_
        refine z_aload_n C dX4_hear_38 rfl 0 rfl ?_
        refine z_sget C 0 rfl 4 (by decide) (v := .ref (a 1)) rfl wf_X4_9 dX4_hear_39 ?_
        refine z_iload_n C dX4_hear_42 rfl 2 rfl ?_
        refine z_aB C 0 rfl (i := o) (by omega) (by omega) dX4_hear_43 ?_
        refine z_bget C 0 rfl (i := o) (by omega) 5 (by decide) (v := .int (σ 6 (o))) rfl wf_X4_40 dX4_hear_44 ?_
        refine z_icmp_ne C (tgt := 54) dX4_hear_47 (by decide) (fun c_47 => ?_) (fun c_47 => ?_)
        · refine z_iconst C (v := nI (0)) (by decide) dX4_hear_54 ?_
          rw [hQ]; exact z_zret C hr nar_0 dX4_hear_55 ⟨z_b0 (by simp [sm_hr, fl_hear, c_2, c_14, c_26, c_47]), rfl⟩
        · refine z_iconst C (v := nI (1)) (by decide) dX4_hear_50 ?_
          refine z_goto C (tgt := 55) dX4_hear_51 (by decide) ?_
          rw [hQ]; exact z_zret C hr nar_1 dX4_hear_55 ⟨z_b1 (by simp [sm_hr, fl_hear, c_2, c_14, c_26, c_47]), rfl⟩
set_option maxHeartbeats 4000000 in
set_option maxRecDepth 100000 in
theorem c_X4_stand (l : Launch) (D : va_G) (cI cZ cB cE : ClassId) (n : Nat) (a g : Nat → Nat) (σ : zF) (en : Nat → Nat → Nat) (ps : List (Nat × Int32 × Int32)) (hI : fl_Iv n σ) (hk : smK n σ en ps) (hV : fl_Vb n σ) (hL : fl_Lb n σ) (b : Nat) (hb : b < n) : zM l D (tyL cI cZ cB cE) yX4_stand cX4_stand 6 none (zR 2 41) [.ref (a 0), .int (nI (b))] [(smS cB a n g σ, zZ), (smG cE n g σ en, zZ), (smP cI ps, zZ)] 0 0 (fun r u => r = none ∧ u = [(smS cB a n g ((fl_stand n σ b)), zZ), (smG cE n g ((fl_stand n σ b)) en, zZ), (smP cI ps, zZ)]) := by
  have hn3 := hI.n3
  have hn7 := hI.n7
  refine z_of (by decide) (Nat.le_of_ble_eq_true rfl) rfl ?_
  intro p e s m args below meth c A C hr hin
  obtain ⟨Q, hQ⟩ : ∃ Q, Q = MQ below (zQ (fun r u => r = none ∧ u = [(smS cB a n g ((fl_stand n σ b)), zZ), (smG cE n g ((fl_stand n σ b)) en, zZ), (smP cI ps, zZ)]) D (tyL cI cZ cB cE) A) args s 0 0 A := ⟨_, rfl⟩
  rw [← hQ]
  refine z_aload_n C dX4_stand_0 rfl 0 rfl ?_
  refine z_sget C 0 rfl 4 (by decide) (v := .ref (a 1)) rfl wf_X4_9 dX4_stand_1 ?_
  refine z_iload_n C dX4_stand_4 rfl 1 rfl ?_
  refine z_aB C 0 rfl (i := b) (by omega) (by omega) dX4_stand_5 ?_
  refine z_astore_n C (L' := [(2, .ref (a (2 + (b)))), (0, .ref (a 0)), (1, .int (nI (b)))]) dX4_stand_6 rfl (by decide) rfl ?_
  refine z_aload_n C dX4_stand_7 rfl 1 rfl ?_
  refine z_dup C rfl dX4_stand_8 ?_
  refine z_sget C 0 rfl 1 (by decide) (v := .int (σ 0 2)) rfl wf_X4_23 dX4_stand_9 ?_
  refine z_iconst C (v := nI (1)) (by decide) dX4_stand_12 ?_
  refine z_iadd C dX4_stand_13 ?_
  refine z_sput C (B' := [(smS cB a n g ((zU σ 0 (2) ((σ 0 (2)) + (nI (1))))), zZ), (smG cE n g ((zU σ 0 (2) ((σ 0 (2)) + (nI (1))))) en, zZ), (smP cI ps, zZ)]) 0 rfl 1 (by decide) rfl wf_X4_23 rfl dX4_stand_14 rfl ?_
  refine z_aload_n C dX4_stand_17 rfl 0 rfl ?_
  refine z_dup C rfl dX4_stand_18 ?_
  refine z_bget C 0 rfl (i := b) (by omega) 2 (by decide) (v := .int ((zU σ 0 (2) ((σ 0 (2)) + (nI (1)))) 3 (b))) rfl wf_X4_43 dX4_stand_19 ?_
  refine z_top (y := σ 3 (b)) rfl ?_
  refine z_iconst C (v := nI (1)) (by decide) dX4_stand_22 ?_
  refine z_iadd C dX4_stand_23 ?_
  refine z_bput C (B' := [(smS cB a n g ((zU (zU σ 0 (2) ((σ 0 (2)) + (nI (1)))) 3 (b) ((σ 3 (b)) + (nI (1))))), zZ), (smG cE n g ((zU (zU σ 0 (2) ((σ 0 (2)) + (nI (1)))) 3 (b) ((σ 3 (b)) + (nI (1))))) en, zZ), (smP cI ps, zZ)]) 0 rfl (i := b) (by omega) 2 3 (by decide) rfl rfl wf_X4_43 rfl dX4_stand_24 rfl ?_
  refine z_aload_n C dX4_stand_27 rfl 0 rfl ?_
  refine z_iconst C (v := nI (1)) (by decide) dX4_stand_28 ?_
  refine z_bput C (B' := [(smS cB a n g ((zU (zU (zU σ 0 (2) ((σ 0 (2)) + (nI (1)))) 3 (b) ((σ 3 (b)) + (nI (1)))) 5 (b) (nI (1)))), zZ), (smG cE n g ((zU (zU (zU σ 0 (2) ((σ 0 (2)) + (nI (1)))) 3 (b) ((σ 3 (b)) + (nI (1)))) 5 (b) (nI (1)))) en, zZ), (smP cI ps, zZ)]) 0 rfl (i := b) (by omega) 4 5 (by decide) rfl rfl wf_X4_46 rfl dX4_stand_29 rfl ?_
  refine z_aload_n C dX4_stand_32 rfl 0 rfl ?_
  refine z_iload_n C dX4_stand_33 rfl 2 rfl ?_
  refine z_bput C (B' := [(smS cB a n g ((zU (zU (zU (zU σ 0 (2) ((σ 0 (2)) + (nI (1)))) 3 (b) ((σ 3 (b)) + (nI (1)))) 5 (b) (nI (1))) 4 (b) (nI (b)))), zZ), (smG cE n g ((zU (zU (zU (zU σ 0 (2) ((σ 0 (2)) + (nI (1)))) 3 (b) ((σ 3 (b)) + (nI (1)))) 5 (b) (nI (1))) 4 (b) (nI (b)))) en, zZ), (smP cI ps, zZ)]) 0 rfl (i := b) (by omega) 3 4 (by decide) rfl rfl wf_X4_49 rfl dX4_stand_34 rfl ?_
  refine z_aload_n C dX4_stand_37 rfl 0 rfl ?_
  refine z_aload_n C dX4_stand_38 rfl 0 rfl ?_
  refine z_bget C 0 rfl (i := b) (by omega) 0 (by decide) (v := .int ((zU (zU (zU (zU σ 0 (2) ((σ 0 (2)) + (nI (1)))) 3 (b) ((σ 3 (b)) + (nI (1)))) 5 (b) (nI (1))) 4 (b) (nI (b))) 1 (b))) rfl wf_X4_52 dX4_stand_39 ?_
  refine z_top (y := σ 1 (b)) rfl ?_
  refine z_bput C (B' := [(smS cB a n g ((zU (zU (zU (zU (zU σ 0 (2) ((σ 0 (2)) + (nI (1)))) 3 (b) ((σ 3 (b)) + (nI (1)))) 5 (b) (nI (1))) 4 (b) (nI (b))) 2 (b) (σ 1 (b)))), zZ), (smG cE n g ((zU (zU (zU (zU (zU σ 0 (2) ((σ 0 (2)) + (nI (1)))) 3 (b) ((σ 3 (b)) + (nI (1)))) 5 (b) (nI (1))) 4 (b) (nI (b))) 2 (b) (σ 1 (b)))) en, zZ), (smP cI ps, zZ)]) 0 rfl (i := b) (by omega) 1 2 (by decide) rfl rfl wf_X4_55 rfl dX4_stand_42 rfl ?_
  have hi_1 : fl_Iv n (fl_std0 σ b) := fl_std0_Iv hI b
  have hk_1 : smK n (fl_std0 σ b) en ps := smK_8 hk (fun k h => std0_k σ b (by omega) (by omega) (by omega) (by omega) (by omega))
  refine z_eq (B' := [(smS cB a n g ((fl_std0 σ b)), zZ), (smG cE n g ((fl_std0 σ b)) en, zZ), (smP cI ps, zZ)]) (rfl) ?_
  refine z_iconst C (v := nI (1)) (by decide) dX4_stand_45 ?_
  refine z_istore_n C (L' := [(3, .int (nI (1))), (2, .ref (a (2 + (b)))), (0, .ref (a 0)), (1, .int (nI (b)))]) dX4_stand_46 rfl (by decide) rfl ?_
  refine z_iconst C (v := nI (0)) (by decide) dX4_stand_47 ?_
  refine z_istore C (L' := [(4, .int (nI (0))), (3, .int (nI (1))), (2, .ref (a (2 + (b)))), (0, .ref (a 0)), (1, .int (nI (b)))]) dX4_stand_48 (by decide) rfl ?_
  have loop_50 : ∀ (k_50 o : Nat) (v : Nat) (τ : zF), n < o + k_50 → o ≤ n → (hτ : fl_Iv n τ) → (hkτ : smK n τ en ps) → (hVτ : fl_Vb n τ) → (hLτ : fl_Lb n τ) → (hv : v ≤ o + 1) → (hres : fl_ask n b o v τ = (fl_ask n b 0 1 (fl_std0 σ b))) → zK p l e (zR 2 41) s m args below meth c D A 6 Q 0 0 50 [(0, .ref (a 0)), (1, .int (nI (b))), (2, .ref (a (2 + (b)))), (3, .int (nI (v))), (4, .int (nI (o)))] [] [(smS cB a n g τ, zZ), (smG cE n g τ en, zZ), (smP cI ps, zZ)] := by
    intro k_50
    induction k_50 with
    | zero => intro o v τ m1_50 m2_50; exact absurd m1_50 (by omega)
    | succ k_50 ih_50 =>
      intro o v τ m1_50 m2_50 hτ hkτ hVτ hLτ hv hres
      refine z_iload C dX4_stand_50 4 rfl ?_
      refine z_aload_n C dX4_stand_52 rfl 0 rfl ?_
      refine z_sget C 0 rfl 4 (by decide) (v := .ref (a 1)) rfl wf_X4_9 dX4_stand_53 ?_
      refine z_alenB C 0 rfl dX4_stand_56 ?_
      refine z_icmp_geN C (tgt := 170) dX4_stand_57 (by decide) (by omega) (by omega) (fun c_57 => ?_) (fun c_57 => ?_)
      · have hF : (fl_ask n b 0 1 (fl_std0 σ b)) = (v, τ) := by rw [← hres]; exact fl_ask_end n b o v τ (by omega)
        refine z_aload_n C dX4_stand_170 rfl 2 rfl ?_
        refine z_bget C 0 rfl (i := b) (by omega) 4 (by decide) (v := .int (τ 5 (b))) rfl wf_X4_46 dX4_stand_171 ?_
        refine z_iconst C (v := nI (1)) (by decide) dX4_stand_174 ?_
        refine z_icmp_ne C (tgt := 204) dX4_stand_175 (by decide) (fun c_175 => ?_) (fun c_175 => ?_)
        · rw [hQ]; exact z_vret C hr dX4_stand_204 ⟨rfl, by rw [fl_stand, hF, fl_stdE, if_neg (fun z => c_175 z.1)]⟩
        · refine z_iconst C (v := nI (2)) (by decide) dX4_stand_178 ?_
          refine z_iload_n C dX4_stand_179 rfl 3 rfl ?_
          refine z_imulN C dX4_stand_180 ?_
          refine z_aload_n C dX4_stand_181 rfl 0 rfl ?_
          refine z_sget C 0 rfl 4 (by decide) (v := .ref (a 1)) rfl wf_X4_9 dX4_stand_182 ?_
          refine z_alenB C 0 rfl dX4_stand_185 ?_
          refine z_icmp_leN C (tgt := 204) dX4_stand_186 (by decide) (by omega) (by omega) (fun c_186 => ?_) (fun c_186 => ?_)
          · rw [hQ]; exact z_vret C hr dX4_stand_204 ⟨rfl, by rw [fl_stand, hF, fl_stdE, if_neg (fun z => by have := z.2; simp only at this; omega)]⟩
          · refine z_aload_n C dX4_stand_189 rfl 2 rfl ?_
            refine z_iconst C (v := nI (2)) (by decide) dX4_stand_190 ?_
            refine z_bput C (B' := [(smS cB a n g ((zU τ 5 (b) (nI (2)))), zZ), (smG cE n g ((zU τ 5 (b) (nI (2)))) en, zZ), (smP cI ps, zZ)]) 0 rfl (i := b) (by omega) 4 5 (by decide) rfl rfl wf_X4_46 rfl dX4_stand_191 rfl ?_
            refine z_aload_n C dX4_stand_194 rfl 0 rfl ?_
            refine z_dup C rfl dX4_stand_195 ?_
            refine z_sget C 0 rfl 2 (by decide) (v := .int ((zU τ 5 (b) (nI (2))) 0 3)) rfl wf_X4_26 dX4_stand_196 ?_
            refine z_top (y := τ 0 (3)) rfl ?_
            refine z_iconst C (v := nI (1)) (by decide) dX4_stand_199 ?_
            refine z_iadd C dX4_stand_200 ?_
            refine z_sput C (B' := [(smS cB a n g ((zU (zU τ 5 (b) (nI (2))) 0 (3) ((τ 0 (3)) + (nI (1))))), zZ), (smG cE n g ((zU (zU τ 5 (b) (nI (2))) 0 (3) ((τ 0 (3)) + (nI (1))))) en, zZ), (smP cI ps, zZ)]) 0 rfl 2 (by decide) rfl wf_X4_26 rfl dX4_stand_201 rfl ?_
            rw [hQ]; exact z_vret C hr dX4_stand_204 ⟨rfl, by rw [fl_stand, hF, fl_stdE, if_pos ⟨c_175, by omega⟩]⟩
      · refine z_aload_n C dX4_stand_60 rfl 2 rfl ?_
        refine z_bget C 0 rfl (i := b) (by omega) 4 (by decide) (v := .int (τ 5 (b))) rfl wf_X4_46 dX4_stand_61 ?_
        refine z_iconst C (v := nI (1)) (by decide) dX4_stand_64 ?_
        refine z_icmp_ne C (tgt := 170) dX4_stand_65 (by decide) (fun c_65 => ?_) (fun c_65 => ?_)
        · have hF : (fl_ask n b 0 1 (fl_std0 σ b)) = (v, τ) := by rw [← hres]; exact fl_ask_stop n b o v τ c_65
          refine z_aload_n C dX4_stand_170 rfl 2 rfl ?_
          refine z_bget C 0 rfl (i := b) (by omega) 4 (by decide) (v := .int (τ 5 (b))) rfl wf_X4_46 dX4_stand_171 ?_
          refine z_iconst C (v := nI (1)) (by decide) dX4_stand_174 ?_
          refine z_icmp_ne C (tgt := 204) dX4_stand_175 (by decide) (fun c_175 => ?_) (fun c_175 => ?_)
          · rw [hQ]; exact z_vret C hr dX4_stand_204 ⟨rfl, by rw [fl_stand, hF, fl_stdE, if_neg (fun z => c_175 z.1)]⟩
          · refine z_iconst C (v := nI (2)) (by decide) dX4_stand_178 ?_
            refine z_iload_n C dX4_stand_179 rfl 3 rfl ?_
            refine z_imulN C dX4_stand_180 ?_
            refine z_aload_n C dX4_stand_181 rfl 0 rfl ?_
            refine z_sget C 0 rfl 4 (by decide) (v := .ref (a 1)) rfl wf_X4_9 dX4_stand_182 ?_
            refine z_alenB C 0 rfl dX4_stand_185 ?_
            refine z_icmp_leN C (tgt := 204) dX4_stand_186 (by decide) (by omega) (by omega) (fun c_186 => ?_) (fun c_186 => ?_)
            · rw [hQ]; exact z_vret C hr dX4_stand_204 ⟨rfl, by rw [fl_stand, hF, fl_stdE, if_neg (fun z => by have := z.2; simp only at this; omega)]⟩
            · refine z_aload_n C dX4_stand_189 rfl 2 rfl ?_
              refine z_iconst C (v := nI (2)) (by decide) dX4_stand_190 ?_
              refine z_bput C (B' := [(smS cB a n g ((zU τ 5 (b) (nI (2)))), zZ), (smG cE n g ((zU τ 5 (b) (nI (2)))) en, zZ), (smP cI ps, zZ)]) 0 rfl (i := b) (by omega) 4 5 (by decide) rfl rfl wf_X4_46 rfl dX4_stand_191 rfl ?_
              refine z_aload_n C dX4_stand_194 rfl 0 rfl ?_
              refine z_dup C rfl dX4_stand_195 ?_
              refine z_sget C 0 rfl 2 (by decide) (v := .int ((zU τ 5 (b) (nI (2))) 0 3)) rfl wf_X4_26 dX4_stand_196 ?_
              refine z_top (y := τ 0 (3)) rfl ?_
              refine z_iconst C (v := nI (1)) (by decide) dX4_stand_199 ?_
              refine z_iadd C dX4_stand_200 ?_
              refine z_sput C (B' := [(smS cB a n g ((zU (zU τ 5 (b) (nI (2))) 0 (3) ((τ 0 (3)) + (nI (1))))), zZ), (smG cE n g ((zU (zU τ 5 (b) (nI (2))) 0 (3) ((τ 0 (3)) + (nI (1))))) en, zZ), (smP cI ps, zZ)]) 0 rfl 2 (by decide) rfl wf_X4_26 rfl dX4_stand_201 rfl ?_
              rw [hQ]; exact z_vret C hr dX4_stand_204 ⟨rfl, by rw [fl_stand, hF, fl_stdE, if_pos ⟨c_175, by omega⟩]⟩
        · refine z_aload_n C dX4_stand_68 rfl 0 rfl ?_
          refine z_sget C 0 rfl 4 (by decide) (v := .ref (a 1)) rfl wf_X4_9 dX4_stand_69 ?_
          refine z_iload C dX4_stand_72 4 rfl ?_
          refine z_aB C 0 rfl (i := o) (by omega) (by omega) dX4_stand_74 ?_
          refine z_astore C (L' := [(5, .ref (a (2 + (o)))), (0, .ref (a 0)), (1, .int (nI (b))), (2, .ref (a (2 + (b)))), (3, .int (nI (v))), (4, .int (nI (o)))]) dX4_stand_75 (by decide) rfl ?_
          refine z_aload_n C dX4_stand_77 rfl 1 rfl ?_
          refine z_iload_n C dX4_stand_78 rfl 2 rfl ?_
          refine z_iload C dX4_stand_79 5 rfl ?_
          refine z_cVR C (st' := [.int (zb (sm_hr τ b o))]) (B' := [(smS cB a n g τ, zZ), (smG cE n g τ en, zZ), (smP cI ps, zZ)]) [true, true, true] rfl (c_X4_hear l D cI cZ cB cE n a g τ en ps hτ hkτ (b) (o) (by omega) (by omega)) wq_yX4_hear wm_X4_58 ⟨wn_yX4_hear, wo_yX4_hear⟩ ⟨rfl, rfl, Nat.le_of_ble_eq_true rfl, Nat.le_of_ble_eq_true rfl⟩ 0 rfl 0 rfl rfl rfl rfl (Nat.le_of_ble_eq_true rfl) dX4_stand_81 ⟨Nat.le_of_ble_eq_true rfl, Nat.le_of_ble_eq_true rfl⟩ rfl rfl ?_
          refine z_if_neB C (tgt := 90) dX4_stand_84 (by decide) (fun c_84 => ?_) (fun c_84 => ?_)
          · refine z_aload C dX4_stand_90 0 rfl ?_
            refine z_aload_n C dX4_stand_92 rfl 3 rfl ?_
            refine z_bget C 0 rfl (i := b) (by omega) 2 (by decide) (v := .int (τ 3 (b))) rfl wf_X4_43 dX4_stand_93 ?_
            have hi_2 : fl_Iv n (fl_hof τ (o) (τ 3 (b))) := fl_hof_Iv hτ (o) (τ 3 (b))
            have hk_2 : smK n (fl_hof τ (o) (τ 3 (b))) en ps := smK_cells hkτ (hof_k _ _ _ (by decide) (by decide) (by decide)).symm (hof_k _ _ _ (by decide) (by decide) (by decide)).symm (hof_k _ _ _ (by decide) (by decide) (by decide)).symm
            refine z_cVR C (st' := []) (B' := [(smS cB a n g ((fl_hof τ (o) (τ 3 (b)))), zZ), (smG cE n g ((fl_hof τ (o) (τ 3 (b)))) en, zZ), (smP cI ps, zZ)]) [true, true, true] rfl (c_X3_meet l D cI cZ cB cE n a g τ en ps hτ hkτ (o) (τ 3 (b)) (by omega)) wq_yX3_meet wm_X4_62 ⟨wn_yX3_meet, wo_yX3_meet⟩ ⟨rfl, rfl, Nat.le_of_ble_eq_true rfl, Nat.le_of_ble_eq_true rfl⟩ 0 rfl (2 + (o)) (smS_b (by omega)) rfl rfl rfl (Nat.le_of_ble_eq_true rfl) dX4_stand_96 ⟨Nat.le_of_ble_eq_true rfl, Nat.le_of_ble_eq_true rfl⟩ rfl rfl ?_
            refine z_aload_n C dX4_stand_99 rfl 3 rfl ?_
            refine z_aload C dX4_stand_100 0 rfl ?_
            refine z_bget C 0 rfl (i := o) (by omega) 2 (by decide) (v := .int ((fl_hof τ (o) (τ 3 (b))) 3 (o))) rfl wf_X4_43 dX4_stand_102 ?_
            have hi_3 : fl_Iv n (fl_hof ((fl_hof τ (o) (τ 3 (b)))) (b) ((fl_hof τ (o) (τ 3 (b))) 3 (o))) := fl_hof_Iv hi_2 (b) ((fl_hof τ (o) (τ 3 (b))) 3 (o))
            have hk_3 : smK n (fl_hof ((fl_hof τ (o) (τ 3 (b)))) (b) ((fl_hof τ (o) (τ 3 (b))) 3 (o))) en ps := smK_cells hk_2 (hof_k _ _ _ (by decide) (by decide) (by decide)).symm (hof_k _ _ _ (by decide) (by decide) (by decide)).symm (hof_k _ _ _ (by decide) (by decide) (by decide)).symm
            refine z_cVR C (st' := []) (B' := [(smS cB a n g ((fl_hof ((fl_hof τ (o) (τ 3 (b)))) (b) ((fl_hof τ (o) (τ 3 (b))) 3 (o)))), zZ), (smG cE n g ((fl_hof ((fl_hof τ (o) (τ 3 (b)))) (b) ((fl_hof τ (o) (τ 3 (b))) 3 (o)))) en, zZ), (smP cI ps, zZ)]) [true, true, true] rfl (c_X3_meet l D cI cZ cB cE n a g ((fl_hof τ (o) (τ 3 (b)))) en ps hi_2 hk_2 (b) ((fl_hof τ (o) (τ 3 (b))) 3 (o)) (by omega)) wq_yX3_meet wm_X4_62 ⟨wn_yX3_meet, wo_yX3_meet⟩ ⟨rfl, rfl, Nat.le_of_ble_eq_true rfl, Nat.le_of_ble_eq_true rfl⟩ 0 rfl (2 + (b)) (smS_b (by omega)) rfl rfl rfl (Nat.le_of_ble_eq_true rfl) dX4_stand_105 ⟨Nat.le_of_ble_eq_true rfl, Nat.le_of_ble_eq_true rfl⟩ rfl rfl ?_
            have hbo : b ≠ o := fun z => (sm_hr_iff.mp c_84).1 z.symm
            by_cases hlt : τ 3 b < τ 3 o
            · have hi_4 : fl_Iv n (fl_take τ b (τ 3 o)) := fl_take_Iv hτ b _
              have hk_4 : smK n (fl_take τ b (τ 3 o)) en ps := smK_8 hkτ (fun k h => take_k τ b _ (by omega) (by omega) (by omega))
              refine z_eq (B' := [(smS cB a n g ((fl_take τ b (τ 3 o))), zZ), (smG cE n g ((fl_take τ b (τ 3 o))) en, zZ), (smP cI ps, zZ)]) (by rw [votS_lt hlt]) ?_
              refine z_aload_n C dX4_stand_108 rfl 3 rfl ?_
              refine z_bget C 0 rfl (i := b) (by omega) 4 (by decide) (v := .int ((fl_take τ b (τ 3 o)) 5 (b))) rfl wf_X4_46 dX4_stand_109 ?_
              refine z_top (y := nI 0) (by rw [take_5, if_pos rfl]) ?_
              refine z_iconst C (v := nI (1)) (by decide) dX4_stand_112 ?_
              refine z_icmp_neN C (tgt := 164) dX4_stand_113 (by decide) (by omega) (by omega) (fun c_113 => ?_) (fun c_113 => ?_)
              · refine z_iinc C (L' := [(4, .int (nI (o + 1))), (5, .ref (a (2 + (o)))), (0, .ref (a 0)), (1, .int (nI (b))), (2, .ref (a (2 + (b)))), (3, .int (nI (v)))]) dX4_stand_164 5 rfl (z_inc1 _) (by decide) rfl ?_
                refine z_goto C (tgt := 50) dX4_stand_167 (by decide) ?_
                have hi_5 : fl_Iv n (fl_votS τ b o) := fl_votS_Iv hτ b o
                have hk_5 : smK n (fl_votS τ b o) en ps := smK_8 hkτ (fun k h => votS_k τ b o (by omega) (by omega) (by omega) (by omega))
                refine z_eq (B' := [(smS cB a n g ((fl_votS τ b o)), zZ), (smG cE n g ((fl_votS τ b o)) en, zZ), (smP cI ps, zZ)]) (by rw [fl_votS, if_pos hlt]) ?_
                refine z_sub (L' := [(0, .ref (a 0)), (1, .int (nI (b))), (2, .ref (a (2 + (b)))), (3, .int (nI (v))), (4, .int (nI (o + 1)))]) [2, 3, 4, 5, 0] rfl ?_
                exact ih_50 (o + 1) v (fl_votS τ b o) (by omega) (by omega) hi_5 hk_5 (hVτ.votS hb o) (hLτ.cells (votS_k τ b o (by decide) (by decide) (by decide) (by decide)) (votS_k τ b o (by decide) (by decide) (by decide) (by decide))) (by omega) (ask_on (c := false) hres (by omega) c_65 c_84 (votB_lt hlt))
              · exact absurd c_113 (by omega)
            · have hi_6 : fl_Iv n (fl_hof τ o (τ 3 b)) := fl_hof_Iv hτ o _
              have hk_6 : smK n (fl_hof τ o (τ 3 b)) en ps := smK_8 hkτ (fun k h => hof_k τ o _ (by omega) (by omega) (by omega))
              refine z_eq (B' := [(smS cB a n g ((fl_hof τ o (τ 3 b))), zZ), (smG cE n g ((fl_hof τ o (τ 3 b))) en, zZ), (smP cI ps, zZ)]) (by rw [votS_ge hbo hlt]) ?_
              have hV1 := hVτ.hof o (τ 3 b)
              have hL1 : fl_Lb n (fl_hof τ o (τ 3 b)) := hLτ.cells (hof_k τ o _ (by decide) (by decide) (by decide)) (hof_k τ o _ (by decide) (by decide) (by decide))
              refine z_aload_n C dX4_stand_108 rfl 3 rfl ?_
              refine z_bget C 0 rfl (i := b) (by omega) 4 (by decide) (v := .int ((fl_hof τ o (τ 3 b)) 5 (b))) rfl wf_X4_46 dX4_stand_109 ?_
              refine z_top (y := nI 1) (by rw [hof_oth τ o _ hbo 5 (by decide) (by decide)]; exact c_65) ?_
              refine z_iconst C (v := nI (1)) (by decide) dX4_stand_112 ?_
              refine z_icmp_neN C (tgt := 164) dX4_stand_113 (by decide) (by omega) (by omega) (fun c_113 => ?_) (fun c_113 => ?_)
              · exact absurd rfl c_113
              · refine z_aload C dX4_stand_116 0 rfl ?_
                refine z_bget C 0 rfl (i := o) (by omega) 3 (by decide) (v := .int ((fl_hof τ o (τ 3 b)) 4 (o))) rfl wf_X4_49 dX4_stand_118 ?_
                refine z_if_lt C (tgt := 133) dX4_stand_121 (by decide) (fun c_121 => ?_) (fun c_121 => ?_)
                · refine z_aload_n C dX4_stand_133 rfl 3 rfl ?_
                  refine z_aload C dX4_stand_134 0 rfl ?_
                  refine z_cVR C (st' := [.int (zb (fl_nw ((fl_hof τ o (τ 3 b))) (b) (o)))]) (B' := [(smS cB a n g ((fl_hof τ o (τ 3 b))), zZ), (smG cE n g ((fl_hof τ o (τ 3 b))) en, zZ), (smP cI ps, zZ)]) [true, true, true] rfl (c_X3_isAsNew l D cI cZ cB cE n a g ((fl_hof τ o (τ 3 b))) en ps hi_6 hk_6 hL1 (b) (o) (by omega) (by omega)) wq_yX3_isAsNew wm_X4_65 ⟨wn_yX3_isAsNew, wo_yX3_isAsNew⟩ ⟨rfl, rfl, Nat.le_of_ble_eq_true rfl, Nat.le_of_ble_eq_true rfl⟩ 0 rfl (2 + (b)) (smS_b (by omega)) rfl rfl rfl (Nat.le_of_ble_eq_true rfl) dX4_stand_136 ⟨Nat.le_of_ble_eq_true rfl, Nat.le_of_ble_eq_true rfl⟩ rfl rfl ?_
                  refine z_if_neB C (tgt := 145) dX4_stand_139 (by decide) (fun c_139 => ?_) (fun c_139 => ?_)
                  · have hvk := vok_neg hV1 (by omega) (by omega) c_121 c_139
                    refine z_aload C dX4_stand_145 0 rfl ?_
                    refine z_iload_n C dX4_stand_147 rfl 2 rfl ?_
                    refine z_bput C (B' := [(smS cB a n g ((zU (fl_hof τ o (τ 3 b)) 4 (o) (nI (b)))), zZ), (smG cE n g ((zU (fl_hof τ o (τ 3 b)) 4 (o) (nI (b)))) en, zZ), (smP cI ps, zZ)]) 0 rfl (i := o) (by omega) 3 4 (by decide) rfl rfl wf_X4_49 rfl dX4_stand_148 rfl ?_
                    refine z_aload C dX4_stand_151 0 rfl ?_
                    refine z_aload C dX4_stand_153 0 rfl ?_
                    refine z_bget C 0 rfl (i := o) (by omega) 0 (by decide) (v := .int ((zU (fl_hof τ o (τ 3 b)) 4 (o) (nI (b))) 1 (o))) rfl wf_X4_52 dX4_stand_155 ?_
                    refine z_top (y := (fl_hof τ o (τ 3 b)) 1 (o)) rfl ?_
                    refine z_bput C (B' := [(smS cB a n g ((zU (zU (fl_hof τ o (τ 3 b)) 4 (o) (nI (b))) 2 (o) ((fl_hof τ o (τ 3 b)) 1 (o)))), zZ), (smG cE n g ((zU (zU (fl_hof τ o (τ 3 b)) 4 (o) (nI (b))) 2 (o) ((fl_hof τ o (τ 3 b)) 1 (o)))) en, zZ), (smP cI ps, zZ)]) 0 rfl (i := o) (by omega) 1 2 (by decide) rfl rfl wf_X4_55 rfl dX4_stand_158 rfl ?_
                    refine z_iinc C (L' := [(3, .int (nI (v + 1))), (5, .ref (a (2 + (o)))), (0, .ref (a 0)), (1, .int (nI (b))), (2, .ref (a (2 + (b)))), (4, .int (nI (o)))]) dX4_stand_161 4 rfl (z_inc1 _) (by decide) rfl ?_
                    refine z_iinc C (L' := [(4, .int (nI (o + 1))), (3, .int (nI (v + 1))), (5, .ref (a (2 + (o)))), (0, .ref (a 0)), (1, .int (nI (b))), (2, .ref (a (2 + (b))))]) dX4_stand_164 5 rfl (z_inc1 _) (by decide) rfl ?_
                    refine z_goto C (tgt := 50) dX4_stand_167 (by decide) ?_
                    have hi_7 : fl_Iv n (fl_votS τ b o) := fl_votS_Iv hτ b o
                    have hk_7 : smK n (fl_votS τ b o) en ps := smK_8 hkτ (fun k h => votS_k τ b o (by omega) (by omega) (by omega) (by omega))
                    refine z_eq (B' := [(smS cB a n g ((fl_votS τ b o)), zZ), (smG cE n g ((fl_votS τ b o)) en, zZ), (smP cI ps, zZ)]) (by rw [votS_yes hlt hvk]) ?_
                    refine z_sub (L' := [(0, .ref (a 0)), (1, .int (nI (b))), (2, .ref (a (2 + (b)))), (3, .int (nI (v + 1))), (4, .int (nI (o + 1)))]) [3, 4, 5, 1, 0] rfl ?_
                    exact ih_50 (o + 1) (v + 1) (fl_votS τ b o) (by omega) (by omega) hi_7 hk_7 (hVτ.votS hb o) (hLτ.cells (votS_k τ b o (by decide) (by decide) (by decide) (by decide)) (votS_k τ b o (by decide) (by decide) (by decide) (by decide))) (by omega) (ask_on (c := true) hres (by omega) c_65 c_84 ((votB_ge hlt).trans hvk))
                  · refine z_goto C (tgt := 164) dX4_stand_142 (by decide) ?_
                    have hvk := vok_old (σ := fl_hof τ o (τ 3 b)) (b := b) (o := o) c_139
                    refine z_iinc C (L' := [(4, .int (nI (o + 1))), (5, .ref (a (2 + (o)))), (0, .ref (a 0)), (1, .int (nI (b))), (2, .ref (a (2 + (b)))), (3, .int (nI (v)))]) dX4_stand_164 5 rfl (z_inc1 _) (by decide) rfl ?_
                    refine z_goto C (tgt := 50) dX4_stand_167 (by decide) ?_
                    have hi_8 : fl_Iv n (fl_votS τ b o) := fl_votS_Iv hτ b o
                    have hk_8 : smK n (fl_votS τ b o) en ps := smK_8 hkτ (fun k h => votS_k τ b o (by omega) (by omega) (by omega) (by omega))
                    refine z_eq (B' := [(smS cB a n g ((fl_votS τ b o)), zZ), (smG cE n g ((fl_votS τ b o)) en, zZ), (smP cI ps, zZ)]) (by rw [votS_no hlt hvk]) ?_
                    refine z_sub (L' := [(0, .ref (a 0)), (1, .int (nI (b))), (2, .ref (a (2 + (b)))), (3, .int (nI (v))), (4, .int (nI (o + 1)))]) [2, 3, 4, 5, 0] rfl ?_
                    exact ih_50 (o + 1) v (fl_votS τ b o) (by omega) (by omega) hi_8 hk_8 (hVτ.votS hb o) (hLτ.cells (votS_k τ b o (by decide) (by decide) (by decide) (by decide)) (votS_k τ b o (by decide) (by decide) (by decide) (by decide))) (by omega) (ask_on (c := false) hres (by omega) c_65 c_84 ((votB_ge hlt).trans hvk))
                · refine z_aload C dX4_stand_124 0 rfl ?_
                  refine z_bget C 0 rfl (i := o) (by omega) 3 (by decide) (v := .int ((fl_hof τ o (τ 3 b)) 4 (o))) rfl wf_X4_49 dX4_stand_126 ?_
                  refine z_iload_n C dX4_stand_129 rfl 2 rfl ?_
                  refine z_icmp_ne C (tgt := 164) dX4_stand_130 (by decide) (fun c_130 => ?_) (fun c_130 => ?_)
                  · have hvk := vok_no (σ := fl_hof τ o (τ 3 b)) (b := b) (o := o) c_121 c_130
                    refine z_iinc C (L' := [(4, .int (nI (o + 1))), (5, .ref (a (2 + (o)))), (0, .ref (a 0)), (1, .int (nI (b))), (2, .ref (a (2 + (b)))), (3, .int (nI (v)))]) dX4_stand_164 5 rfl (z_inc1 _) (by decide) rfl ?_
                    refine z_goto C (tgt := 50) dX4_stand_167 (by decide) ?_
                    have hi_9 : fl_Iv n (fl_votS τ b o) := fl_votS_Iv hτ b o
                    have hk_9 : smK n (fl_votS τ b o) en ps := smK_8 hkτ (fun k h => votS_k τ b o (by omega) (by omega) (by omega) (by omega))
                    refine z_eq (B' := [(smS cB a n g ((fl_votS τ b o)), zZ), (smG cE n g ((fl_votS τ b o)) en, zZ), (smP cI ps, zZ)]) (by rw [votS_no hlt hvk]) ?_
                    refine z_sub (L' := [(0, .ref (a 0)), (1, .int (nI (b))), (2, .ref (a (2 + (b)))), (3, .int (nI (v))), (4, .int (nI (o + 1)))]) [2, 3, 4, 5, 0] rfl ?_
                    exact ih_50 (o + 1) v (fl_votS τ b o) (by omega) (by omega) hi_9 hk_9 (hVτ.votS hb o) (hLτ.cells (votS_k τ b o (by decide) (by decide) (by decide) (by decide)) (votS_k τ b o (by decide) (by decide) (by decide) (by decide))) (by omega) (ask_on (c := false) hres (by omega) c_65 c_84 ((votB_ge hlt).trans hvk))
                  · refine z_aload_n C dX4_stand_133 rfl 3 rfl ?_
                    refine z_aload C dX4_stand_134 0 rfl ?_
                    refine z_cVR C (st' := [.int (zb (fl_nw ((fl_hof τ o (τ 3 b))) (b) (o)))]) (B' := [(smS cB a n g ((fl_hof τ o (τ 3 b))), zZ), (smG cE n g ((fl_hof τ o (τ 3 b))) en, zZ), (smP cI ps, zZ)]) [true, true, true] rfl (c_X3_isAsNew l D cI cZ cB cE n a g ((fl_hof τ o (τ 3 b))) en ps hi_6 hk_6 hL1 (b) (o) (by omega) (by omega)) wq_yX3_isAsNew wm_X4_65 ⟨wn_yX3_isAsNew, wo_yX3_isAsNew⟩ ⟨rfl, rfl, Nat.le_of_ble_eq_true rfl, Nat.le_of_ble_eq_true rfl⟩ 0 rfl (2 + (b)) (smS_b (by omega)) rfl rfl rfl (Nat.le_of_ble_eq_true rfl) dX4_stand_136 ⟨Nat.le_of_ble_eq_true rfl, Nat.le_of_ble_eq_true rfl⟩ rfl rfl ?_
                    refine z_if_neB C (tgt := 145) dX4_stand_139 (by decide) (fun c_139 => ?_) (fun c_139 => ?_)
                    · have hvk := vok_own (σ := fl_hof τ o (τ 3 b)) c_130 c_139
                      refine z_aload C dX4_stand_145 0 rfl ?_
                      refine z_iload_n C dX4_stand_147 rfl 2 rfl ?_
                      refine z_bput C (B' := [(smS cB a n g ((zU (fl_hof τ o (τ 3 b)) 4 (o) (nI (b)))), zZ), (smG cE n g ((zU (fl_hof τ o (τ 3 b)) 4 (o) (nI (b)))) en, zZ), (smP cI ps, zZ)]) 0 rfl (i := o) (by omega) 3 4 (by decide) rfl rfl wf_X4_49 rfl dX4_stand_148 rfl ?_
                      refine z_aload C dX4_stand_151 0 rfl ?_
                      refine z_aload C dX4_stand_153 0 rfl ?_
                      refine z_bget C 0 rfl (i := o) (by omega) 0 (by decide) (v := .int ((zU (fl_hof τ o (τ 3 b)) 4 (o) (nI (b))) 1 (o))) rfl wf_X4_52 dX4_stand_155 ?_
                      refine z_top (y := (fl_hof τ o (τ 3 b)) 1 (o)) rfl ?_
                      refine z_bput C (B' := [(smS cB a n g ((zU (zU (fl_hof τ o (τ 3 b)) 4 (o) (nI (b))) 2 (o) ((fl_hof τ o (τ 3 b)) 1 (o)))), zZ), (smG cE n g ((zU (zU (fl_hof τ o (τ 3 b)) 4 (o) (nI (b))) 2 (o) ((fl_hof τ o (τ 3 b)) 1 (o)))) en, zZ), (smP cI ps, zZ)]) 0 rfl (i := o) (by omega) 1 2 (by decide) rfl rfl wf_X4_55 rfl dX4_stand_158 rfl ?_
                      refine z_iinc C (L' := [(3, .int (nI (v + 1))), (5, .ref (a (2 + (o)))), (0, .ref (a 0)), (1, .int (nI (b))), (2, .ref (a (2 + (b)))), (4, .int (nI (o)))]) dX4_stand_161 4 rfl (z_inc1 _) (by decide) rfl ?_
                      refine z_iinc C (L' := [(4, .int (nI (o + 1))), (3, .int (nI (v + 1))), (5, .ref (a (2 + (o)))), (0, .ref (a 0)), (1, .int (nI (b))), (2, .ref (a (2 + (b))))]) dX4_stand_164 5 rfl (z_inc1 _) (by decide) rfl ?_
                      refine z_goto C (tgt := 50) dX4_stand_167 (by decide) ?_
                      have hi_10 : fl_Iv n (fl_votS τ b o) := fl_votS_Iv hτ b o
                      have hk_10 : smK n (fl_votS τ b o) en ps := smK_8 hkτ (fun k h => votS_k τ b o (by omega) (by omega) (by omega) (by omega))
                      refine z_eq (B' := [(smS cB a n g ((fl_votS τ b o)), zZ), (smG cE n g ((fl_votS τ b o)) en, zZ), (smP cI ps, zZ)]) (by rw [votS_yes hlt hvk]) ?_
                      refine z_sub (L' := [(0, .ref (a 0)), (1, .int (nI (b))), (2, .ref (a (2 + (b)))), (3, .int (nI (v + 1))), (4, .int (nI (o + 1)))]) [3, 4, 5, 1, 0] rfl ?_
                      exact ih_50 (o + 1) (v + 1) (fl_votS τ b o) (by omega) (by omega) hi_10 hk_10 (hVτ.votS hb o) (hLτ.cells (votS_k τ b o (by decide) (by decide) (by decide) (by decide)) (votS_k τ b o (by decide) (by decide) (by decide) (by decide))) (by omega) (ask_on (c := true) hres (by omega) c_65 c_84 ((votB_ge hlt).trans hvk))
                    · refine z_goto C (tgt := 164) dX4_stand_142 (by decide) ?_
                      have hvk := vok_old (σ := fl_hof τ o (τ 3 b)) (b := b) (o := o) c_139
                      refine z_iinc C (L' := [(4, .int (nI (o + 1))), (5, .ref (a (2 + (o)))), (0, .ref (a 0)), (1, .int (nI (b))), (2, .ref (a (2 + (b)))), (3, .int (nI (v)))]) dX4_stand_164 5 rfl (z_inc1 _) (by decide) rfl ?_
                      refine z_goto C (tgt := 50) dX4_stand_167 (by decide) ?_
                      have hi_11 : fl_Iv n (fl_votS τ b o) := fl_votS_Iv hτ b o
                      have hk_11 : smK n (fl_votS τ b o) en ps := smK_8 hkτ (fun k h => votS_k τ b o (by omega) (by omega) (by omega) (by omega))
                      refine z_eq (B' := [(smS cB a n g ((fl_votS τ b o)), zZ), (smG cE n g ((fl_votS τ b o)) en, zZ), (smP cI ps, zZ)]) (by rw [votS_no hlt hvk]) ?_
                      refine z_sub (L' := [(0, .ref (a 0)), (1, .int (nI (b))), (2, .ref (a (2 + (b)))), (3, .int (nI (v))), (4, .int (nI (o + 1)))]) [2, 3, 4, 5, 0] rfl ?_
                      exact ih_50 (o + 1) v (fl_votS τ b o) (by omega) (by omega) hi_11 hk_11 (hVτ.votS hb o) (hLτ.cells (votS_k τ b o (by decide) (by decide) (by decide) (by decide)) (votS_k τ b o (by decide) (by decide) (by decide) (by decide))) (by omega) (ask_on (c := false) hres (by omega) c_65 c_84 ((votB_ge hlt).trans hvk))
          · refine z_goto C (tgt := 164) dX4_stand_87 (by decide) ?_
            refine z_iinc C (L' := [(4, .int (nI (o + 1))), (5, .ref (a (2 + (o)))), (0, .ref (a 0)), (1, .int (nI (b))), (2, .ref (a (2 + (b)))), (3, .int (nI (v)))]) dX4_stand_164 5 rfl (z_inc1 _) (by decide) rfl ?_
            refine z_goto C (tgt := 50) dX4_stand_167 (by decide) ?_
            refine z_sub (L' := [(0, .ref (a 0)), (1, .int (nI (b))), (2, .ref (a (2 + (b)))), (3, .int (nI (v))), (4, .int (nI (o + 1)))]) [2, 3, 4, 5, 0] rfl ?_
            exact ih_50 (o + 1) v τ (by omega) (by omega) hτ hkτ hVτ hLτ (by omega) (ask_off hres (by omega) c_65 c_84)
  refine z_sub (L' := [(0, .ref (a 0)), (1, .int (nI (b))), (2, .ref (a (2 + (b)))), (3, .int (nI (1))), (4, .int (nI (0)))]) [3, 4, 2, 1, 0] rfl ?_
  exact loop_50 (n + 1) 0 1 (fl_std0 σ b) (by omega) (by omega) hi_1 hk_1 (hV.std0 hb) (hL.cells (std0_k σ b (by decide) (by decide) (by decide) (by decide) (by decide)) (std0_k σ b (by decide) (by decide) (by decide) (by decide) (by decide))) (by omega) rfl
set_option maxHeartbeats 4000000 in
set_option maxRecDepth 100000 in
theorem c_X4_tell (l : Launch) (D : va_G) (cI cZ cB cE : ClassId) (n : Nat) (a g : Nat → Nat) (σ : zF) (en : Nat → Nat → Nat) (ps : List (Nat × Int32 × Int32)) (hI : fl_Iv n σ) (hk : smK n σ en ps) (t : Nat) (ht : t < n) : zM l D (tyL cI cZ cB cE) yX4_tell cX4_tell 7 none ({ frames := 1, cells := 7, slots := 77, locals := 26 } : Room) [.ref (a 0), .int (nI (t))] [(smS cB a n g σ, zZ), (smG cE n g σ en, zZ), (smP cI ps, zZ)] 7 77 (fun r u => r = none ∧ ∃ (g' : Nat → Nat) (en' : Nat → Nat → Nat), smK n (fl_tells n t 0 σ) en' ps ∧ u = [(smS cB a n g' (fl_tells n t 0 σ), zZ), (smG cE n g' (fl_tells n t 0 σ) en', zZ), (smP cI ps, zZ)]) := by
  have hn3 := hI.n3
  have hn7 := hI.n7
  refine z_of (by decide) (Nat.le_of_ble_eq_true rfl) rfl ?_
  intro p e s m args below meth c A C hr hin
  obtain ⟨Q, hQ⟩ : ∃ Q, Q = MQ below (zQ (fun r u => r = none ∧ ∃ (g' : Nat → Nat) (en' : Nat → Nat → Nat), smK n (fl_tells n t 0 σ) en' ps ∧ u = [(smS cB a n g' (fl_tells n t 0 σ), zZ), (smG cE n g' (fl_tells n t 0 σ) en', zZ), (smP cI ps, zZ)]) D (tyL cI cZ cB cE) A) args s 7 77 A := ⟨_, rfl⟩
  rw [← hQ]
  refine z_aload_n C dX4_tell_0 rfl 0 rfl ?_
  refine z_sget C 0 rfl 4 (by decide) (v := .ref (a 1)) rfl wf_X4_9 dX4_tell_1 ?_
  refine z_iload_n C dX4_tell_4 rfl 1 rfl ?_
  refine z_aB C 0 rfl (i := t) (by omega) (by omega) dX4_tell_5 ?_
  refine z_astore_n C (L' := [(2, .ref (a (2 + (t)))), (0, .ref (a 0)), (1, .int (nI (t)))]) dX4_tell_6 rfl (by decide) rfl ?_
  refine z_iconst C (v := nI (0)) (by decide) dX4_tell_7 ?_
  refine z_istore_n C (L' := [(3, .int (nI (0))), (2, .ref (a (2 + (t)))), (0, .ref (a 0)), (1, .int (nI (t)))]) dX4_tell_8 rfl (by decide) rfl ?_
  have loop_9 : ∀ (k_9 o : Nat) (τ : zF) (gg : Nat → Nat) (ee : Nat → Nat → Nat) (cc : Nat) (ss : Nat), n < o + k_9 → o ≤ n → (hτ : fl_Iv n τ) → (hkτ : smK n τ ee ps) → (hcc : cc ≤ o) → (hss : ss ≤ 11 * o) → (hres : fl_tells n t o τ = (fl_tells n t 0 σ)) → zK p l e ({ frames := 1, cells := 7, slots := 77, locals := 26 } : Room) s m args below meth c D A 7 Q cc ss 9 [(0, .ref (a 0)), (1, .int (nI (t))), (2, .ref (a (2 + (t)))), (3, .int (nI (o)))] [] [(smS cB a n gg τ, zZ), (smG cE n gg τ ee, zZ), (smP cI ps, zZ)] := by
    intro k_9
    induction k_9 with
    | zero => intro o τ gg ee cc ss m1_9 m2_9; exact absurd m1_9 (by omega)
    | succ k_9 ih_9 =>
      intro o τ gg ee cc ss m1_9 m2_9 hτ hkτ hcc hss hres
      refine z_iload_n C dX4_tell_9 rfl 3 rfl ?_
      refine z_aload_n C dX4_tell_10 rfl 0 rfl ?_
      refine z_sget C 0 rfl 4 (by decide) (v := .ref (a 1)) rfl wf_X4_9 dX4_tell_11 ?_
      refine z_alenB C 0 rfl dX4_tell_14 ?_
      refine z_icmp_geN C (tgt := 205) dX4_tell_15 (by decide) (by omega) (by omega) (fun c_15 => ?_) (fun c_15 => ?_)
      · have hF : τ = (fl_tells n t 0 σ) := by rw [← hres]; exact (fl_tells_end n t o τ (by omega)).symm
        refine z_widen (k := 7) (n := 77) (by omega) (by omega) ?_
        rw [hQ]; exact z_vret C hr dX4_tell_205 ⟨rfl, gg, ee, hF ▸ hkτ, by rw [hF]⟩
      · refine z_aload_n C dX4_tell_18 rfl 2 rfl ?_
        refine z_bget C 0 rfl (i := t) (by omega) 4 (by decide) (v := .int (τ 5 (t))) rfl wf_X4_46 dX4_tell_19 ?_
        refine z_iconst C (v := nI (2)) (by decide) dX4_tell_22 ?_
        refine z_icmp_ne C (tgt := 205) dX4_tell_23 (by decide) (fun c_23 => ?_) (fun c_23 => ?_)
        · have hF : τ = (fl_tells n t 0 σ) := by rw [← hres]; exact (fl_tells_stop n t o τ c_23).symm
          refine z_widen (k := 7) (n := 77) (by omega) (by omega) ?_
          rw [hQ]; exact z_vret C hr dX4_tell_205 ⟨rfl, gg, ee, hF ▸ hkτ, by rw [hF]⟩
        · refine z_aload_n C dX4_tell_26 rfl 0 rfl ?_
          refine z_sget C 0 rfl 4 (by decide) (v := .ref (a 1)) rfl wf_X4_9 dX4_tell_27 ?_
          refine z_iload_n C dX4_tell_30 rfl 3 rfl ?_
          refine z_aB C 0 rfl (i := o) (by omega) (by omega) dX4_tell_31 ?_
          refine z_astore C (L' := [(4, .ref (a (2 + (o)))), (0, .ref (a 0)), (1, .int (nI (t))), (2, .ref (a (2 + (t)))), (3, .int (nI (o)))]) dX4_tell_32 (by decide) rfl ?_
          refine z_aload_n C dX4_tell_34 rfl 1 rfl ?_
          refine z_iload_n C dX4_tell_35 rfl 2 rfl ?_
          refine z_iload_n C dX4_tell_36 rfl 4 rfl ?_
          refine z_cVR C (st' := [.int (zb (sm_hr τ t o))]) (B' := [(smS cB a n gg τ, zZ), (smG cE n gg τ ee, zZ), (smP cI ps, zZ)]) [true, true, true] rfl (c_X4_hear l D cI cZ cB cE n a gg τ ee ps hτ hkτ (t) (o) (by omega) (by omega)) wq_yX4_hear wm_X4_58 ⟨wn_yX4_hear, wo_yX4_hear⟩ ⟨rfl, rfl, Nat.le_of_ble_eq_true rfl, Nat.le_of_ble_eq_true rfl⟩ 0 rfl 0 rfl rfl rfl rfl (Nat.le_of_ble_eq_true rfl) dX4_tell_37 ⟨(by show _ ≤ _; simp; omega), (by show _ ≤ _; simp; omega)⟩ rfl rfl ?_
          refine z_if_neB C (tgt := 46) dX4_tell_40 (by decide) (fun c_40 => ?_) (fun c_40 => ?_)
          · have hto : o ≠ t := (sm_hr_iff.mp c_40).1
            by_cases hlt : τ 3 t < τ 3 o
            · refine z_aload_n C dX4_tell_46 rfl 3 rfl ?_
              refine z_aload C dX4_tell_47 0 rfl ?_
              refine z_bget C 0 rfl (i := o) (by omega) 2 (by decide) (v := .int (τ 3 (o))) rfl wf_X4_43 dX4_tell_49 ?_
              have hi_1 : fl_Iv n (fl_hof τ (t) (τ 3 (o))) := fl_hof_Iv hτ (t) (τ 3 (o))
              have hk_1 : smK n (fl_hof τ (t) (τ 3 (o))) ee ps := smK_cells hkτ (hof_k _ _ _ (by decide) (by decide) (by decide)).symm (hof_k _ _ _ (by decide) (by decide) (by decide)).symm (hof_k _ _ _ (by decide) (by decide) (by decide)).symm
              refine z_cVR C (st' := []) (B' := [(smS cB a n gg ((fl_hof τ (t) (τ 3 (o)))), zZ), (smG cE n gg ((fl_hof τ (t) (τ 3 (o)))) ee, zZ), (smP cI ps, zZ)]) [true, true, true] rfl (c_X3_meet l D cI cZ cB cE n a gg τ ee ps hτ hkτ (t) (τ 3 (o)) (by omega)) wq_yX3_meet wm_X4_62 ⟨wn_yX3_meet, wo_yX3_meet⟩ ⟨rfl, rfl, Nat.le_of_ble_eq_true rfl, Nat.le_of_ble_eq_true rfl⟩ 0 rfl (2 + (t)) (smS_b (by omega)) rfl rfl rfl (Nat.le_of_ble_eq_true rfl) dX4_tell_52 ⟨(by show _ ≤ _; simp; omega), (by show _ ≤ _; simp; omega)⟩ rfl rfl ?_
              have hi_2 : fl_Iv n (fl_take τ t (τ 3 o)) := fl_take_Iv hτ t _
              have hk_2 : smK n (fl_take τ t (τ 3 o)) ee ps := smK_8 hkτ (fun k h => take_k τ t _ (by omega) (by omega) (by omega))
              refine z_eq (B' := [(smS cB a n gg ((fl_take τ t (τ 3 o))), zZ), (smG cE n gg ((fl_take τ t (τ 3 o))) ee, zZ), (smP cI ps, zZ)]) (by rw [hof_lt hlt]) ?_
              refine z_aload_n C dX4_tell_55 rfl 3 rfl ?_
              refine z_bget C 0 rfl (i := t) (by omega) 4 (by decide) (v := .int ((fl_take τ t (τ 3 o)) 5 (t))) rfl wf_X4_46 dX4_tell_56 ?_
              refine z_top (y := nI 0) (by rw [take_5, if_pos rfl]) ?_
              refine z_iconst C (v := nI (2)) (by decide) dX4_tell_59 ?_
              refine z_icmp_eqN C (tgt := 66) dX4_tell_60 (by decide) (by omega) (by omega) (fun c_60 => ?_) (fun c_60 => ?_)
              · exact absurd c_60 (by omega)
              · refine z_goto C (tgt := 199) dX4_tell_63 (by decide) ?_
                refine z_iinc C (L' := [(3, .int (nI (o + 1))), (4, .ref (a (2 + (o)))), (0, .ref (a 0)), (1, .int (nI (t))), (2, .ref (a (2 + (t))))]) dX4_tell_199 4 rfl (z_inc1 _) (by decide) rfl ?_
                refine z_goto C (tgt := 9) dX4_tell_202 (by decide) ?_
                have hTel : (fl_take τ t (τ 3 o)) = fl_tel τ t o := tel_lt hlt
                have hk_3 : smK n (fl_tel τ t o) ee ps := hTel ▸ hk_2
                refine z_eq (B' := [(smS cB a n gg ((fl_tel τ t o)), zZ), (smG cE n gg ((fl_tel τ t o)) ee, zZ), (smP cI ps, zZ)]) (by rw [← hTel]) ?_
                refine z_sub (L' := [(0, .ref (a 0)), (1, .int (nI (t))), (2, .ref (a (2 + (t)))), (3, .int (nI (o + 1)))]) [2, 3, 4, 0] rfl ?_
                exact ih_9 (o + 1) (fl_tel τ t o) gg ee cc ss (by omega) (by omega) (fl_tel_Iv hτ (by omega) (by omega)) hk_3 (by omega) (by omega) (tells_on hres (by omega) c_23 c_40)
            · refine z_aload_n C dX4_tell_46 rfl 3 rfl ?_
              refine z_aload C dX4_tell_47 0 rfl ?_
              refine z_bget C 0 rfl (i := o) (by omega) 2 (by decide) (v := .int (τ 3 (o))) rfl wf_X4_43 dX4_tell_49 ?_
              have hi_4 : fl_Iv n (fl_hof τ (t) (τ 3 (o))) := fl_hof_Iv hτ (t) (τ 3 (o))
              have hk_4 : smK n (fl_hof τ (t) (τ 3 (o))) ee ps := smK_cells hkτ (hof_k _ _ _ (by decide) (by decide) (by decide)).symm (hof_k _ _ _ (by decide) (by decide) (by decide)).symm (hof_k _ _ _ (by decide) (by decide) (by decide)).symm
              refine z_cVR C (st' := []) (B' := [(smS cB a n gg ((fl_hof τ (t) (τ 3 (o)))), zZ), (smG cE n gg ((fl_hof τ (t) (τ 3 (o)))) ee, zZ), (smP cI ps, zZ)]) [true, true, true] rfl (c_X3_meet l D cI cZ cB cE n a gg τ ee ps hτ hkτ (t) (τ 3 (o)) (by omega)) wq_yX3_meet wm_X4_62 ⟨wn_yX3_meet, wo_yX3_meet⟩ ⟨rfl, rfl, Nat.le_of_ble_eq_true rfl, Nat.le_of_ble_eq_true rfl⟩ 0 rfl (2 + (t)) (smS_b (by omega)) rfl rfl rfl (Nat.le_of_ble_eq_true rfl) dX4_tell_52 ⟨(by show _ ≤ _; simp; omega), (by show _ ≤ _; simp; omega)⟩ rfl rfl ?_
              have hi_5 : fl_Iv n τ := hτ
              have hk_5 : smK n τ ee ps := hkτ
              refine z_eq (B' := [(smS cB a n gg τ, zZ), (smG cE n gg τ ee, zZ), (smP cI ps, zZ)]) (by rw [hof_ge hlt]) ?_
              refine z_aload_n C dX4_tell_55 rfl 3 rfl ?_
              refine z_bget C 0 rfl (i := t) (by omega) 4 (by decide) (v := .int (τ 5 (t))) rfl wf_X4_46 dX4_tell_56 ?_
              refine z_iconst C (v := nI (2)) (by decide) dX4_tell_59 ?_
              refine z_icmp_eq C (tgt := 66) dX4_tell_60 (by decide) (fun c_60 => ?_) (fun c_60 => ?_)
              · refine z_aload C dX4_tell_66 0 rfl ?_
                refine z_aload_n C dX4_tell_68 rfl 3 rfl ?_
                refine z_bget C 0 rfl (i := t) (by omega) 2 (by decide) (v := .int (τ 3 (t))) rfl wf_X4_43 dX4_tell_69 ?_
                have hi_6 : fl_Iv n (fl_hof τ (o) (τ 3 (t))) := fl_hof_Iv hτ (o) (τ 3 (t))
                have hk_6 : smK n (fl_hof τ (o) (τ 3 (t))) ee ps := smK_cells hkτ (hof_k _ _ _ (by decide) (by decide) (by decide)).symm (hof_k _ _ _ (by decide) (by decide) (by decide)).symm (hof_k _ _ _ (by decide) (by decide) (by decide)).symm
                refine z_cVR C (st' := []) (B' := [(smS cB a n gg ((fl_hof τ (o) (τ 3 (t)))), zZ), (smG cE n gg ((fl_hof τ (o) (τ 3 (t)))) ee, zZ), (smP cI ps, zZ)]) [true, true, true] rfl (c_X3_meet l D cI cZ cB cE n a gg τ ee ps hτ hkτ (o) (τ 3 (t)) (by omega)) wq_yX3_meet wm_X4_62 ⟨wn_yX3_meet, wo_yX3_meet⟩ ⟨rfl, rfl, Nat.le_of_ble_eq_true rfl, Nat.le_of_ble_eq_true rfl⟩ 0 rfl (2 + (o)) (smS_b (by omega)) rfl rfl rfl (Nat.le_of_ble_eq_true rfl) dX4_tell_72 ⟨(by show _ ≤ _; simp; omega), (by show _ ≤ _; simp; omega)⟩ rfl rfl ?_
                refine z_aload C dX4_tell_75 0 rfl ?_
                refine z_iconst C (v := nI (0)) (by decide) dX4_tell_77 ?_
                refine z_bput C (B' := [(smS cB a n gg ((zU (fl_hof τ (o) (τ 3 (t))) 5 (o) (nI (0)))), zZ), (smG cE n gg ((zU (fl_hof τ (o) (τ 3 (t))) 5 (o) (nI (0)))) ee, zZ), (smP cI ps, zZ)]) 0 rfl (i := o) (by omega) 4 5 (by decide) rfl rfl wf_X4_46 rfl dX4_tell_78 rfl ?_
                refine z_aload C dX4_tell_81 0 rfl ?_
                refine z_aload C dX4_tell_83 0 rfl ?_
                refine z_bget C 0 rfl (i := o) (by omega) 0 (by decide) (v := .int ((zU (fl_hof τ (o) (τ 3 (t))) 5 (o) (nI (0))) 1 (o))) rfl wf_X4_52 dX4_tell_85 ?_
                refine z_top (y := (fl_hof τ (o) (τ 3 (t))) 1 (o)) rfl ?_
                refine z_bput C (B' := [(smS cB a n gg ((zU (zU (fl_hof τ (o) (τ 3 (t))) 5 (o) (nI (0))) 2 (o) ((fl_hof τ (o) (τ 3 (t))) 1 (o)))), zZ), (smG cE n gg ((zU (zU (fl_hof τ (o) (τ 3 (t))) 5 (o) (nI (0))) 2 (o) ((fl_hof τ (o) (τ 3 (t))) 1 (o)))) ee, zZ), (smP cI ps, zZ)]) 0 rfl (i := o) (by omega) 1 2 (by decide) rfl rfl wf_X4_55 rfl dX4_tell_88 rfl ?_
                have hi_7 : fl_Iv n (fl_got (fl_hof τ o (τ 3 t)) o) := fl_got_Iv hi_6 o
                have hk_7 : smK n (fl_got (fl_hof τ o (τ 3 t)) o) ee ps := smK_8 hk_6 (fun k h => got_k _ o (by omega) (by omega))
                refine z_eq (B' := [(smS cB a n gg ((fl_got (fl_hof τ o (τ 3 t)) o)), zZ), (smG cE n gg ((fl_got (fl_hof τ o (τ 3 t)) o)) ee, zZ), (smP cI ps, zZ)]) (rfl) ?_
                have hag := agr_le (fl_got (fl_hof τ o (τ 3 t)) o) t o
                refine z_aload_n C dX4_tell_91 rfl 3 rfl ?_
                refine z_aload C dX4_tell_92 0 rfl ?_
                refine z_cVR C (st' := [.int (nI (fl_agr ((fl_got (fl_hof τ o (τ 3 t)) o)) (t) (o)))]) (B' := [(smS cB a n gg ((fl_got (fl_hof τ o (τ 3 t)) o)), zZ), (smG cE n gg ((fl_got (fl_hof τ o (τ 3 t)) o)) ee, zZ), (smP cI ps, zZ)]) [true, true, true] rfl (c_X3_same l D cI cZ cB cE n a gg ((fl_got (fl_hof τ o (τ 3 t)) o)) ee ps hi_7 hk_7 (t) (o) (by omega) (by omega)) wq_yX3_same wm_X4_69 ⟨wn_yX3_same, wo_yX3_same⟩ ⟨rfl, rfl, Nat.le_of_ble_eq_true rfl, Nat.le_of_ble_eq_true rfl⟩ 0 rfl (2 + (t)) (smS_b (by omega)) rfl rfl rfl (Nat.le_of_ble_eq_true rfl) dX4_tell_94 ⟨(by show _ ≤ _; simp; omega), (by show _ ≤ _; simp; omega)⟩ rfl rfl ?_
                have ha_8 := agr_le ((fl_got (fl_hof τ o (τ 3 t)) o)) (t) (o)
                have hl_8 := hi_7.lnT (i := t) (by omega)
                have hm_8 := hi_7.lnT (i := o) (by omega)
                refine z_istore C (L' := [(5, .int (nI (fl_agr ((fl_got (fl_hof τ o (τ 3 t)) o)) (t) (o)))), (4, .ref (a (2 + (o)))), (0, .ref (a 0)), (1, .int (nI (t))), (2, .ref (a (2 + (t)))), (3, .int (nI (o)))]) dX4_tell_97 (by decide) rfl ?_
                refine z_aload C dX4_tell_99 1 rfl ?_
                refine z_bget C 0 rfl (i := o) (by omega) 8 (by decide) (v := .ref (gg (o))) rfl wf_X4_73 dX4_tell_101 ?_
                refine z_alenG C 1 rfl (i := o) (by omega) dX4_tell_104 ?_
                have hl_9 := hi_7.lnT (i := o) (by omega)
                refine z_iload C dX4_tell_105 0 rfl ?_
                refine z_icmp_leN C (tgt := 141) dX4_tell_107 (by decide) (by omega) (by omega) (fun c_107 => ?_) (fun c_107 => ?_)
                · have hnc : ¬ fl_agr (fl_got (fl_hof τ o (τ 3 t)) o) t o < fl_ln (fl_got (fl_hof τ o (τ 3 t)) o) o := by omega
                  by_cases hlt2 : fl_agr (fl_got (fl_hof τ o (τ 3 t)) o) t o < fl_ln (fl_got (fl_hof τ o (τ 3 t)) o) t
                  · refine z_aload C dX4_tell_141 1 rfl ?_
                    refine z_iload C dX4_tell_143 0 rfl ?_
                    refine z_aload_n C dX4_tell_145 rfl 4 rfl ?_
                    refine z_bget C 0 rfl (i := t) (by omega) 8 (by decide) (v := .ref (gg (t))) rfl wf_X4_73 dX4_tell_146 ?_
                    refine z_iload C dX4_tell_149 0 rfl ?_
                    refine z_callVR C [true, true, true] rfl (c_X3_add l D cI cZ cB cE n a gg ((fl_got (fl_hof τ o (τ 3 t)) o)) ee ps hi_7 hk_7 (o) (t) (fl_agr ((fl_got (fl_hof τ o (τ 3 t)) o)) (t) (o)) (by omega) (by omega) (by omega) (by omega)) wq_yX3_relog wm_X4_77 ⟨wn_yX3_relog, wo_yX3_relog⟩ ⟨rfl, rfl, Nat.le_of_ble_eq_true rfl, Nat.le_of_ble_eq_true rfl⟩ 0 rfl (2 + (o)) (smS_b (by omega)) rfl rfl rfl (Nat.le_of_ble_eq_true rfl) dX4_tell_151 ⟨by show _ ≤ 7; omega, by show _ ≤ 77; omega⟩ ?_
                    rintro r9 w9 ⟨rfl, q_10, rfl⟩
                    have hi_10 : fl_Iv n (fl_app ((fl_got (fl_hof τ o (τ 3 t)) o)) o (((fl_got (fl_hof τ o (τ 3 t)) o)) 10 (t * 10 + fl_agr ((fl_got (fl_hof τ o (τ 3 t)) o)) (t) (o))) (((fl_got (fl_hof τ o (τ 3 t)) o)) 11 (t * 10 + fl_agr ((fl_got (fl_hof τ o (τ 3 t)) o)) (t) (o)))) := fl_app_Iv hi_7 o _ _ (by omega)
                    have hk_10 : smK n (fl_app ((fl_got (fl_hof τ o (τ 3 t)) o)) o (((fl_got (fl_hof τ o (τ 3 t)) o)) 10 (t * 10 + fl_agr ((fl_got (fl_hof τ o (τ 3 t)) o)) (t) (o))) (((fl_got (fl_hof τ o (τ 3 t)) o)) 11 (t * 10 + fl_agr ((fl_got (fl_hof τ o (τ 3 t)) o)) (t) (o)))) (va_up ee o (va_up (ee o) (fl_ln ((fl_got (fl_hof τ o (τ 3 t)) o)) o) (ee t (fl_agr ((fl_got (fl_hof τ o (τ 3 t)) o)) (t) (o))))) ps := smK_app hi_7 hk_7 (by omega) (by omega) (hk_7 t (by omega) (fl_agr ((fl_got (fl_hof τ o (τ 3 t)) o)) (t) (o)) (by omega))
                    refine z_eq (B' := [(smS cB a n (va_up gg o q_10) ((fl_app ((fl_got (fl_hof τ o (τ 3 t)) o)) o (((fl_got (fl_hof τ o (τ 3 t)) o)) 10 (t * 10 + fl_agr ((fl_got (fl_hof τ o (τ 3 t)) o)) (t) (o))) (((fl_got (fl_hof τ o (τ 3 t)) o)) 11 (t * 10 + fl_agr ((fl_got (fl_hof τ o (τ 3 t)) o)) (t) (o))))), zZ), (smG cE n (va_up gg o q_10) ((fl_app ((fl_got (fl_hof τ o (τ 3 t)) o)) o (((fl_got (fl_hof τ o (τ 3 t)) o)) 10 (t * 10 + fl_agr ((fl_got (fl_hof τ o (τ 3 t)) o)) (t) (o))) (((fl_got (fl_hof τ o (τ 3 t)) o)) 11 (t * 10 + fl_agr ((fl_got (fl_hof τ o (τ 3 t)) o)) (t) (o))))) (va_up ee o (va_up (ee o) (fl_ln ((fl_got (fl_hof τ o (τ 3 t)) o)) o) (ee t (fl_agr ((fl_got (fl_hof τ o (τ 3 t)) o)) (t) (o))))), zZ), (smP cI ps, zZ)]) rfl ?_
                    have e4 : (fl_app ((fl_got (fl_hof τ o (τ 3 t)) o)) o (((fl_got (fl_hof τ o (τ 3 t)) o)) 10 (t * 10 + fl_agr ((fl_got (fl_hof τ o (τ 3 t)) o)) (t) (o))) (((fl_got (fl_hof τ o (τ 3 t)) o)) 11 (t * 10 + fl_agr ((fl_got (fl_hof τ o (τ 3 t)) o)) (t) (o)))) = (fl_lose (fl_mend (fl_got (fl_hof τ o (τ 3 t)) o) t o) (fl_cut (fl_got (fl_hof τ o (τ 3 t)) o) t o)) := (mend_add hnc hlt2)
                    have hk4 : smK n (fl_lose (fl_mend (fl_got (fl_hof τ o (τ 3 t)) o) t o) (fl_cut (fl_got (fl_hof τ o (τ 3 t)) o) t o)) (va_up ee o (va_up (ee o) (fl_ln ((fl_got (fl_hof τ o (τ 3 t)) o)) o) (ee t (fl_agr ((fl_got (fl_hof τ o (τ 3 t)) o)) (t) (o))))) ps := e4 ▸ smK_8 hk_10 (fun k h => by first | rfl | exact zU_ne (by omega))
                    have hi4 : fl_Iv n (fl_lose (fl_mend (fl_got (fl_hof τ o (τ 3 t)) o) t o) (fl_cut (fl_got (fl_hof τ o (τ 3 t)) o) t o)) := fl_lose_Iv (fl_mend_Iv hi_7 (by omega) (by omega)) _
                    refine z_eq (B' := [(smS cB a n (va_up gg o q_10) ((fl_lose (fl_mend (fl_got (fl_hof τ o (τ 3 t)) o) t o) (fl_cut (fl_got (fl_hof τ o (τ 3 t)) o) t o))), zZ), (smG cE n (va_up gg o q_10) ((fl_lose (fl_mend (fl_got (fl_hof τ o (τ 3 t)) o) t o) (fl_cut (fl_got (fl_hof τ o (τ 3 t)) o) t o))) (va_up ee o (va_up (ee o) (fl_ln ((fl_got (fl_hof τ o (τ 3 t)) o)) o) (ee t (fl_agr ((fl_got (fl_hof τ o (τ 3 t)) o)) (t) (o))))), zZ), (smP cI ps, zZ)]) (by rw [← e4]) ?_
                    refine z_aload_n C dX4_tell_154 rfl 4 rfl ?_
                    refine z_bget C 0 rfl (i := t) (by omega) 7 (by decide) (v := .int ((fl_lose (fl_mend (fl_got (fl_hof τ o (τ 3 t)) o) t o) (fl_cut (fl_got (fl_hof τ o (τ 3 t)) o) t o)) 9 (t))) rfl wf_X4_81 dX4_tell_155 ?_
                    refine z_top (y := nI (fl_kn (fl_lose (fl_mend (fl_got (fl_hof τ o (τ 3 t)) o) t o) (fl_cut (fl_got (fl_hof τ o (τ 3 t)) o) t o)) (t))) (hi4.kn (by omega)) ?_
                    have hn_12 := hi4.knT (i := t) (by omega)
                    refine z_aload_n C dX4_tell_158 rfl 4 rfl ?_
                    refine z_aload C dX4_tell_159 1 rfl ?_
                    refine z_cVR C (st' := [.int (nI (fl_agr ((fl_lose (fl_mend (fl_got (fl_hof τ o (τ 3 t)) o) t o) (fl_cut (fl_got (fl_hof τ o (τ 3 t)) o) t o))) (t) (o))), .int (nI (fl_kn (fl_lose (fl_mend (fl_got (fl_hof τ o (τ 3 t)) o) t o) (fl_cut (fl_got (fl_hof τ o (τ 3 t)) o) t o)) (t)))]) (B' := [(smS cB a n (va_up gg o q_10) ((fl_lose (fl_mend (fl_got (fl_hof τ o (τ 3 t)) o) t o) (fl_cut (fl_got (fl_hof τ o (τ 3 t)) o) t o))), zZ), (smG cE n (va_up gg o q_10) ((fl_lose (fl_mend (fl_got (fl_hof τ o (τ 3 t)) o) t o) (fl_cut (fl_got (fl_hof τ o (τ 3 t)) o) t o))) (va_up ee o (va_up (ee o) (fl_ln ((fl_got (fl_hof τ o (τ 3 t)) o)) o) (ee t (fl_agr ((fl_got (fl_hof τ o (τ 3 t)) o)) (t) (o))))), zZ), (smP cI ps, zZ)]) [true, true, true] rfl (c_X3_same l D cI cZ cB cE n a (va_up gg o q_10) ((fl_lose (fl_mend (fl_got (fl_hof τ o (τ 3 t)) o) t o) (fl_cut (fl_got (fl_hof τ o (τ 3 t)) o) t o))) (va_up ee o (va_up (ee o) (fl_ln ((fl_got (fl_hof τ o (τ 3 t)) o)) o) (ee t (fl_agr ((fl_got (fl_hof τ o (τ 3 t)) o)) (t) (o))))) ps hi4 hk4 (t) (o) (by omega) (by omega)) wq_yX3_same wm_X4_69 ⟨wn_yX3_same, wo_yX3_same⟩ ⟨rfl, rfl, Nat.le_of_ble_eq_true rfl, Nat.le_of_ble_eq_true rfl⟩ 0 rfl (2 + (t)) (smS_b (by omega)) rfl rfl rfl (Nat.le_of_ble_eq_true rfl) dX4_tell_161 ⟨(by show _ ≤ _; simp; omega), (by show _ ≤ _; simp; omega)⟩ rfl rfl ?_
                    have ha_13 := agr_le ((fl_lose (fl_mend (fl_got (fl_hof τ o (τ 3 t)) o) t o) (fl_cut (fl_got (fl_hof τ o (τ 3 t)) o) t o))) (t) (o)
                    have hl_13 := hi4.lnT (i := t) (by omega)
                    have hm_13 := hi4.lnT (i := o) (by omega)
                    refine z_icmp_geN C (tgt := 174) dX4_tell_164 (by decide) (by omega) (by omega) (fun c_164 => ?_) (fun c_164 => ?_)
                    · refine z_aload_n C dX4_tell_174 rfl 4 rfl ?_
                      refine z_aload C dX4_tell_175 1 rfl ?_
                      refine z_cVR C (st' := [.int (nI (fl_agr ((fl_lose (fl_mend (fl_got (fl_hof τ o (τ 3 t)) o) t o) (fl_cut (fl_got (fl_hof τ o (τ 3 t)) o) t o))) (t) (o)))]) (B' := [(smS cB a n (va_up gg o q_10) ((fl_lose (fl_mend (fl_got (fl_hof τ o (τ 3 t)) o) t o) (fl_cut (fl_got (fl_hof τ o (τ 3 t)) o) t o))), zZ), (smG cE n (va_up gg o q_10) ((fl_lose (fl_mend (fl_got (fl_hof τ o (τ 3 t)) o) t o) (fl_cut (fl_got (fl_hof τ o (τ 3 t)) o) t o))) (va_up ee o (va_up (ee o) (fl_ln ((fl_got (fl_hof τ o (τ 3 t)) o)) o) (ee t (fl_agr ((fl_got (fl_hof τ o (τ 3 t)) o)) (t) (o))))), zZ), (smP cI ps, zZ)]) [true, true, true] rfl (c_X3_same l D cI cZ cB cE n a (va_up gg o q_10) ((fl_lose (fl_mend (fl_got (fl_hof τ o (τ 3 t)) o) t o) (fl_cut (fl_got (fl_hof τ o (τ 3 t)) o) t o))) (va_up ee o (va_up (ee o) (fl_ln ((fl_got (fl_hof τ o (τ 3 t)) o)) o) (ee t (fl_agr ((fl_got (fl_hof τ o (τ 3 t)) o)) (t) (o))))) ps hi4 hk4 (t) (o) (by omega) (by omega)) wq_yX3_same wm_X4_69 ⟨wn_yX3_same, wo_yX3_same⟩ ⟨rfl, rfl, Nat.le_of_ble_eq_true rfl, Nat.le_of_ble_eq_true rfl⟩ 0 rfl (2 + (t)) (smS_b (by omega)) rfl rfl rfl (Nat.le_of_ble_eq_true rfl) dX4_tell_177 ⟨(by show _ ≤ _; simp; omega), (by show _ ≤ _; simp; omega)⟩ rfl rfl ?_
                      have ha_14 := agr_le ((fl_lose (fl_mend (fl_got (fl_hof τ o (τ 3 t)) o) t o) (fl_cut (fl_got (fl_hof τ o (τ 3 t)) o) t o))) (t) (o)
                      have hl_14 := hi4.lnT (i := t) (by omega)
                      have hm_14 := hi4.lnT (i := o) (by omega)
                      refine z_istore C (L' := [(6, .int (nI (fl_agr ((fl_lose (fl_mend (fl_got (fl_hof τ o (τ 3 t)) o) t o) (fl_cut (fl_got (fl_hof τ o (τ 3 t)) o) t o))) (t) (o)))), (5, .int (nI (fl_agr ((fl_got (fl_hof τ o (τ 3 t)) o)) (t) (o)))), (4, .ref (a (2 + (o)))), (0, .ref (a 0)), (1, .int (nI (t))), (2, .ref (a (2 + (t)))), (3, .int (nI (o)))]) dX4_tell_180 (by decide) rfl ?_
                      refine z_iload C dX4_tell_182 0 rfl ?_
                      refine z_aload C dX4_tell_184 2 rfl ?_
                      refine z_bget C 0 rfl (i := o) (by omega) 7 (by decide) (v := .int ((fl_lose (fl_mend (fl_got (fl_hof τ o (τ 3 t)) o) t o) (fl_cut (fl_got (fl_hof τ o (τ 3 t)) o) t o)) 9 (o))) rfl wf_X4_81 dX4_tell_186 ?_
                      refine z_top (y := nI (fl_kn (fl_lose (fl_mend (fl_got (fl_hof τ o (τ 3 t)) o) t o) (fl_cut (fl_got (fl_hof τ o (τ 3 t)) o) t o)) (o))) (hi4.kn (by omega)) ?_
                      have hn_15 := hi4.knT (i := o) (by omega)
                      refine z_icmp_leN C (tgt := 199) dX4_tell_189 (by decide) (by omega) (by omega) (fun c_189 => ?_) (fun c_189 => ?_)
                      · refine z_iinc C (L' := [(3, .int (nI (o + 1))), (6, .int (nI (fl_agr ((fl_lose (fl_mend (fl_got (fl_hof τ o (τ 3 t)) o) t o) (fl_cut (fl_got (fl_hof τ o (τ 3 t)) o) t o))) (t) (o)))), (5, .int (nI (fl_agr ((fl_got (fl_hof τ o (τ 3 t)) o)) (t) (o)))), (4, .ref (a (2 + (o)))), (0, .ref (a 0)), (1, .int (nI (t))), (2, .ref (a (2 + (t))))]) dX4_tell_199 6 rfl (z_inc1 _) (by decide) rfl ?_
                        refine z_goto C (tgt := 9) dX4_tell_202 (by decide) ?_
                        have hTel : (fl_lose (fl_mend (fl_got (fl_hof τ o (τ 3 t)) o) t o) (fl_cut (fl_got (fl_hof τ o (τ 3 t)) o) t o)) = fl_tel τ t o := (lrn_same hi4 (by omega) (by omega)).trans (tel_ge hlt)
                        have hk_16 : smK n (fl_tel τ t o) (va_up ee o (va_up (ee o) (fl_ln ((fl_got (fl_hof τ o (τ 3 t)) o)) o) (ee t (fl_agr ((fl_got (fl_hof τ o (τ 3 t)) o)) (t) (o))))) ps := hTel ▸ hk4
                        refine z_eq (B' := [(smS cB a n (va_up gg o q_10) ((fl_tel τ t o)), zZ), (smG cE n (va_up gg o q_10) ((fl_tel τ t o)) (va_up ee o (va_up (ee o) (fl_ln ((fl_got (fl_hof τ o (τ 3 t)) o)) o) (ee t (fl_agr ((fl_got (fl_hof τ o (τ 3 t)) o)) (t) (o))))), zZ), (smP cI ps, zZ)]) (by rw [← hTel]) ?_
                        refine z_sub (L' := [(0, .ref (a 0)), (1, .int (nI (t))), (2, .ref (a (2 + (t)))), (3, .int (nI (o + 1)))]) [4, 5, 6, 0] rfl ?_
                        exact ih_9 (o + 1) (fl_tel τ t o) (va_up gg o q_10) (va_up ee o (va_up (ee o) (fl_ln ((fl_got (fl_hof τ o (τ 3 t)) o)) o) (ee t (fl_agr ((fl_got (fl_hof τ o (τ 3 t)) o)) (t) (o))))) (cc + 1) (ss + 11) (by omega) (by omega) (fl_tel_Iv hτ (by omega) (by omega)) hk_16 (by omega) (by omega) (tells_on hres (by omega) c_23 c_40)
                      · refine z_aload C dX4_tell_192 2 rfl ?_
                        refine z_iload C dX4_tell_194 0 rfl ?_
                        refine z_bput C (B' := [(smS cB a n (va_up gg o q_10) ((zU (fl_lose (fl_mend (fl_got (fl_hof τ o (τ 3 t)) o) t o) (fl_cut (fl_got (fl_hof τ o (τ 3 t)) o) t o)) 9 (o) (nI (fl_agr ((fl_lose (fl_mend (fl_got (fl_hof τ o (τ 3 t)) o) t o) (fl_cut (fl_got (fl_hof τ o (τ 3 t)) o) t o))) (t) (o))))), zZ), (smG cE n (va_up gg o q_10) ((zU (fl_lose (fl_mend (fl_got (fl_hof τ o (τ 3 t)) o) t o) (fl_cut (fl_got (fl_hof τ o (τ 3 t)) o) t o)) 9 (o) (nI (fl_agr ((fl_lose (fl_mend (fl_got (fl_hof τ o (τ 3 t)) o) t o) (fl_cut (fl_got (fl_hof τ o (τ 3 t)) o) t o))) (t) (o))))) (va_up ee o (va_up (ee o) (fl_ln ((fl_got (fl_hof τ o (τ 3 t)) o)) o) (ee t (fl_agr ((fl_got (fl_hof τ o (τ 3 t)) o)) (t) (o))))), zZ), (smP cI ps, zZ)]) 0 rfl (i := o) (by omega) 7 9 (by decide) rfl rfl wf_X4_81 rfl dX4_tell_196 rfl ?_
                        refine z_iinc C (L' := [(3, .int (nI (o + 1))), (6, .int (nI (fl_agr ((fl_lose (fl_mend (fl_got (fl_hof τ o (τ 3 t)) o) t o) (fl_cut (fl_got (fl_hof τ o (τ 3 t)) o) t o))) (t) (o)))), (5, .int (nI (fl_agr ((fl_got (fl_hof τ o (τ 3 t)) o)) (t) (o)))), (4, .ref (a (2 + (o)))), (0, .ref (a 0)), (1, .int (nI (t))), (2, .ref (a (2 + (t))))]) dX4_tell_199 6 rfl (z_inc1 _) (by decide) rfl ?_
                        refine z_goto C (tgt := 9) dX4_tell_202 (by decide) ?_
                        have hTel : (zU (fl_lose (fl_mend (fl_got (fl_hof τ o (τ 3 t)) o) t o) (fl_cut (fl_got (fl_hof τ o (τ 3 t)) o) t o)) 9 (o) (nI (fl_agr ((fl_lose (fl_mend (fl_got (fl_hof τ o (τ 3 t)) o) t o) (fl_cut (fl_got (fl_hof τ o (τ 3 t)) o) t o))) (t) (o)))) = fl_tel τ t o := (lrn_more (by omega) (by omega)).trans (tel_ge hlt)
                        have hk_17 : smK n (fl_tel τ t o) (va_up ee o (va_up (ee o) (fl_ln ((fl_got (fl_hof τ o (τ 3 t)) o)) o) (ee t (fl_agr ((fl_got (fl_hof τ o (τ 3 t)) o)) (t) (o))))) ps := hTel ▸ (smK_8 hk4 (fun k h => zU_ne (by omega)))
                        refine z_eq (B' := [(smS cB a n (va_up gg o q_10) ((fl_tel τ t o)), zZ), (smG cE n (va_up gg o q_10) ((fl_tel τ t o)) (va_up ee o (va_up (ee o) (fl_ln ((fl_got (fl_hof τ o (τ 3 t)) o)) o) (ee t (fl_agr ((fl_got (fl_hof τ o (τ 3 t)) o)) (t) (o))))), zZ), (smP cI ps, zZ)]) (by rw [← hTel]) ?_
                        refine z_sub (L' := [(0, .ref (a 0)), (1, .int (nI (t))), (2, .ref (a (2 + (t)))), (3, .int (nI (o + 1)))]) [4, 5, 6, 0] rfl ?_
                        exact ih_9 (o + 1) (fl_tel τ t o) (va_up gg o q_10) (va_up ee o (va_up (ee o) (fl_ln ((fl_got (fl_hof τ o (τ 3 t)) o)) o) (ee t (fl_agr ((fl_got (fl_hof τ o (τ 3 t)) o)) (t) (o))))) (cc + 1) (ss + 11) (by omega) (by omega) (fl_tel_Iv hτ (by omega) (by omega)) hk_17 (by omega) (by omega) (tells_on hres (by omega) c_23 c_40)
                    · refine z_aload_n C dX4_tell_167 rfl 4 rfl ?_
                      refine z_bget C 0 rfl (i := t) (by omega) 7 (by decide) (v := .int ((fl_lose (fl_mend (fl_got (fl_hof τ o (τ 3 t)) o) t o) (fl_cut (fl_got (fl_hof τ o (τ 3 t)) o) t o)) 9 (t))) rfl wf_X4_81 dX4_tell_168 ?_
                      refine z_top (y := nI (fl_kn (fl_lose (fl_mend (fl_got (fl_hof τ o (τ 3 t)) o) t o) (fl_cut (fl_got (fl_hof τ o (τ 3 t)) o) t o)) (t))) (hi4.kn (by omega)) ?_
                      have hn_18 := hi4.knT (i := t) (by omega)
                      refine z_goto C (tgt := 180) dX4_tell_171 (by decide) ?_
                      refine z_istore C (L' := [(6, .int (nI (fl_kn (fl_lose (fl_mend (fl_got (fl_hof τ o (τ 3 t)) o) t o) (fl_cut (fl_got (fl_hof τ o (τ 3 t)) o) t o)) (t)))), (5, .int (nI (fl_agr ((fl_got (fl_hof τ o (τ 3 t)) o)) (t) (o)))), (4, .ref (a (2 + (o)))), (0, .ref (a 0)), (1, .int (nI (t))), (2, .ref (a (2 + (t)))), (3, .int (nI (o)))]) dX4_tell_180 (by decide) rfl ?_
                      refine z_iload C dX4_tell_182 0 rfl ?_
                      refine z_aload C dX4_tell_184 2 rfl ?_
                      refine z_bget C 0 rfl (i := o) (by omega) 7 (by decide) (v := .int ((fl_lose (fl_mend (fl_got (fl_hof τ o (τ 3 t)) o) t o) (fl_cut (fl_got (fl_hof τ o (τ 3 t)) o) t o)) 9 (o))) rfl wf_X4_81 dX4_tell_186 ?_
                      refine z_top (y := nI (fl_kn (fl_lose (fl_mend (fl_got (fl_hof τ o (τ 3 t)) o) t o) (fl_cut (fl_got (fl_hof τ o (τ 3 t)) o) t o)) (o))) (hi4.kn (by omega)) ?_
                      have hn_19 := hi4.knT (i := o) (by omega)
                      refine z_icmp_leN C (tgt := 199) dX4_tell_189 (by decide) (by omega) (by omega) (fun c_189 => ?_) (fun c_189 => ?_)
                      · refine z_iinc C (L' := [(3, .int (nI (o + 1))), (6, .int (nI (fl_kn (fl_lose (fl_mend (fl_got (fl_hof τ o (τ 3 t)) o) t o) (fl_cut (fl_got (fl_hof τ o (τ 3 t)) o) t o)) (t)))), (5, .int (nI (fl_agr ((fl_got (fl_hof τ o (τ 3 t)) o)) (t) (o)))), (4, .ref (a (2 + (o)))), (0, .ref (a 0)), (1, .int (nI (t))), (2, .ref (a (2 + (t))))]) dX4_tell_199 6 rfl (z_inc1 _) (by decide) rfl ?_
                        refine z_goto C (tgt := 9) dX4_tell_202 (by decide) ?_
                        have hTel : (fl_lose (fl_mend (fl_got (fl_hof τ o (τ 3 t)) o) t o) (fl_cut (fl_got (fl_hof τ o (τ 3 t)) o) t o)) = fl_tel τ t o := (lrn_same hi4 (by omega) (by omega)).trans (tel_ge hlt)
                        have hk_20 : smK n (fl_tel τ t o) (va_up ee o (va_up (ee o) (fl_ln ((fl_got (fl_hof τ o (τ 3 t)) o)) o) (ee t (fl_agr ((fl_got (fl_hof τ o (τ 3 t)) o)) (t) (o))))) ps := hTel ▸ hk4
                        refine z_eq (B' := [(smS cB a n (va_up gg o q_10) ((fl_tel τ t o)), zZ), (smG cE n (va_up gg o q_10) ((fl_tel τ t o)) (va_up ee o (va_up (ee o) (fl_ln ((fl_got (fl_hof τ o (τ 3 t)) o)) o) (ee t (fl_agr ((fl_got (fl_hof τ o (τ 3 t)) o)) (t) (o))))), zZ), (smP cI ps, zZ)]) (by rw [← hTel]) ?_
                        refine z_sub (L' := [(0, .ref (a 0)), (1, .int (nI (t))), (2, .ref (a (2 + (t)))), (3, .int (nI (o + 1)))]) [4, 5, 6, 0] rfl ?_
                        exact ih_9 (o + 1) (fl_tel τ t o) (va_up gg o q_10) (va_up ee o (va_up (ee o) (fl_ln ((fl_got (fl_hof τ o (τ 3 t)) o)) o) (ee t (fl_agr ((fl_got (fl_hof τ o (τ 3 t)) o)) (t) (o))))) (cc + 1) (ss + 11) (by omega) (by omega) (fl_tel_Iv hτ (by omega) (by omega)) hk_20 (by omega) (by omega) (tells_on hres (by omega) c_23 c_40)
                      · refine z_aload C dX4_tell_192 2 rfl ?_
                        refine z_iload C dX4_tell_194 0 rfl ?_
                        refine z_bput C (B' := [(smS cB a n (va_up gg o q_10) ((zU (fl_lose (fl_mend (fl_got (fl_hof τ o (τ 3 t)) o) t o) (fl_cut (fl_got (fl_hof τ o (τ 3 t)) o) t o)) 9 (o) (nI (fl_kn (fl_lose (fl_mend (fl_got (fl_hof τ o (τ 3 t)) o) t o) (fl_cut (fl_got (fl_hof τ o (τ 3 t)) o) t o)) (t))))), zZ), (smG cE n (va_up gg o q_10) ((zU (fl_lose (fl_mend (fl_got (fl_hof τ o (τ 3 t)) o) t o) (fl_cut (fl_got (fl_hof τ o (τ 3 t)) o) t o)) 9 (o) (nI (fl_kn (fl_lose (fl_mend (fl_got (fl_hof τ o (τ 3 t)) o) t o) (fl_cut (fl_got (fl_hof τ o (τ 3 t)) o) t o)) (t))))) (va_up ee o (va_up (ee o) (fl_ln ((fl_got (fl_hof τ o (τ 3 t)) o)) o) (ee t (fl_agr ((fl_got (fl_hof τ o (τ 3 t)) o)) (t) (o))))), zZ), (smP cI ps, zZ)]) 0 rfl (i := o) (by omega) 7 9 (by decide) rfl rfl wf_X4_81 rfl dX4_tell_196 rfl ?_
                        refine z_iinc C (L' := [(3, .int (nI (o + 1))), (6, .int (nI (fl_kn (fl_lose (fl_mend (fl_got (fl_hof τ o (τ 3 t)) o) t o) (fl_cut (fl_got (fl_hof τ o (τ 3 t)) o) t o)) (t)))), (5, .int (nI (fl_agr ((fl_got (fl_hof τ o (τ 3 t)) o)) (t) (o)))), (4, .ref (a (2 + (o)))), (0, .ref (a 0)), (1, .int (nI (t))), (2, .ref (a (2 + (t))))]) dX4_tell_199 6 rfl (z_inc1 _) (by decide) rfl ?_
                        refine z_goto C (tgt := 9) dX4_tell_202 (by decide) ?_
                        have hTel : (zU (fl_lose (fl_mend (fl_got (fl_hof τ o (τ 3 t)) o) t o) (fl_cut (fl_got (fl_hof τ o (τ 3 t)) o) t o)) 9 (o) (nI (fl_kn (fl_lose (fl_mend (fl_got (fl_hof τ o (τ 3 t)) o) t o) (fl_cut (fl_got (fl_hof τ o (τ 3 t)) o) t o)) (t)))) = fl_tel τ t o := (lrn_more (by omega) (by omega)).trans (tel_ge hlt)
                        have hk_21 : smK n (fl_tel τ t o) (va_up ee o (va_up (ee o) (fl_ln ((fl_got (fl_hof τ o (τ 3 t)) o)) o) (ee t (fl_agr ((fl_got (fl_hof τ o (τ 3 t)) o)) (t) (o))))) ps := hTel ▸ (smK_8 hk4 (fun k h => zU_ne (by omega)))
                        refine z_eq (B' := [(smS cB a n (va_up gg o q_10) ((fl_tel τ t o)), zZ), (smG cE n (va_up gg o q_10) ((fl_tel τ t o)) (va_up ee o (va_up (ee o) (fl_ln ((fl_got (fl_hof τ o (τ 3 t)) o)) o) (ee t (fl_agr ((fl_got (fl_hof τ o (τ 3 t)) o)) (t) (o))))), zZ), (smP cI ps, zZ)]) (by rw [← hTel]) ?_
                        refine z_sub (L' := [(0, .ref (a 0)), (1, .int (nI (t))), (2, .ref (a (2 + (t)))), (3, .int (nI (o + 1)))]) [4, 5, 6, 0] rfl ?_
                        exact ih_9 (o + 1) (fl_tel τ t o) (va_up gg o q_10) (va_up ee o (va_up (ee o) (fl_ln ((fl_got (fl_hof τ o (τ 3 t)) o)) o) (ee t (fl_agr ((fl_got (fl_hof τ o (τ 3 t)) o)) (t) (o))))) (cc + 1) (ss + 11) (by omega) (by omega) (fl_tel_Iv hτ (by omega) (by omega)) hk_21 (by omega) (by omega) (tells_on hres (by omega) c_23 c_40)
                  · refine z_aload C dX4_tell_141 1 rfl ?_
                    refine z_iload C dX4_tell_143 0 rfl ?_
                    refine z_aload_n C dX4_tell_145 rfl 4 rfl ?_
                    refine z_bget C 0 rfl (i := t) (by omega) 8 (by decide) (v := .ref (gg (t))) rfl wf_X4_73 dX4_tell_146 ?_
                    refine z_iload C dX4_tell_149 0 rfl ?_
                    refine z_callVR C [true, true, true] rfl (c_X3_keep l D cI cZ cB cE n a gg ((fl_got (fl_hof τ o (τ 3 t)) o)) ee ps hi_7 hk_7 (o) (t) (fl_agr ((fl_got (fl_hof τ o (τ 3 t)) o)) (t) (o)) (by omega) (by omega) (by omega) (by omega)) wq_yX3_relog wm_X4_77 ⟨wn_yX3_relog, wo_yX3_relog⟩ ⟨rfl, rfl, Nat.le_of_ble_eq_true rfl, Nat.le_of_ble_eq_true rfl⟩ 0 rfl (2 + (o)) (smS_b (by omega)) rfl rfl rfl (Nat.le_of_ble_eq_true rfl) dX4_tell_151 ⟨by show _ ≤ 7; omega, by show _ ≤ 77; omega⟩ ?_
                    rintro r9 w9 ⟨rfl, q_22, rfl⟩
                    have hi_22 : fl_Iv n (fl_got (fl_hof τ o (τ 3 t)) o) := hi_7
                    have hk_22 : smK n (fl_got (fl_hof τ o (τ 3 t)) o) (va_up ee o (ee o)) ps := smK_keep hk_7
                    refine z_eq (B' := [(smS cB a n (va_up gg o q_22) ((fl_got (fl_hof τ o (τ 3 t)) o)), zZ), (smG cE n (va_up gg o q_22) ((fl_got (fl_hof τ o (τ 3 t)) o)) (va_up ee o (ee o)), zZ), (smP cI ps, zZ)]) rfl ?_
                    have e4 : (fl_got (fl_hof τ o (τ 3 t)) o) = (fl_lose (fl_mend (fl_got (fl_hof τ o (τ 3 t)) o) t o) (fl_cut (fl_got (fl_hof τ o (τ 3 t)) o) t o)) := (mend_keep hnc hlt2)
                    have hk4 : smK n (fl_lose (fl_mend (fl_got (fl_hof τ o (τ 3 t)) o) t o) (fl_cut (fl_got (fl_hof τ o (τ 3 t)) o) t o)) (va_up ee o (ee o)) ps := e4 ▸ smK_8 hk_22 (fun k h => by first | rfl | exact zU_ne (by omega))
                    have hi4 : fl_Iv n (fl_lose (fl_mend (fl_got (fl_hof τ o (τ 3 t)) o) t o) (fl_cut (fl_got (fl_hof τ o (τ 3 t)) o) t o)) := fl_lose_Iv (fl_mend_Iv hi_7 (by omega) (by omega)) _
                    refine z_eq (B' := [(smS cB a n (va_up gg o q_22) ((fl_lose (fl_mend (fl_got (fl_hof τ o (τ 3 t)) o) t o) (fl_cut (fl_got (fl_hof τ o (τ 3 t)) o) t o))), zZ), (smG cE n (va_up gg o q_22) ((fl_lose (fl_mend (fl_got (fl_hof τ o (τ 3 t)) o) t o) (fl_cut (fl_got (fl_hof τ o (τ 3 t)) o) t o))) (va_up ee o (ee o)), zZ), (smP cI ps, zZ)]) (by rw [← e4]) ?_
                    refine z_aload_n C dX4_tell_154 rfl 4 rfl ?_
                    refine z_bget C 0 rfl (i := t) (by omega) 7 (by decide) (v := .int ((fl_lose (fl_mend (fl_got (fl_hof τ o (τ 3 t)) o) t o) (fl_cut (fl_got (fl_hof τ o (τ 3 t)) o) t o)) 9 (t))) rfl wf_X4_81 dX4_tell_155 ?_
                    refine z_top (y := nI (fl_kn (fl_lose (fl_mend (fl_got (fl_hof τ o (τ 3 t)) o) t o) (fl_cut (fl_got (fl_hof τ o (τ 3 t)) o) t o)) (t))) (hi4.kn (by omega)) ?_
                    have hn_24 := hi4.knT (i := t) (by omega)
                    refine z_aload_n C dX4_tell_158 rfl 4 rfl ?_
                    refine z_aload C dX4_tell_159 1 rfl ?_
                    refine z_cVR C (st' := [.int (nI (fl_agr ((fl_lose (fl_mend (fl_got (fl_hof τ o (τ 3 t)) o) t o) (fl_cut (fl_got (fl_hof τ o (τ 3 t)) o) t o))) (t) (o))), .int (nI (fl_kn (fl_lose (fl_mend (fl_got (fl_hof τ o (τ 3 t)) o) t o) (fl_cut (fl_got (fl_hof τ o (τ 3 t)) o) t o)) (t)))]) (B' := [(smS cB a n (va_up gg o q_22) ((fl_lose (fl_mend (fl_got (fl_hof τ o (τ 3 t)) o) t o) (fl_cut (fl_got (fl_hof τ o (τ 3 t)) o) t o))), zZ), (smG cE n (va_up gg o q_22) ((fl_lose (fl_mend (fl_got (fl_hof τ o (τ 3 t)) o) t o) (fl_cut (fl_got (fl_hof τ o (τ 3 t)) o) t o))) (va_up ee o (ee o)), zZ), (smP cI ps, zZ)]) [true, true, true] rfl (c_X3_same l D cI cZ cB cE n a (va_up gg o q_22) ((fl_lose (fl_mend (fl_got (fl_hof τ o (τ 3 t)) o) t o) (fl_cut (fl_got (fl_hof τ o (τ 3 t)) o) t o))) (va_up ee o (ee o)) ps hi4 hk4 (t) (o) (by omega) (by omega)) wq_yX3_same wm_X4_69 ⟨wn_yX3_same, wo_yX3_same⟩ ⟨rfl, rfl, Nat.le_of_ble_eq_true rfl, Nat.le_of_ble_eq_true rfl⟩ 0 rfl (2 + (t)) (smS_b (by omega)) rfl rfl rfl (Nat.le_of_ble_eq_true rfl) dX4_tell_161 ⟨(by show _ ≤ _; simp; omega), (by show _ ≤ _; simp; omega)⟩ rfl rfl ?_
                    have ha_25 := agr_le ((fl_lose (fl_mend (fl_got (fl_hof τ o (τ 3 t)) o) t o) (fl_cut (fl_got (fl_hof τ o (τ 3 t)) o) t o))) (t) (o)
                    have hl_25 := hi4.lnT (i := t) (by omega)
                    have hm_25 := hi4.lnT (i := o) (by omega)
                    refine z_icmp_geN C (tgt := 174) dX4_tell_164 (by decide) (by omega) (by omega) (fun c_164 => ?_) (fun c_164 => ?_)
                    · refine z_aload_n C dX4_tell_174 rfl 4 rfl ?_
                      refine z_aload C dX4_tell_175 1 rfl ?_
                      refine z_cVR C (st' := [.int (nI (fl_agr ((fl_lose (fl_mend (fl_got (fl_hof τ o (τ 3 t)) o) t o) (fl_cut (fl_got (fl_hof τ o (τ 3 t)) o) t o))) (t) (o)))]) (B' := [(smS cB a n (va_up gg o q_22) ((fl_lose (fl_mend (fl_got (fl_hof τ o (τ 3 t)) o) t o) (fl_cut (fl_got (fl_hof τ o (τ 3 t)) o) t o))), zZ), (smG cE n (va_up gg o q_22) ((fl_lose (fl_mend (fl_got (fl_hof τ o (τ 3 t)) o) t o) (fl_cut (fl_got (fl_hof τ o (τ 3 t)) o) t o))) (va_up ee o (ee o)), zZ), (smP cI ps, zZ)]) [true, true, true] rfl (c_X3_same l D cI cZ cB cE n a (va_up gg o q_22) ((fl_lose (fl_mend (fl_got (fl_hof τ o (τ 3 t)) o) t o) (fl_cut (fl_got (fl_hof τ o (τ 3 t)) o) t o))) (va_up ee o (ee o)) ps hi4 hk4 (t) (o) (by omega) (by omega)) wq_yX3_same wm_X4_69 ⟨wn_yX3_same, wo_yX3_same⟩ ⟨rfl, rfl, Nat.le_of_ble_eq_true rfl, Nat.le_of_ble_eq_true rfl⟩ 0 rfl (2 + (t)) (smS_b (by omega)) rfl rfl rfl (Nat.le_of_ble_eq_true rfl) dX4_tell_177 ⟨(by show _ ≤ _; simp; omega), (by show _ ≤ _; simp; omega)⟩ rfl rfl ?_
                      have ha_26 := agr_le ((fl_lose (fl_mend (fl_got (fl_hof τ o (τ 3 t)) o) t o) (fl_cut (fl_got (fl_hof τ o (τ 3 t)) o) t o))) (t) (o)
                      have hl_26 := hi4.lnT (i := t) (by omega)
                      have hm_26 := hi4.lnT (i := o) (by omega)
                      refine z_istore C (L' := [(6, .int (nI (fl_agr ((fl_lose (fl_mend (fl_got (fl_hof τ o (τ 3 t)) o) t o) (fl_cut (fl_got (fl_hof τ o (τ 3 t)) o) t o))) (t) (o)))), (5, .int (nI (fl_agr ((fl_got (fl_hof τ o (τ 3 t)) o)) (t) (o)))), (4, .ref (a (2 + (o)))), (0, .ref (a 0)), (1, .int (nI (t))), (2, .ref (a (2 + (t)))), (3, .int (nI (o)))]) dX4_tell_180 (by decide) rfl ?_
                      refine z_iload C dX4_tell_182 0 rfl ?_
                      refine z_aload C dX4_tell_184 2 rfl ?_
                      refine z_bget C 0 rfl (i := o) (by omega) 7 (by decide) (v := .int ((fl_lose (fl_mend (fl_got (fl_hof τ o (τ 3 t)) o) t o) (fl_cut (fl_got (fl_hof τ o (τ 3 t)) o) t o)) 9 (o))) rfl wf_X4_81 dX4_tell_186 ?_
                      refine z_top (y := nI (fl_kn (fl_lose (fl_mend (fl_got (fl_hof τ o (τ 3 t)) o) t o) (fl_cut (fl_got (fl_hof τ o (τ 3 t)) o) t o)) (o))) (hi4.kn (by omega)) ?_
                      have hn_27 := hi4.knT (i := o) (by omega)
                      refine z_icmp_leN C (tgt := 199) dX4_tell_189 (by decide) (by omega) (by omega) (fun c_189 => ?_) (fun c_189 => ?_)
                      · refine z_iinc C (L' := [(3, .int (nI (o + 1))), (6, .int (nI (fl_agr ((fl_lose (fl_mend (fl_got (fl_hof τ o (τ 3 t)) o) t o) (fl_cut (fl_got (fl_hof τ o (τ 3 t)) o) t o))) (t) (o)))), (5, .int (nI (fl_agr ((fl_got (fl_hof τ o (τ 3 t)) o)) (t) (o)))), (4, .ref (a (2 + (o)))), (0, .ref (a 0)), (1, .int (nI (t))), (2, .ref (a (2 + (t))))]) dX4_tell_199 6 rfl (z_inc1 _) (by decide) rfl ?_
                        refine z_goto C (tgt := 9) dX4_tell_202 (by decide) ?_
                        have hTel : (fl_lose (fl_mend (fl_got (fl_hof τ o (τ 3 t)) o) t o) (fl_cut (fl_got (fl_hof τ o (τ 3 t)) o) t o)) = fl_tel τ t o := (lrn_same hi4 (by omega) (by omega)).trans (tel_ge hlt)
                        have hk_28 : smK n (fl_tel τ t o) (va_up ee o (ee o)) ps := hTel ▸ hk4
                        refine z_eq (B' := [(smS cB a n (va_up gg o q_22) ((fl_tel τ t o)), zZ), (smG cE n (va_up gg o q_22) ((fl_tel τ t o)) (va_up ee o (ee o)), zZ), (smP cI ps, zZ)]) (by rw [← hTel]) ?_
                        refine z_sub (L' := [(0, .ref (a 0)), (1, .int (nI (t))), (2, .ref (a (2 + (t)))), (3, .int (nI (o + 1)))]) [4, 5, 6, 0] rfl ?_
                        exact ih_9 (o + 1) (fl_tel τ t o) (va_up gg o q_22) (va_up ee o (ee o)) (cc + 1) (ss + 11) (by omega) (by omega) (fl_tel_Iv hτ (by omega) (by omega)) hk_28 (by omega) (by omega) (tells_on hres (by omega) c_23 c_40)
                      · refine z_aload C dX4_tell_192 2 rfl ?_
                        refine z_iload C dX4_tell_194 0 rfl ?_
                        refine z_bput C (B' := [(smS cB a n (va_up gg o q_22) ((zU (fl_lose (fl_mend (fl_got (fl_hof τ o (τ 3 t)) o) t o) (fl_cut (fl_got (fl_hof τ o (τ 3 t)) o) t o)) 9 (o) (nI (fl_agr ((fl_lose (fl_mend (fl_got (fl_hof τ o (τ 3 t)) o) t o) (fl_cut (fl_got (fl_hof τ o (τ 3 t)) o) t o))) (t) (o))))), zZ), (smG cE n (va_up gg o q_22) ((zU (fl_lose (fl_mend (fl_got (fl_hof τ o (τ 3 t)) o) t o) (fl_cut (fl_got (fl_hof τ o (τ 3 t)) o) t o)) 9 (o) (nI (fl_agr ((fl_lose (fl_mend (fl_got (fl_hof τ o (τ 3 t)) o) t o) (fl_cut (fl_got (fl_hof τ o (τ 3 t)) o) t o))) (t) (o))))) (va_up ee o (ee o)), zZ), (smP cI ps, zZ)]) 0 rfl (i := o) (by omega) 7 9 (by decide) rfl rfl wf_X4_81 rfl dX4_tell_196 rfl ?_
                        refine z_iinc C (L' := [(3, .int (nI (o + 1))), (6, .int (nI (fl_agr ((fl_lose (fl_mend (fl_got (fl_hof τ o (τ 3 t)) o) t o) (fl_cut (fl_got (fl_hof τ o (τ 3 t)) o) t o))) (t) (o)))), (5, .int (nI (fl_agr ((fl_got (fl_hof τ o (τ 3 t)) o)) (t) (o)))), (4, .ref (a (2 + (o)))), (0, .ref (a 0)), (1, .int (nI (t))), (2, .ref (a (2 + (t))))]) dX4_tell_199 6 rfl (z_inc1 _) (by decide) rfl ?_
                        refine z_goto C (tgt := 9) dX4_tell_202 (by decide) ?_
                        have hTel : (zU (fl_lose (fl_mend (fl_got (fl_hof τ o (τ 3 t)) o) t o) (fl_cut (fl_got (fl_hof τ o (τ 3 t)) o) t o)) 9 (o) (nI (fl_agr ((fl_lose (fl_mend (fl_got (fl_hof τ o (τ 3 t)) o) t o) (fl_cut (fl_got (fl_hof τ o (τ 3 t)) o) t o))) (t) (o)))) = fl_tel τ t o := (lrn_more (by omega) (by omega)).trans (tel_ge hlt)
                        have hk_29 : smK n (fl_tel τ t o) (va_up ee o (ee o)) ps := hTel ▸ (smK_8 hk4 (fun k h => zU_ne (by omega)))
                        refine z_eq (B' := [(smS cB a n (va_up gg o q_22) ((fl_tel τ t o)), zZ), (smG cE n (va_up gg o q_22) ((fl_tel τ t o)) (va_up ee o (ee o)), zZ), (smP cI ps, zZ)]) (by rw [← hTel]) ?_
                        refine z_sub (L' := [(0, .ref (a 0)), (1, .int (nI (t))), (2, .ref (a (2 + (t)))), (3, .int (nI (o + 1)))]) [4, 5, 6, 0] rfl ?_
                        exact ih_9 (o + 1) (fl_tel τ t o) (va_up gg o q_22) (va_up ee o (ee o)) (cc + 1) (ss + 11) (by omega) (by omega) (fl_tel_Iv hτ (by omega) (by omega)) hk_29 (by omega) (by omega) (tells_on hres (by omega) c_23 c_40)
                    · refine z_aload_n C dX4_tell_167 rfl 4 rfl ?_
                      refine z_bget C 0 rfl (i := t) (by omega) 7 (by decide) (v := .int ((fl_lose (fl_mend (fl_got (fl_hof τ o (τ 3 t)) o) t o) (fl_cut (fl_got (fl_hof τ o (τ 3 t)) o) t o)) 9 (t))) rfl wf_X4_81 dX4_tell_168 ?_
                      refine z_top (y := nI (fl_kn (fl_lose (fl_mend (fl_got (fl_hof τ o (τ 3 t)) o) t o) (fl_cut (fl_got (fl_hof τ o (τ 3 t)) o) t o)) (t))) (hi4.kn (by omega)) ?_
                      have hn_30 := hi4.knT (i := t) (by omega)
                      refine z_goto C (tgt := 180) dX4_tell_171 (by decide) ?_
                      refine z_istore C (L' := [(6, .int (nI (fl_kn (fl_lose (fl_mend (fl_got (fl_hof τ o (τ 3 t)) o) t o) (fl_cut (fl_got (fl_hof τ o (τ 3 t)) o) t o)) (t)))), (5, .int (nI (fl_agr ((fl_got (fl_hof τ o (τ 3 t)) o)) (t) (o)))), (4, .ref (a (2 + (o)))), (0, .ref (a 0)), (1, .int (nI (t))), (2, .ref (a (2 + (t)))), (3, .int (nI (o)))]) dX4_tell_180 (by decide) rfl ?_
                      refine z_iload C dX4_tell_182 0 rfl ?_
                      refine z_aload C dX4_tell_184 2 rfl ?_
                      refine z_bget C 0 rfl (i := o) (by omega) 7 (by decide) (v := .int ((fl_lose (fl_mend (fl_got (fl_hof τ o (τ 3 t)) o) t o) (fl_cut (fl_got (fl_hof τ o (τ 3 t)) o) t o)) 9 (o))) rfl wf_X4_81 dX4_tell_186 ?_
                      refine z_top (y := nI (fl_kn (fl_lose (fl_mend (fl_got (fl_hof τ o (τ 3 t)) o) t o) (fl_cut (fl_got (fl_hof τ o (τ 3 t)) o) t o)) (o))) (hi4.kn (by omega)) ?_
                      have hn_31 := hi4.knT (i := o) (by omega)
                      refine z_icmp_leN C (tgt := 199) dX4_tell_189 (by decide) (by omega) (by omega) (fun c_189 => ?_) (fun c_189 => ?_)
                      · refine z_iinc C (L' := [(3, .int (nI (o + 1))), (6, .int (nI (fl_kn (fl_lose (fl_mend (fl_got (fl_hof τ o (τ 3 t)) o) t o) (fl_cut (fl_got (fl_hof τ o (τ 3 t)) o) t o)) (t)))), (5, .int (nI (fl_agr ((fl_got (fl_hof τ o (τ 3 t)) o)) (t) (o)))), (4, .ref (a (2 + (o)))), (0, .ref (a 0)), (1, .int (nI (t))), (2, .ref (a (2 + (t))))]) dX4_tell_199 6 rfl (z_inc1 _) (by decide) rfl ?_
                        refine z_goto C (tgt := 9) dX4_tell_202 (by decide) ?_
                        have hTel : (fl_lose (fl_mend (fl_got (fl_hof τ o (τ 3 t)) o) t o) (fl_cut (fl_got (fl_hof τ o (τ 3 t)) o) t o)) = fl_tel τ t o := (lrn_same hi4 (by omega) (by omega)).trans (tel_ge hlt)
                        have hk_32 : smK n (fl_tel τ t o) (va_up ee o (ee o)) ps := hTel ▸ hk4
                        refine z_eq (B' := [(smS cB a n (va_up gg o q_22) ((fl_tel τ t o)), zZ), (smG cE n (va_up gg o q_22) ((fl_tel τ t o)) (va_up ee o (ee o)), zZ), (smP cI ps, zZ)]) (by rw [← hTel]) ?_
                        refine z_sub (L' := [(0, .ref (a 0)), (1, .int (nI (t))), (2, .ref (a (2 + (t)))), (3, .int (nI (o + 1)))]) [4, 5, 6, 0] rfl ?_
                        exact ih_9 (o + 1) (fl_tel τ t o) (va_up gg o q_22) (va_up ee o (ee o)) (cc + 1) (ss + 11) (by omega) (by omega) (fl_tel_Iv hτ (by omega) (by omega)) hk_32 (by omega) (by omega) (tells_on hres (by omega) c_23 c_40)
                      · refine z_aload C dX4_tell_192 2 rfl ?_
                        refine z_iload C dX4_tell_194 0 rfl ?_
                        refine z_bput C (B' := [(smS cB a n (va_up gg o q_22) ((zU (fl_lose (fl_mend (fl_got (fl_hof τ o (τ 3 t)) o) t o) (fl_cut (fl_got (fl_hof τ o (τ 3 t)) o) t o)) 9 (o) (nI (fl_kn (fl_lose (fl_mend (fl_got (fl_hof τ o (τ 3 t)) o) t o) (fl_cut (fl_got (fl_hof τ o (τ 3 t)) o) t o)) (t))))), zZ), (smG cE n (va_up gg o q_22) ((zU (fl_lose (fl_mend (fl_got (fl_hof τ o (τ 3 t)) o) t o) (fl_cut (fl_got (fl_hof τ o (τ 3 t)) o) t o)) 9 (o) (nI (fl_kn (fl_lose (fl_mend (fl_got (fl_hof τ o (τ 3 t)) o) t o) (fl_cut (fl_got (fl_hof τ o (τ 3 t)) o) t o)) (t))))) (va_up ee o (ee o)), zZ), (smP cI ps, zZ)]) 0 rfl (i := o) (by omega) 7 9 (by decide) rfl rfl wf_X4_81 rfl dX4_tell_196 rfl ?_
                        refine z_iinc C (L' := [(3, .int (nI (o + 1))), (6, .int (nI (fl_kn (fl_lose (fl_mend (fl_got (fl_hof τ o (τ 3 t)) o) t o) (fl_cut (fl_got (fl_hof τ o (τ 3 t)) o) t o)) (t)))), (5, .int (nI (fl_agr ((fl_got (fl_hof τ o (τ 3 t)) o)) (t) (o)))), (4, .ref (a (2 + (o)))), (0, .ref (a 0)), (1, .int (nI (t))), (2, .ref (a (2 + (t))))]) dX4_tell_199 6 rfl (z_inc1 _) (by decide) rfl ?_
                        refine z_goto C (tgt := 9) dX4_tell_202 (by decide) ?_
                        have hTel : (zU (fl_lose (fl_mend (fl_got (fl_hof τ o (τ 3 t)) o) t o) (fl_cut (fl_got (fl_hof τ o (τ 3 t)) o) t o)) 9 (o) (nI (fl_kn (fl_lose (fl_mend (fl_got (fl_hof τ o (τ 3 t)) o) t o) (fl_cut (fl_got (fl_hof τ o (τ 3 t)) o) t o)) (t)))) = fl_tel τ t o := (lrn_more (by omega) (by omega)).trans (tel_ge hlt)
                        have hk_33 : smK n (fl_tel τ t o) (va_up ee o (ee o)) ps := hTel ▸ (smK_8 hk4 (fun k h => zU_ne (by omega)))
                        refine z_eq (B' := [(smS cB a n (va_up gg o q_22) ((fl_tel τ t o)), zZ), (smG cE n (va_up gg o q_22) ((fl_tel τ t o)) (va_up ee o (ee o)), zZ), (smP cI ps, zZ)]) (by rw [← hTel]) ?_
                        refine z_sub (L' := [(0, .ref (a 0)), (1, .int (nI (t))), (2, .ref (a (2 + (t)))), (3, .int (nI (o + 1)))]) [4, 5, 6, 0] rfl ?_
                        exact ih_9 (o + 1) (fl_tel τ t o) (va_up gg o q_22) (va_up ee o (ee o)) (cc + 1) (ss + 11) (by omega) (by omega) (fl_tel_Iv hτ (by omega) (by omega)) hk_33 (by omega) (by omega) (tells_on hres (by omega) c_23 c_40)
                · refine z_aload C dX4_tell_110 1 rfl ?_
                  refine z_aload C dX4_tell_112 1 rfl ?_
                  refine z_bget C 0 rfl (i := o) (by omega) 8 (by decide) (v := .ref (gg (o))) rfl wf_X4_73 dX4_tell_114 ?_
                  refine z_alenG C 1 rfl (i := o) (by omega) dX4_tell_117 ?_
                  have hl_34 := hi_7.lnT (i := o) (by omega)
                  refine z_iconst C (v := nI (1)) (by decide) dX4_tell_118 ?_
                  refine z_isubN C dX4_tell_119 (by omega) ?_
                  refine z_aload_n C dX4_tell_120 rfl 4 rfl ?_
                  refine z_bget C 0 rfl (i := t) (by omega) 8 (by decide) (v := .ref (gg (t))) rfl wf_X4_73 dX4_tell_121 ?_
                  refine z_iconst C (v := -1) (by decide) dX4_tell_124 ?_
                  refine z_callVR C [true, true, true] rfl (c_X3_cut l D cI cZ cB cE n a gg ((fl_got (fl_hof τ o (τ 3 t)) o)) ee ps hi_7 hk_7 (o) (gg (t)) (by omega) (by omega)) wq_yX3_relog wm_X4_77 ⟨wn_yX3_relog, wo_yX3_relog⟩ ⟨rfl, rfl, Nat.le_of_ble_eq_true rfl, Nat.le_of_ble_eq_true rfl⟩ 0 rfl (2 + (o)) (smS_b (by omega)) rfl rfl rfl (Nat.le_of_ble_eq_true rfl) dX4_tell_125 ⟨by show _ ≤ 7; omega, by show _ ≤ 77; omega⟩ ?_
                  rintro r9 w9 ⟨rfl, q_35, rfl⟩
                  have hi_35 : fl_Iv n (zU ((fl_got (fl_hof τ o (τ 3 t)) o)) 8 o (nI (fl_ln ((fl_got (fl_hof τ o (τ 3 t)) o)) o - 1))) := (hi_7).U8 o (fl_ln ((fl_got (fl_hof τ o (τ 3 t)) o)) o - 1) (by omega)
                  have hk_35 : smK n (zU ((fl_got (fl_hof τ o (τ 3 t)) o)) 8 o (nI (fl_ln ((fl_got (fl_hof τ o (τ 3 t)) o)) o - 1))) (va_up ee o (ee o)) ps := smK_cut hk_7 (by omega) (by omega)
                  refine z_eq (B' := [(smS cB a n (va_up gg o q_35) ((zU ((fl_got (fl_hof τ o (τ 3 t)) o)) 8 o (nI (fl_ln ((fl_got (fl_hof τ o (τ 3 t)) o)) o - 1)))), zZ), (smG cE n (va_up gg o q_35) ((zU ((fl_got (fl_hof τ o (τ 3 t)) o)) 8 o (nI (fl_ln ((fl_got (fl_hof τ o (τ 3 t)) o)) o - 1)))) (va_up ee o (ee o)), zZ), (smP cI ps, zZ)]) rfl ?_
                  refine z_aload_n C dX4_tell_128 rfl 2 rfl ?_
                  refine z_dup C rfl dX4_tell_129 ?_
                  refine z_sget C 0 rfl 3 (by decide) (v := .int ((zU ((fl_got (fl_hof τ o (τ 3 t)) o)) 8 o (nI (fl_ln ((fl_got (fl_hof τ o (τ 3 t)) o)) o - 1))) 0 4)) rfl wf_X4_29 dX4_tell_130 ?_
                  refine z_iconst C (v := nI (1)) (by decide) dX4_tell_133 ?_
                  refine z_iadd C dX4_tell_134 ?_
                  refine z_sput C (B' := [(smS cB a n (va_up gg o q_35) ((zU (zU ((fl_got (fl_hof τ o (τ 3 t)) o)) 8 o (nI (fl_ln ((fl_got (fl_hof τ o (τ 3 t)) o)) o - 1))) 0 (4) (((zU ((fl_got (fl_hof τ o (τ 3 t)) o)) 8 o (nI (fl_ln ((fl_got (fl_hof τ o (τ 3 t)) o)) o - 1))) 0 (4)) + (nI (1))))), zZ), (smG cE n (va_up gg o q_35) ((zU (zU ((fl_got (fl_hof τ o (τ 3 t)) o)) 8 o (nI (fl_ln ((fl_got (fl_hof τ o (τ 3 t)) o)) o - 1))) 0 (4) (((zU ((fl_got (fl_hof τ o (τ 3 t)) o)) 8 o (nI (fl_ln ((fl_got (fl_hof τ o (τ 3 t)) o)) o - 1))) 0 (4)) + (nI (1))))) (va_up ee o (ee o)), zZ), (smP cI ps, zZ)]) 0 rfl 3 (by decide) rfl wf_X4_29 rfl dX4_tell_135 rfl ?_
                  refine z_goto C (tgt := 154) dX4_tell_138 (by decide) ?_
                  have e4 : (zU (zU ((fl_got (fl_hof τ o (τ 3 t)) o)) 8 o (nI (fl_ln ((fl_got (fl_hof τ o (τ 3 t)) o)) o - 1))) 0 (4) (((zU ((fl_got (fl_hof τ o (τ 3 t)) o)) 8 o (nI (fl_ln ((fl_got (fl_hof τ o (τ 3 t)) o)) o - 1))) 0 (4)) + (nI (1)))) = (fl_lose (fl_mend (fl_got (fl_hof τ o (τ 3 t)) o) t o) (fl_cut (fl_got (fl_hof τ o (τ 3 t)) o) t o)) := (mend_cut (by omega))
                  have hk4 : smK n (fl_lose (fl_mend (fl_got (fl_hof τ o (τ 3 t)) o) t o) (fl_cut (fl_got (fl_hof τ o (τ 3 t)) o) t o)) (va_up ee o (ee o)) ps := e4 ▸ smK_8 hk_35 (fun k h => by first | rfl | exact zU_ne (by omega))
                  have hi4 : fl_Iv n (fl_lose (fl_mend (fl_got (fl_hof τ o (τ 3 t)) o) t o) (fl_cut (fl_got (fl_hof τ o (τ 3 t)) o) t o)) := fl_lose_Iv (fl_mend_Iv hi_7 (by omega) (by omega)) _
                  refine z_eq (B' := [(smS cB a n (va_up gg o q_35) ((fl_lose (fl_mend (fl_got (fl_hof τ o (τ 3 t)) o) t o) (fl_cut (fl_got (fl_hof τ o (τ 3 t)) o) t o))), zZ), (smG cE n (va_up gg o q_35) ((fl_lose (fl_mend (fl_got (fl_hof τ o (τ 3 t)) o) t o) (fl_cut (fl_got (fl_hof τ o (τ 3 t)) o) t o))) (va_up ee o (ee o)), zZ), (smP cI ps, zZ)]) (by rw [← e4]) ?_
                  refine z_aload_n C dX4_tell_154 rfl 4 rfl ?_
                  refine z_bget C 0 rfl (i := t) (by omega) 7 (by decide) (v := .int ((fl_lose (fl_mend (fl_got (fl_hof τ o (τ 3 t)) o) t o) (fl_cut (fl_got (fl_hof τ o (τ 3 t)) o) t o)) 9 (t))) rfl wf_X4_81 dX4_tell_155 ?_
                  refine z_top (y := nI (fl_kn (fl_lose (fl_mend (fl_got (fl_hof τ o (τ 3 t)) o) t o) (fl_cut (fl_got (fl_hof τ o (τ 3 t)) o) t o)) (t))) (hi4.kn (by omega)) ?_
                  have hn_37 := hi4.knT (i := t) (by omega)
                  refine z_aload_n C dX4_tell_158 rfl 4 rfl ?_
                  refine z_aload C dX4_tell_159 1 rfl ?_
                  refine z_cVR C (st' := [.int (nI (fl_agr ((fl_lose (fl_mend (fl_got (fl_hof τ o (τ 3 t)) o) t o) (fl_cut (fl_got (fl_hof τ o (τ 3 t)) o) t o))) (t) (o))), .int (nI (fl_kn (fl_lose (fl_mend (fl_got (fl_hof τ o (τ 3 t)) o) t o) (fl_cut (fl_got (fl_hof τ o (τ 3 t)) o) t o)) (t)))]) (B' := [(smS cB a n (va_up gg o q_35) ((fl_lose (fl_mend (fl_got (fl_hof τ o (τ 3 t)) o) t o) (fl_cut (fl_got (fl_hof τ o (τ 3 t)) o) t o))), zZ), (smG cE n (va_up gg o q_35) ((fl_lose (fl_mend (fl_got (fl_hof τ o (τ 3 t)) o) t o) (fl_cut (fl_got (fl_hof τ o (τ 3 t)) o) t o))) (va_up ee o (ee o)), zZ), (smP cI ps, zZ)]) [true, true, true] rfl (c_X3_same l D cI cZ cB cE n a (va_up gg o q_35) ((fl_lose (fl_mend (fl_got (fl_hof τ o (τ 3 t)) o) t o) (fl_cut (fl_got (fl_hof τ o (τ 3 t)) o) t o))) (va_up ee o (ee o)) ps hi4 hk4 (t) (o) (by omega) (by omega)) wq_yX3_same wm_X4_69 ⟨wn_yX3_same, wo_yX3_same⟩ ⟨rfl, rfl, Nat.le_of_ble_eq_true rfl, Nat.le_of_ble_eq_true rfl⟩ 0 rfl (2 + (t)) (smS_b (by omega)) rfl rfl rfl (Nat.le_of_ble_eq_true rfl) dX4_tell_161 ⟨(by show _ ≤ _; simp; omega), (by show _ ≤ _; simp; omega)⟩ rfl rfl ?_
                  have ha_38 := agr_le ((fl_lose (fl_mend (fl_got (fl_hof τ o (τ 3 t)) o) t o) (fl_cut (fl_got (fl_hof τ o (τ 3 t)) o) t o))) (t) (o)
                  have hl_38 := hi4.lnT (i := t) (by omega)
                  have hm_38 := hi4.lnT (i := o) (by omega)
                  refine z_icmp_geN C (tgt := 174) dX4_tell_164 (by decide) (by omega) (by omega) (fun c_164 => ?_) (fun c_164 => ?_)
                  · refine z_aload_n C dX4_tell_174 rfl 4 rfl ?_
                    refine z_aload C dX4_tell_175 1 rfl ?_
                    refine z_cVR C (st' := [.int (nI (fl_agr ((fl_lose (fl_mend (fl_got (fl_hof τ o (τ 3 t)) o) t o) (fl_cut (fl_got (fl_hof τ o (τ 3 t)) o) t o))) (t) (o)))]) (B' := [(smS cB a n (va_up gg o q_35) ((fl_lose (fl_mend (fl_got (fl_hof τ o (τ 3 t)) o) t o) (fl_cut (fl_got (fl_hof τ o (τ 3 t)) o) t o))), zZ), (smG cE n (va_up gg o q_35) ((fl_lose (fl_mend (fl_got (fl_hof τ o (τ 3 t)) o) t o) (fl_cut (fl_got (fl_hof τ o (τ 3 t)) o) t o))) (va_up ee o (ee o)), zZ), (smP cI ps, zZ)]) [true, true, true] rfl (c_X3_same l D cI cZ cB cE n a (va_up gg o q_35) ((fl_lose (fl_mend (fl_got (fl_hof τ o (τ 3 t)) o) t o) (fl_cut (fl_got (fl_hof τ o (τ 3 t)) o) t o))) (va_up ee o (ee o)) ps hi4 hk4 (t) (o) (by omega) (by omega)) wq_yX3_same wm_X4_69 ⟨wn_yX3_same, wo_yX3_same⟩ ⟨rfl, rfl, Nat.le_of_ble_eq_true rfl, Nat.le_of_ble_eq_true rfl⟩ 0 rfl (2 + (t)) (smS_b (by omega)) rfl rfl rfl (Nat.le_of_ble_eq_true rfl) dX4_tell_177 ⟨(by show _ ≤ _; simp; omega), (by show _ ≤ _; simp; omega)⟩ rfl rfl ?_
                    have ha_39 := agr_le ((fl_lose (fl_mend (fl_got (fl_hof τ o (τ 3 t)) o) t o) (fl_cut (fl_got (fl_hof τ o (τ 3 t)) o) t o))) (t) (o)
                    have hl_39 := hi4.lnT (i := t) (by omega)
                    have hm_39 := hi4.lnT (i := o) (by omega)
                    refine z_istore C (L' := [(6, .int (nI (fl_agr ((fl_lose (fl_mend (fl_got (fl_hof τ o (τ 3 t)) o) t o) (fl_cut (fl_got (fl_hof τ o (τ 3 t)) o) t o))) (t) (o)))), (5, .int (nI (fl_agr ((fl_got (fl_hof τ o (τ 3 t)) o)) (t) (o)))), (4, .ref (a (2 + (o)))), (0, .ref (a 0)), (1, .int (nI (t))), (2, .ref (a (2 + (t)))), (3, .int (nI (o)))]) dX4_tell_180 (by decide) rfl ?_
                    refine z_iload C dX4_tell_182 0 rfl ?_
                    refine z_aload C dX4_tell_184 2 rfl ?_
                    refine z_bget C 0 rfl (i := o) (by omega) 7 (by decide) (v := .int ((fl_lose (fl_mend (fl_got (fl_hof τ o (τ 3 t)) o) t o) (fl_cut (fl_got (fl_hof τ o (τ 3 t)) o) t o)) 9 (o))) rfl wf_X4_81 dX4_tell_186 ?_
                    refine z_top (y := nI (fl_kn (fl_lose (fl_mend (fl_got (fl_hof τ o (τ 3 t)) o) t o) (fl_cut (fl_got (fl_hof τ o (τ 3 t)) o) t o)) (o))) (hi4.kn (by omega)) ?_
                    have hn_40 := hi4.knT (i := o) (by omega)
                    refine z_icmp_leN C (tgt := 199) dX4_tell_189 (by decide) (by omega) (by omega) (fun c_189 => ?_) (fun c_189 => ?_)
                    · refine z_iinc C (L' := [(3, .int (nI (o + 1))), (6, .int (nI (fl_agr ((fl_lose (fl_mend (fl_got (fl_hof τ o (τ 3 t)) o) t o) (fl_cut (fl_got (fl_hof τ o (τ 3 t)) o) t o))) (t) (o)))), (5, .int (nI (fl_agr ((fl_got (fl_hof τ o (τ 3 t)) o)) (t) (o)))), (4, .ref (a (2 + (o)))), (0, .ref (a 0)), (1, .int (nI (t))), (2, .ref (a (2 + (t))))]) dX4_tell_199 6 rfl (z_inc1 _) (by decide) rfl ?_
                      refine z_goto C (tgt := 9) dX4_tell_202 (by decide) ?_
                      have hTel : (fl_lose (fl_mend (fl_got (fl_hof τ o (τ 3 t)) o) t o) (fl_cut (fl_got (fl_hof τ o (τ 3 t)) o) t o)) = fl_tel τ t o := (lrn_same hi4 (by omega) (by omega)).trans (tel_ge hlt)
                      have hk_41 : smK n (fl_tel τ t o) (va_up ee o (ee o)) ps := hTel ▸ hk4
                      refine z_eq (B' := [(smS cB a n (va_up gg o q_35) ((fl_tel τ t o)), zZ), (smG cE n (va_up gg o q_35) ((fl_tel τ t o)) (va_up ee o (ee o)), zZ), (smP cI ps, zZ)]) (by rw [← hTel]) ?_
                      refine z_sub (L' := [(0, .ref (a 0)), (1, .int (nI (t))), (2, .ref (a (2 + (t)))), (3, .int (nI (o + 1)))]) [4, 5, 6, 0] rfl ?_
                      exact ih_9 (o + 1) (fl_tel τ t o) (va_up gg o q_35) (va_up ee o (ee o)) (cc + 1) (ss + 11) (by omega) (by omega) (fl_tel_Iv hτ (by omega) (by omega)) hk_41 (by omega) (by omega) (tells_on hres (by omega) c_23 c_40)
                    · refine z_aload C dX4_tell_192 2 rfl ?_
                      refine z_iload C dX4_tell_194 0 rfl ?_
                      refine z_bput C (B' := [(smS cB a n (va_up gg o q_35) ((zU (fl_lose (fl_mend (fl_got (fl_hof τ o (τ 3 t)) o) t o) (fl_cut (fl_got (fl_hof τ o (τ 3 t)) o) t o)) 9 (o) (nI (fl_agr ((fl_lose (fl_mend (fl_got (fl_hof τ o (τ 3 t)) o) t o) (fl_cut (fl_got (fl_hof τ o (τ 3 t)) o) t o))) (t) (o))))), zZ), (smG cE n (va_up gg o q_35) ((zU (fl_lose (fl_mend (fl_got (fl_hof τ o (τ 3 t)) o) t o) (fl_cut (fl_got (fl_hof τ o (τ 3 t)) o) t o)) 9 (o) (nI (fl_agr ((fl_lose (fl_mend (fl_got (fl_hof τ o (τ 3 t)) o) t o) (fl_cut (fl_got (fl_hof τ o (τ 3 t)) o) t o))) (t) (o))))) (va_up ee o (ee o)), zZ), (smP cI ps, zZ)]) 0 rfl (i := o) (by omega) 7 9 (by decide) rfl rfl wf_X4_81 rfl dX4_tell_196 rfl ?_
                      refine z_iinc C (L' := [(3, .int (nI (o + 1))), (6, .int (nI (fl_agr ((fl_lose (fl_mend (fl_got (fl_hof τ o (τ 3 t)) o) t o) (fl_cut (fl_got (fl_hof τ o (τ 3 t)) o) t o))) (t) (o)))), (5, .int (nI (fl_agr ((fl_got (fl_hof τ o (τ 3 t)) o)) (t) (o)))), (4, .ref (a (2 + (o)))), (0, .ref (a 0)), (1, .int (nI (t))), (2, .ref (a (2 + (t))))]) dX4_tell_199 6 rfl (z_inc1 _) (by decide) rfl ?_
                      refine z_goto C (tgt := 9) dX4_tell_202 (by decide) ?_
                      have hTel : (zU (fl_lose (fl_mend (fl_got (fl_hof τ o (τ 3 t)) o) t o) (fl_cut (fl_got (fl_hof τ o (τ 3 t)) o) t o)) 9 (o) (nI (fl_agr ((fl_lose (fl_mend (fl_got (fl_hof τ o (τ 3 t)) o) t o) (fl_cut (fl_got (fl_hof τ o (τ 3 t)) o) t o))) (t) (o)))) = fl_tel τ t o := (lrn_more (by omega) (by omega)).trans (tel_ge hlt)
                      have hk_42 : smK n (fl_tel τ t o) (va_up ee o (ee o)) ps := hTel ▸ (smK_8 hk4 (fun k h => zU_ne (by omega)))
                      refine z_eq (B' := [(smS cB a n (va_up gg o q_35) ((fl_tel τ t o)), zZ), (smG cE n (va_up gg o q_35) ((fl_tel τ t o)) (va_up ee o (ee o)), zZ), (smP cI ps, zZ)]) (by rw [← hTel]) ?_
                      refine z_sub (L' := [(0, .ref (a 0)), (1, .int (nI (t))), (2, .ref (a (2 + (t)))), (3, .int (nI (o + 1)))]) [4, 5, 6, 0] rfl ?_
                      exact ih_9 (o + 1) (fl_tel τ t o) (va_up gg o q_35) (va_up ee o (ee o)) (cc + 1) (ss + 11) (by omega) (by omega) (fl_tel_Iv hτ (by omega) (by omega)) hk_42 (by omega) (by omega) (tells_on hres (by omega) c_23 c_40)
                  · refine z_aload_n C dX4_tell_167 rfl 4 rfl ?_
                    refine z_bget C 0 rfl (i := t) (by omega) 7 (by decide) (v := .int ((fl_lose (fl_mend (fl_got (fl_hof τ o (τ 3 t)) o) t o) (fl_cut (fl_got (fl_hof τ o (τ 3 t)) o) t o)) 9 (t))) rfl wf_X4_81 dX4_tell_168 ?_
                    refine z_top (y := nI (fl_kn (fl_lose (fl_mend (fl_got (fl_hof τ o (τ 3 t)) o) t o) (fl_cut (fl_got (fl_hof τ o (τ 3 t)) o) t o)) (t))) (hi4.kn (by omega)) ?_
                    have hn_43 := hi4.knT (i := t) (by omega)
                    refine z_goto C (tgt := 180) dX4_tell_171 (by decide) ?_
                    refine z_istore C (L' := [(6, .int (nI (fl_kn (fl_lose (fl_mend (fl_got (fl_hof τ o (τ 3 t)) o) t o) (fl_cut (fl_got (fl_hof τ o (τ 3 t)) o) t o)) (t)))), (5, .int (nI (fl_agr ((fl_got (fl_hof τ o (τ 3 t)) o)) (t) (o)))), (4, .ref (a (2 + (o)))), (0, .ref (a 0)), (1, .int (nI (t))), (2, .ref (a (2 + (t)))), (3, .int (nI (o)))]) dX4_tell_180 (by decide) rfl ?_
                    refine z_iload C dX4_tell_182 0 rfl ?_
                    refine z_aload C dX4_tell_184 2 rfl ?_
                    refine z_bget C 0 rfl (i := o) (by omega) 7 (by decide) (v := .int ((fl_lose (fl_mend (fl_got (fl_hof τ o (τ 3 t)) o) t o) (fl_cut (fl_got (fl_hof τ o (τ 3 t)) o) t o)) 9 (o))) rfl wf_X4_81 dX4_tell_186 ?_
                    refine z_top (y := nI (fl_kn (fl_lose (fl_mend (fl_got (fl_hof τ o (τ 3 t)) o) t o) (fl_cut (fl_got (fl_hof τ o (τ 3 t)) o) t o)) (o))) (hi4.kn (by omega)) ?_
                    have hn_44 := hi4.knT (i := o) (by omega)
                    refine z_icmp_leN C (tgt := 199) dX4_tell_189 (by decide) (by omega) (by omega) (fun c_189 => ?_) (fun c_189 => ?_)
                    · refine z_iinc C (L' := [(3, .int (nI (o + 1))), (6, .int (nI (fl_kn (fl_lose (fl_mend (fl_got (fl_hof τ o (τ 3 t)) o) t o) (fl_cut (fl_got (fl_hof τ o (τ 3 t)) o) t o)) (t)))), (5, .int (nI (fl_agr ((fl_got (fl_hof τ o (τ 3 t)) o)) (t) (o)))), (4, .ref (a (2 + (o)))), (0, .ref (a 0)), (1, .int (nI (t))), (2, .ref (a (2 + (t))))]) dX4_tell_199 6 rfl (z_inc1 _) (by decide) rfl ?_
                      refine z_goto C (tgt := 9) dX4_tell_202 (by decide) ?_
                      have hTel : (fl_lose (fl_mend (fl_got (fl_hof τ o (τ 3 t)) o) t o) (fl_cut (fl_got (fl_hof τ o (τ 3 t)) o) t o)) = fl_tel τ t o := (lrn_same hi4 (by omega) (by omega)).trans (tel_ge hlt)
                      have hk_45 : smK n (fl_tel τ t o) (va_up ee o (ee o)) ps := hTel ▸ hk4
                      refine z_eq (B' := [(smS cB a n (va_up gg o q_35) ((fl_tel τ t o)), zZ), (smG cE n (va_up gg o q_35) ((fl_tel τ t o)) (va_up ee o (ee o)), zZ), (smP cI ps, zZ)]) (by rw [← hTel]) ?_
                      refine z_sub (L' := [(0, .ref (a 0)), (1, .int (nI (t))), (2, .ref (a (2 + (t)))), (3, .int (nI (o + 1)))]) [4, 5, 6, 0] rfl ?_
                      exact ih_9 (o + 1) (fl_tel τ t o) (va_up gg o q_35) (va_up ee o (ee o)) (cc + 1) (ss + 11) (by omega) (by omega) (fl_tel_Iv hτ (by omega) (by omega)) hk_45 (by omega) (by omega) (tells_on hres (by omega) c_23 c_40)
                    · refine z_aload C dX4_tell_192 2 rfl ?_
                      refine z_iload C dX4_tell_194 0 rfl ?_
                      refine z_bput C (B' := [(smS cB a n (va_up gg o q_35) ((zU (fl_lose (fl_mend (fl_got (fl_hof τ o (τ 3 t)) o) t o) (fl_cut (fl_got (fl_hof τ o (τ 3 t)) o) t o)) 9 (o) (nI (fl_kn (fl_lose (fl_mend (fl_got (fl_hof τ o (τ 3 t)) o) t o) (fl_cut (fl_got (fl_hof τ o (τ 3 t)) o) t o)) (t))))), zZ), (smG cE n (va_up gg o q_35) ((zU (fl_lose (fl_mend (fl_got (fl_hof τ o (τ 3 t)) o) t o) (fl_cut (fl_got (fl_hof τ o (τ 3 t)) o) t o)) 9 (o) (nI (fl_kn (fl_lose (fl_mend (fl_got (fl_hof τ o (τ 3 t)) o) t o) (fl_cut (fl_got (fl_hof τ o (τ 3 t)) o) t o)) (t))))) (va_up ee o (ee o)), zZ), (smP cI ps, zZ)]) 0 rfl (i := o) (by omega) 7 9 (by decide) rfl rfl wf_X4_81 rfl dX4_tell_196 rfl ?_
                      refine z_iinc C (L' := [(3, .int (nI (o + 1))), (6, .int (nI (fl_kn (fl_lose (fl_mend (fl_got (fl_hof τ o (τ 3 t)) o) t o) (fl_cut (fl_got (fl_hof τ o (τ 3 t)) o) t o)) (t)))), (5, .int (nI (fl_agr ((fl_got (fl_hof τ o (τ 3 t)) o)) (t) (o)))), (4, .ref (a (2 + (o)))), (0, .ref (a 0)), (1, .int (nI (t))), (2, .ref (a (2 + (t))))]) dX4_tell_199 6 rfl (z_inc1 _) (by decide) rfl ?_
                      refine z_goto C (tgt := 9) dX4_tell_202 (by decide) ?_
                      have hTel : (zU (fl_lose (fl_mend (fl_got (fl_hof τ o (τ 3 t)) o) t o) (fl_cut (fl_got (fl_hof τ o (τ 3 t)) o) t o)) 9 (o) (nI (fl_kn (fl_lose (fl_mend (fl_got (fl_hof τ o (τ 3 t)) o) t o) (fl_cut (fl_got (fl_hof τ o (τ 3 t)) o) t o)) (t)))) = fl_tel τ t o := (lrn_more (by omega) (by omega)).trans (tel_ge hlt)
                      have hk_46 : smK n (fl_tel τ t o) (va_up ee o (ee o)) ps := hTel ▸ (smK_8 hk4 (fun k h => zU_ne (by omega)))
                      refine z_eq (B' := [(smS cB a n (va_up gg o q_35) ((fl_tel τ t o)), zZ), (smG cE n (va_up gg o q_35) ((fl_tel τ t o)) (va_up ee o (ee o)), zZ), (smP cI ps, zZ)]) (by rw [← hTel]) ?_
                      refine z_sub (L' := [(0, .ref (a 0)), (1, .int (nI (t))), (2, .ref (a (2 + (t)))), (3, .int (nI (o + 1)))]) [4, 5, 6, 0] rfl ?_
                      exact ih_9 (o + 1) (fl_tel τ t o) (va_up gg o q_35) (va_up ee o (ee o)) (cc + 1) (ss + 11) (by omega) (by omega) (fl_tel_Iv hτ (by omega) (by omega)) hk_46 (by omega) (by omega) (tells_on hres (by omega) c_23 c_40)
              · exact absurd c_23 c_60
          · refine z_goto C (tgt := 199) dX4_tell_43 (by decide) ?_
            refine z_iinc C (L' := [(3, .int (nI (o + 1))), (4, .ref (a (2 + (o)))), (0, .ref (a 0)), (1, .int (nI (t))), (2, .ref (a (2 + (t))))]) dX4_tell_199 4 rfl (z_inc1 _) (by decide) rfl ?_
            refine z_goto C (tgt := 9) dX4_tell_202 (by decide) ?_
            refine z_sub (L' := [(0, .ref (a 0)), (1, .int (nI (t))), (2, .ref (a (2 + (t)))), (3, .int (nI (o + 1)))]) [2, 3, 4, 0] rfl ?_
            exact ih_9 (o + 1) τ gg ee cc ss (by omega) (by omega) hτ hkτ (by omega) (by omega) (tells_off hres (by omega) c_23 c_40)
  refine z_sub (L' := [(0, .ref (a 0)), (1, .int (nI (t))), (2, .ref (a (2 + (t)))), (3, .int (nI (0)))]) [2, 3, 1, 0] rfl ?_
  exact loop_9 (n + 1) 0 σ g en 0 0 (by omega) (by omega) hI hk (by omega) (by omega) rfl
set_option maxHeartbeats 4000000 in
set_option maxRecDepth 100000 in
theorem c_X4_commit (l : Launch) (D : va_G) (cI cZ cB cE : ClassId) (n : Nat) (a g : Nat → Nat) (σ : zF) (en : Nat → Nat → Nat) (ps : List (Nat × Int32 × Int32)) (hI : fl_Iv n σ) (hk : smK n σ en ps) (b : Nat) (hb : b < n) (hl : fl_lead σ b = true) : zM l D (tyL cI cZ cB cE) yX4_commit cX4_commit 7 none (zR 1 22) [.ref (a 0), .int (nI (b))] [(smS cB a n g σ, zZ), (smG cE n g σ en, zZ), (smP cI ps, zZ)] 0 0 (fun r u => r = none ∧ u = [(smS cB a n g ((fl_com n σ b)), zZ), (smG cE n g ((fl_com n σ b)) en, zZ), (smP cI ps, zZ)]) := by
  have hn3 := hI.n3
  have hn7 := hI.n7
  refine z_of (by decide) (Nat.le_of_ble_eq_true rfl) rfl ?_
  intro p e s m args below meth c A C hr hin
  obtain ⟨Q, hQ⟩ : ∃ Q, Q = MQ below (zQ (fun r u => r = none ∧ u = [(smS cB a n g ((fl_com n σ b)), zZ), (smG cE n g ((fl_com n σ b)) en, zZ), (smP cI ps, zZ)]) D (tyL cI cZ cB cE) A) args s 0 0 A := ⟨_, rfl⟩
  rw [← hQ]
  have hlb := hI.lnT hb
  have hkb := hI.knT hb
  refine z_aload_n C dX4_commit_0 rfl 0 rfl ?_
  refine z_sget C 0 rfl 4 (by decide) (v := .ref (a 1)) rfl wf_X4_9 dX4_commit_1 ?_
  refine z_iload_n C dX4_commit_4 rfl 1 rfl ?_
  refine z_aB C 0 rfl (i := b) (by omega) (by omega) dX4_commit_5 ?_
  refine z_astore_n C (L' := [(2, .ref (a (2 + (b)))), (0, .ref (a 0)), (1, .int (nI (b)))]) dX4_commit_6 rfl (by decide) rfl ?_
  refine z_aload_n C dX4_commit_7 rfl 0 rfl ?_
  refine z_bget C 0 rfl (i := b) (by omega) 7 (by decide) (v := .int (σ 9 (b))) rfl wf_X4_81 dX4_commit_8 ?_
  refine z_top (y := nI (fl_kn σ (b))) (hI.kn (by omega)) ?_
  have hn_1 := hI.knT (i := b) (by omega)
  refine z_istore_n C (L' := [(3, .int (nI (fl_kn σ (b)))), (2, .ref (a (2 + (b)))), (0, .ref (a 0)), (1, .int (nI (b)))]) dX4_commit_11 rfl (by decide) rfl ?_
  refine z_aload_n C dX4_commit_12 rfl 1 rfl ?_
  refine z_bget C 0 rfl (i := b) (by omega) 7 (by decide) (v := .int (σ 9 (b))) rfl wf_X4_81 dX4_commit_13 ?_
  refine z_top (y := nI (fl_kn σ (b))) (hI.kn (by omega)) ?_
  have hn_2 := hI.knT (i := b) (by omega)
  refine z_iconst C (v := nI (1)) (by decide) dX4_commit_16 ?_
  refine z_iaddN C dX4_commit_17 ?_
  refine z_istore C (L' := [(4, .int (nI ((fl_kn σ (b)) + 1))), (3, .int (nI (fl_kn σ (b)))), (2, .ref (a (2 + (b)))), (0, .ref (a 0)), (1, .int (nI (b)))]) dX4_commit_18 (by decide) rfl ?_
  have loop_20 : ∀ (k_20 k : Nat) (best : Nat), 20 < k + k_20 → k ≤ 20 → (h0 : fl_kn σ b < k) → (hbk : best < k) → (hk2 : k ≤ 11) → (hcm : fl_comL n σ b (k - 1) = zU σ 9 b (nI best)) → (hor : k ≤ fl_ln σ b + 1 ∨ k = fl_kn σ b + 1) → zK p l e (zR 1 22) s m args below meth c D A 7 Q 0 0 20 [(0, .ref (a 0)), (1, .int (nI (b))), (2, .ref (a (2 + (b)))), (3, .int (nI (best))), (4, .int (nI (k)))] [] [(smS cB a n g σ, zZ), (smG cE n g σ en, zZ), (smP cI ps, zZ)] := by
    intro k_20
    induction k_20 with
    | zero => intro k best m1_20 m2_20; exact absurd m1_20 (by omega)
    | succ k_20 ih_20 =>
      intro k best m1_20 m2_20 h0 hbk hk2 hcm hor
      refine z_iload C dX4_commit_20 4 rfl ?_
      refine z_aload_n C dX4_commit_22 rfl 2 rfl ?_
      refine z_bget C 0 rfl (i := b) (by omega) 8 (by decide) (v := .ref (g (b))) rfl wf_X4_73 dX4_commit_23 ?_
      refine z_alenG C 1 rfl (i := b) (by omega) dX4_commit_26 ?_
      have hl_3 := hI.lnT (i := b) (by omega)
      refine z_icmp_gtN C (tgt := 127) dX4_commit_27 (by decide) (by omega) (by omega) (fun c_27 => ?_) (fun c_27 => ?_)
      · refine z_aload_n C dX4_commit_127 rfl 2 rfl ?_
        refine z_iload_n C dX4_commit_128 rfl 3 rfl ?_
        refine z_bput C (B' := [(smS cB a n g ((zU σ 9 (b) (nI (best)))), zZ), (smG cE n g ((zU σ 9 (b) (nI (best)))) en, zZ), (smP cI ps, zZ)]) 0 rfl (i := b) (by omega) 7 9 (by decide) rfl rfl wf_X4_81 rfl dX4_commit_129 rfl ?_
        rw [hQ]; exact z_vret C hr dX4_commit_132 ⟨rfl, by rw [com_end hcm (by omega) hor]⟩
      · refine z_iconst C (v := nI (1)) (by decide) dX4_commit_30 ?_
        refine z_istore C (L' := [(5, .int (nI (1))), (0, .ref (a 0)), (1, .int (nI (b))), (2, .ref (a (2 + (b)))), (3, .int (nI (best))), (4, .int (nI (k)))]) dX4_commit_31 (by decide) rfl ?_
        refine z_iconst C (v := nI (0)) (by decide) dX4_commit_33 ?_
        refine z_istore C (L' := [(6, .int (nI (0))), (5, .int (nI (1))), (0, .ref (a 0)), (1, .int (nI (b))), (2, .ref (a (2 + (b)))), (3, .int (nI (best))), (4, .int (nI (k)))]) dX4_commit_34 (by decide) rfl ?_
        have loop_36 : ∀ (k_36 o : Nat) (many : Nat), n < o + k_36 → o ≤ n → (hmany : many = (fl_ct (fun o => sm_hr σ b o && decide (k ≤ fl_agr σ b o)) o) + 1) → zK p l e (zR 1 22) s m args below meth c D A 7 Q 0 0 36 [(0, .ref (a 0)), (1, .int (nI (b))), (2, .ref (a (2 + (b)))), (3, .int (nI (best))), (4, .int (nI (k))), (5, .int (nI (many))), (6, .int (nI (o)))] [] [(smS cB a n g σ, zZ), (smG cE n g σ en, zZ), (smP cI ps, zZ)] := by
          intro k_36
          induction k_36 with
          | zero => intro o many m1_36 m2_36; exact absurd m1_36 (by omega)
          | succ k_36 ih_36 =>
            intro o many m1_36 m2_36 hmany
            refine z_iload C dX4_commit_36 6 rfl ?_
            refine z_aload_n C dX4_commit_38 rfl 0 rfl ?_
            refine z_sget C 0 rfl 4 (by decide) (v := .ref (a 1)) rfl wf_X4_9 dX4_commit_39 ?_
            refine z_alenB C 0 rfl dX4_commit_42 ?_
            refine z_icmp_geN C (tgt := 88) dX4_commit_43 (by decide) (by omega) (by omega) (fun c_43 => ?_) (fun c_43 => ?_)
            · have hcq := cnt_eq (k := k) hb hl (by omega)
              have hon : o = n := by omega
              rw [hon] at hmany
              have hct := fl_ct_le (fun o => sm_hr σ b o && decide (k ≤ fl_agr σ b o)) n
              refine z_iconst C (v := nI (2)) (by decide) dX4_commit_88 ?_
              refine z_iload C dX4_commit_89 5 rfl ?_
              refine z_imulN C dX4_commit_91 ?_
              refine z_aload_n C dX4_commit_92 rfl 0 rfl ?_
              refine z_sget C 0 rfl 4 (by decide) (v := .ref (a 1)) rfl wf_X4_9 dX4_commit_93 ?_
              refine z_alenB C 0 rfl dX4_commit_96 ?_
              refine z_icmp_leN C (tgt := 121) dX4_commit_97 (by decide) (by omega) (by omega) (fun c_97 => ?_) (fun c_97 => ?_)
              · refine z_iinc C (L' := [(4, .int (nI (k + 1))), (0, .ref (a 0)), (1, .int (nI (b))), (2, .ref (a (2 + (b)))), (3, .int (nI (best))), (5, .int (nI (many))), (6, .int (nI (o)))]) dX4_commit_121 4 rfl (z_inc1 _) (by decide) rfl ?_
                refine z_goto C (tgt := 20) dX4_commit_124 (by decide) ?_
                refine z_sub (L' := [(0, .ref (a 0)), (1, .int (nI (b))), (2, .ref (a (2 + (b)))), (3, .int (nI (best))), (4, .int (nI (k + 1)))]) [1, 2, 3, 4, 0] rfl ?_
                exact ih_20 (k + 1) best (by omega) (by omega) (by omega) (by omega) (by omega) (com_step h0 hcm (fun z => by have := z.2; omega)) (Or.inl (by omega))
              · refine z_aload_n C dX4_commit_100 rfl 2 rfl ?_
                refine z_bget C 0 rfl (i := b) (by omega) 8 (by decide) (v := .ref (g (b))) rfl wf_X4_73 dX4_commit_101 ?_
                refine z_iload C dX4_commit_104 4 rfl ?_
                refine z_iconst C (v := nI (1)) (by decide) dX4_commit_106 ?_
                refine z_isubN C dX4_commit_107 (by omega) ?_
                have hl_4 := hI.lnT (i := b) (by omega)
                refine z_aG C 1 rfl (i := b) (j := k - 1) (by omega) (by omega) (by omega) dX4_commit_108 ?_
                refine z_iconst C (v := nI (0)) (by decide) dX4_commit_109 ?_
                refine z_iP0 C 2 rfl (hk (b) (by omega) (k - 1) (by omega)) dX4_commit_110 ?_
                refine z_aload_n C dX4_commit_111 rfl 2 rfl ?_
                refine z_bget C 0 rfl (i := b) (by omega) 2 (by decide) (v := .int (σ 3 (b))) rfl wf_X4_43 dX4_commit_112 ?_
                refine z_icmp_ne C (tgt := 121) dX4_commit_115 (by decide) (fun c_115 => ?_) (fun c_115 => ?_)
                · refine z_iinc C (L' := [(4, .int (nI (k + 1))), (0, .ref (a 0)), (1, .int (nI (b))), (2, .ref (a (2 + (b)))), (3, .int (nI (best))), (5, .int (nI (many))), (6, .int (nI (o)))]) dX4_commit_121 4 rfl (z_inc1 _) (by decide) rfl ?_
                  refine z_goto C (tgt := 20) dX4_commit_124 (by decide) ?_
                  refine z_sub (L' := [(0, .ref (a 0)), (1, .int (nI (b))), (2, .ref (a (2 + (b)))), (3, .int (nI (best))), (4, .int (nI (k + 1)))]) [1, 2, 3, 4, 0] rfl ?_
                  exact ih_20 (k + 1) best (by omega) (by omega) (by omega) (by omega) (by omega) (com_step h0 hcm (fun z => c_115 z.1)) (Or.inl (by omega))
                · refine z_iload C dX4_commit_118 4 rfl ?_
                  refine z_istore_n C (L' := [(3, .int (nI (k))), (0, .ref (a 0)), (1, .int (nI (b))), (2, .ref (a (2 + (b)))), (4, .int (nI (k))), (5, .int (nI (many))), (6, .int (nI (o)))]) dX4_commit_120 rfl (by decide) rfl ?_
                  refine z_iinc C (L' := [(4, .int (nI (k + 1))), (3, .int (nI (k))), (0, .ref (a 0)), (1, .int (nI (b))), (2, .ref (a (2 + (b)))), (5, .int (nI (many))), (6, .int (nI (o)))]) dX4_commit_121 4 rfl (z_inc1 _) (by decide) rfl ?_
                  refine z_goto C (tgt := 20) dX4_commit_124 (by decide) ?_
                  refine z_sub (L' := [(0, .ref (a 0)), (1, .int (nI (b))), (2, .ref (a (2 + (b)))), (3, .int (nI (k))), (4, .int (nI (k + 1)))]) [2, 3, 4, 1, 0] rfl ?_
                  exact ih_20 (k + 1) k (by omega) (by omega) (by omega) (by omega) (by omega) (com_yes h0 ⟨c_115, by omega⟩) (Or.inl (by omega))
            · refine z_iload C dX4_commit_46 5 rfl ?_
              refine z_aload_n C dX4_commit_48 rfl 0 rfl ?_
              refine z_iload_n C dX4_commit_49 rfl 1 rfl ?_
              refine z_iload C dX4_commit_50 6 rfl ?_
              refine z_cVR C (st' := [.int (zb (sm_hr σ b o)), .int (nI (many))]) (B' := [(smS cB a n g σ, zZ), (smG cE n g σ en, zZ), (smP cI ps, zZ)]) [true, true, true] rfl (c_X4_hear l D cI cZ cB cE n a g σ en ps hI hk (b) (o) (by omega) (by omega)) wq_yX4_hear wm_X4_58 ⟨wn_yX4_hear, wo_yX4_hear⟩ ⟨rfl, rfl, Nat.le_of_ble_eq_true rfl, Nat.le_of_ble_eq_true rfl⟩ 0 rfl 0 rfl rfl rfl rfl (Nat.le_of_ble_eq_true rfl) dX4_commit_52 ⟨Nat.le_of_ble_eq_true rfl, Nat.le_of_ble_eq_true rfl⟩ rfl rfl ?_
              refine z_if_eqB C (tgt := 78) dX4_commit_55 (by decide) (fun c_55 => ?_) (fun c_55 => ?_)
              · refine z_iconst C (v := nI (0)) (by decide) dX4_commit_78 ?_
                refine z_iaddN C dX4_commit_79 ?_
                refine z_istore C (L' := [(5, .int (nI (many + 0))), (0, .ref (a 0)), (1, .int (nI (b))), (2, .ref (a (2 + (b)))), (3, .int (nI (best))), (4, .int (nI (k))), (6, .int (nI (o)))]) dX4_commit_80 (by decide) rfl ?_
                refine z_iinc C (L' := [(6, .int (nI (o + 1))), (5, .int (nI (many + 0))), (0, .ref (a 0)), (1, .int (nI (b))), (2, .ref (a (2 + (b)))), (3, .int (nI (best))), (4, .int (nI (k)))]) dX4_commit_82 6 rfl (z_inc1 _) (by decide) rfl ?_
                refine z_goto C (tgt := 36) dX4_commit_85 (by decide) ?_
                refine z_sub (L' := [(0, .ref (a 0)), (1, .int (nI (b))), (2, .ref (a (2 + (b)))), (3, .int (nI (best))), (4, .int (nI (k))), (5, .int (nI (many + 0))), (6, .int (nI (o + 1)))]) [2, 3, 4, 5, 6, 1, 0] rfl ?_
                exact ih_36 (o + 1) (many + 0) (by omega) (by omega) (by rw [hmany, fl_ct_n (p := fun o => sm_hr σ b o && decide (k ≤ fl_agr σ b o)) (o := o) (by show (sm_hr σ b o && _) = false; rw [c_55, Bool.false_and])])
              · refine z_aload_n C dX4_commit_58 rfl 2 rfl ?_
                refine z_aload_n C dX4_commit_59 rfl 0 rfl ?_
                refine z_sget C 0 rfl 4 (by decide) (v := .ref (a 1)) rfl wf_X4_9 dX4_commit_60 ?_
                refine z_iload C dX4_commit_63 6 rfl ?_
                refine z_aB C 0 rfl (i := o) (by omega) (by omega) dX4_commit_65 ?_
                refine z_cVR C (st' := [.int (nI (fl_agr σ (b) (o))), .int (nI (many))]) (B' := [(smS cB a n g σ, zZ), (smG cE n g σ en, zZ), (smP cI ps, zZ)]) [true, true, true] rfl (c_X3_same l D cI cZ cB cE n a g σ en ps hI hk (b) (o) (by omega) (by omega)) wq_yX3_same wm_X4_69 ⟨wn_yX3_same, wo_yX3_same⟩ ⟨rfl, rfl, Nat.le_of_ble_eq_true rfl, Nat.le_of_ble_eq_true rfl⟩ 0 rfl (2 + (b)) (smS_b (by omega)) rfl rfl rfl (Nat.le_of_ble_eq_true rfl) dX4_commit_66 ⟨Nat.le_of_ble_eq_true rfl, Nat.le_of_ble_eq_true rfl⟩ rfl rfl ?_
                have ha_5 := agr_le σ (b) (o)
                have hl_5 := hI.lnT (i := b) (by omega)
                have hm_5 := hI.lnT (i := o) (by omega)
                refine z_iload C dX4_commit_69 4 rfl ?_
                refine z_icmp_ltN C (tgt := 78) dX4_commit_71 (by decide) (by omega) (by omega) (fun c_71 => ?_) (fun c_71 => ?_)
                · refine z_iconst C (v := nI (0)) (by decide) dX4_commit_78 ?_
                  refine z_iaddN C dX4_commit_79 ?_
                  refine z_istore C (L' := [(5, .int (nI (many + 0))), (0, .ref (a 0)), (1, .int (nI (b))), (2, .ref (a (2 + (b)))), (3, .int (nI (best))), (4, .int (nI (k))), (6, .int (nI (o)))]) dX4_commit_80 (by decide) rfl ?_
                  refine z_iinc C (L' := [(6, .int (nI (o + 1))), (5, .int (nI (many + 0))), (0, .ref (a 0)), (1, .int (nI (b))), (2, .ref (a (2 + (b)))), (3, .int (nI (best))), (4, .int (nI (k)))]) dX4_commit_82 6 rfl (z_inc1 _) (by decide) rfl ?_
                  refine z_goto C (tgt := 36) dX4_commit_85 (by decide) ?_
                  refine z_sub (L' := [(0, .ref (a 0)), (1, .int (nI (b))), (2, .ref (a (2 + (b)))), (3, .int (nI (best))), (4, .int (nI (k))), (5, .int (nI (many + 0))), (6, .int (nI (o + 1)))]) [2, 3, 4, 5, 6, 1, 0] rfl ?_
                  exact ih_36 (o + 1) (many + 0) (by omega) (by omega) (by rw [hmany, fl_ct_n (p := fun o => sm_hr σ b o && decide (k ≤ fl_agr σ b o)) (o := o) (by show (sm_hr σ b o && _) = false; rw [c_55, Bool.true_and, decide_eq_false_iff_not]; omega)])
                · refine z_iconst C (v := nI (1)) (by decide) dX4_commit_74 ?_
                  refine z_goto C (tgt := 79) dX4_commit_75 (by decide) ?_
                  refine z_iaddN C dX4_commit_79 ?_
                  refine z_istore C (L' := [(5, .int (nI (many + 1))), (0, .ref (a 0)), (1, .int (nI (b))), (2, .ref (a (2 + (b)))), (3, .int (nI (best))), (4, .int (nI (k))), (6, .int (nI (o)))]) dX4_commit_80 (by decide) rfl ?_
                  refine z_iinc C (L' := [(6, .int (nI (o + 1))), (5, .int (nI (many + 1))), (0, .ref (a 0)), (1, .int (nI (b))), (2, .ref (a (2 + (b)))), (3, .int (nI (best))), (4, .int (nI (k)))]) dX4_commit_82 6 rfl (z_inc1 _) (by decide) rfl ?_
                  refine z_goto C (tgt := 36) dX4_commit_85 (by decide) ?_
                  refine z_sub (L' := [(0, .ref (a 0)), (1, .int (nI (b))), (2, .ref (a (2 + (b)))), (3, .int (nI (best))), (4, .int (nI (k))), (5, .int (nI (many + 1))), (6, .int (nI (o + 1)))]) [2, 3, 4, 5, 6, 1, 0] rfl ?_
                  exact ih_36 (o + 1) (many + 1) (by omega) (by omega) (by rw [hmany, fl_ct_y (p := fun o => sm_hr σ b o && decide (k ≤ fl_agr σ b o)) (o := o) (by show (sm_hr σ b o && _) = true; rw [c_55, Bool.true_and, decide_eq_true_iff]; omega)])
        refine z_sub (L' := [(0, .ref (a 0)), (1, .int (nI (b))), (2, .ref (a (2 + (b)))), (3, .int (nI (best))), (4, .int (nI (k))), (5, .int (nI (1))), (6, .int (nI (0)))]) [2, 3, 4, 5, 6, 1, 0] rfl ?_
        exact loop_36 (n + 1) 0 1 (by omega) (by omega) rfl
  refine z_sub (L' := [(0, .ref (a 0)), (1, .int (nI (b))), (2, .ref (a (2 + (b)))), (3, .int (nI (fl_kn σ (b)))), (4, .int (nI ((fl_kn σ (b)) + 1)))]) [3, 4, 2, 1, 0] rfl ?_
  exact loop_20 (20 + 1) (fl_kn σ b + 1) (fl_kn σ b) (by omega) (by omega) (by omega) (by omega) (by omega) (com_first hI hb) (Or.inr rfl)
set_option maxHeartbeats 4000000 in
set_option maxRecDepth 100000 in
theorem c_X4_go (l : Launch) (D : va_G) (cI cZ cB cE : ClassId) (n : Nat) (a g : Nat → Nat) (σ : zF) (en : Nat → Nat → Nat) (ps : List (Nat × Int32 × Int32)) (hI : fl_Iv n σ) (hk : smK n σ en ps) (hV : fl_Vb n σ) (hL : fl_Lb n σ) : zM l D (tyL cI cZ cB cE) yX4_go cX4_go 2 none ({ frames := 3, cells := 49, slots := 539, locals := 66 } : Room) [.ref (a 0)] [(smS cB a n g σ, zZ), (smG cE n g σ en, zZ), (smP cI ps, zZ)] 49 539 (fun r u => r = none ∧ ∃ (g' : Nat → Nat) (en' : Nat → Nat → Nat), smK n (fl_hour n σ) en' ps ∧ u = [(smS cB a n g' (fl_hour n σ), zZ), (smG cE n g' (fl_hour n σ) en', zZ), (smP cI ps, zZ)]) := by
  have hn3 := hI.n3
  have hn7 := hI.n7
  refine z_of (by decide) (Nat.le_of_ble_eq_true rfl) rfl ?_
  intro p e s m args below meth c A C hr hin
  obtain ⟨Q, hQ⟩ : ∃ Q, Q = MQ below (zQ (fun r u => r = none ∧ ∃ (g' : Nat → Nat) (en' : Nat → Nat → Nat), smK n (fl_hour n σ) en' ps ∧ u = [(smS cB a n g' (fl_hour n σ), zZ), (smG cE n g' (fl_hour n σ) en', zZ), (smP cI ps, zZ)]) D (tyL cI cZ cB cE) A) args s 49 539 A := ⟨_, rfl⟩
  rw [← hQ]
  refine z_iconst C (v := nI (0)) (by decide) dX4_go_0 ?_
  refine z_istore_n C (L' := [(1, .int (nI (0))), (0, .ref (a 0))]) dX4_go_1 rfl (by decide) rfl ?_
  have loop_2 : ∀ (k_2 b : Nat), n < b + k_2 → b ≤ n → zK p l e ({ frames := 3, cells := 49, slots := 539, locals := 66 } : Room) s m args below meth c D A 2 Q 0 0 2 [(0, .ref (a 0)), (1, .int (nI (b)))] [] [(smS cB a n g ((fl_fold (fl_clk1 n) b σ)), zZ), (smG cE n g ((fl_fold (fl_clk1 n) b σ)) en, zZ), (smP cI ps, zZ)] := by
    intro k_2
    induction k_2 with
    | zero => intro b  m1_2 m2_2; exact absurd m1_2 (by omega)
    | succ k_2 ih_2 =>
      intro b  m1_2 m2_2 
      have hi1 := fl_clkI hI (i := b) (by omega)
      have hk1 := smK_clk hk b
      refine z_iload_n C dX4_go_2 rfl 1 rfl ?_
      refine z_aload_n C dX4_go_3 rfl 0 rfl ?_
      refine z_sget C 0 rfl 4 (by decide) (v := .ref (a 1)) rfl wf_X4_9 dX4_go_4 ?_
      refine z_alenB C 0 rfl dX4_go_7 ?_
      refine z_icmp_geN C (tgt := 77) dX4_go_8 (by decide) (by omega) (by omega) (fun c_8 => ?_) (fun c_8 => ?_)
      · refine z_iconst C (v := nI (0)) (by decide) dX4_go_77 ?_
        refine z_istore_n C (L' := [(1, .int (nI (0))), (0, .ref (a 0))]) dX4_go_78 rfl (by decide) rfl ?_
        have hbn : b = n := by omega
        refine z_eq (B' := [(smS cB a n g ((fl_fold (fl_clk1 n) n σ)), zZ), (smG cE n g ((fl_fold (fl_clk1 n) n σ)) en, zZ), (smP cI ps, zZ)]) (by rw [hbn]) ?_
        have loop_79 : ∀ (k_79 b : Nat) (gg : Nat → Nat) (ee : Nat → Nat → Nat) (cc : Nat) (ss : Nat), n < b + k_79 → b ≤ n → (hkτ : smK n (fl_fold (fl_tls1 n) b (fl_fold (fl_clk1 n) n σ)) ee ps) → (hcc : cc ≤ 7 * b) → (hss : ss ≤ 77 * b) → zK p l e ({ frames := 3, cells := 49, slots := 539, locals := 66 } : Room) s m args below meth c D A 2 Q cc ss 79 [(0, .ref (a 0)), (1, .int (nI (b)))] [] [(smS cB a n gg ((fl_fold (fl_tls1 n) b (fl_fold (fl_clk1 n) n σ))), zZ), (smG cE n gg ((fl_fold (fl_tls1 n) b (fl_fold (fl_clk1 n) n σ))) ee, zZ), (smP cI ps, zZ)] := by
          intro k_79
          induction k_79 with
          | zero => intro b gg ee cc ss m1_79 m2_79; exact absurd m1_79 (by omega)
          | succ k_79 ih_79 =>
            intro b gg ee cc ss m1_79 m2_79 hkτ hcc hss
            have hi2 : fl_Iv n (fl_fold (fl_tls1 n) b (fl_fold (fl_clk1 n) n σ)) := fl_tlsI (fl_clkI hI (Nat.le_refl n)) (i := b) (by omega)
            refine z_iload_n C dX4_go_79 rfl 1 rfl ?_
            refine z_aload_n C dX4_go_80 rfl 0 rfl ?_
            refine z_sget C 0 rfl 4 (by decide) (v := .ref (a 1)) rfl wf_X4_9 dX4_go_81 ?_
            refine z_alenB C 0 rfl dX4_go_84 ?_
            refine z_icmp_geN C (tgt := 124) dX4_go_85 (by decide) (by omega) (by omega) (fun c_85 => ?_) (fun c_85 => ?_)
            · refine z_iconst C (v := nI (0)) (by decide) dX4_go_124 ?_
              refine z_istore_n C (L' := [(1, .int (nI (0))), (0, .ref (a 0))]) dX4_go_125 rfl (by decide) rfl ?_
              have hbn2 : b = n := by omega
              rw [hbn2] at hkτ
              refine z_eq (B' := [(smS cB a n gg ((fl_fold (fl_tls1 n) n (fl_fold (fl_clk1 n) n σ))), zZ), (smG cE n gg ((fl_fold (fl_tls1 n) n (fl_fold (fl_clk1 n) n σ))) ee, zZ), (smP cI ps, zZ)]) (by rw [hbn2]) ?_
              have loop_126 : ∀ (k_126 b : Nat) (gg : Nat → Nat) (ee : Nat → Nat → Nat) (cc : Nat) (ss : Nat), n < b + k_126 → b ≤ n → (hk3 : smK n (fl_fold (fl_coms1 n) b (fl_fold (fl_tls1 n) n (fl_fold (fl_clk1 n) n σ))) ee ps) → (hcc : cc ≤ 49) → (hss : ss ≤ 539) → zK p l e ({ frames := 3, cells := 49, slots := 539, locals := 66 } : Room) s m args below meth c D A 2 Q cc ss 126 [(0, .ref (a 0)), (1, .int (nI (b)))] [] [(smS cB a n gg ((fl_fold (fl_coms1 n) b (fl_fold (fl_tls1 n) n (fl_fold (fl_clk1 n) n σ)))), zZ), (smG cE n gg ((fl_fold (fl_coms1 n) b (fl_fold (fl_tls1 n) n (fl_fold (fl_clk1 n) n σ)))) ee, zZ), (smP cI ps, zZ)] := by
                intro k_126
                induction k_126 with
                | zero => intro b gg ee cc ss m1_126 m2_126; exact absurd m1_126 (by omega)
                | succ k_126 ih_126 =>
                  intro b gg ee cc ss m1_126 m2_126 hk3 hcc hss
                  have hi3 : fl_Iv n (fl_fold (fl_coms1 n) b (fl_fold (fl_tls1 n) n (fl_fold (fl_clk1 n) n σ))) := fl_comsI (fl_tlsI (fl_clkI hI (Nat.le_refl n)) (Nat.le_refl n)) (i := b) (by omega)
                  refine z_iload_n C dX4_go_126 rfl 1 rfl ?_
                  refine z_aload_n C dX4_go_127 rfl 0 rfl ?_
                  refine z_sget C 0 rfl 4 (by decide) (v := .ref (a 1)) rfl wf_X4_9 dX4_go_128 ?_
                  refine z_alenB C 0 rfl dX4_go_131 ?_
                  refine z_icmp_geN C (tgt := 171) dX4_go_132 (by decide) (by omega) (by omega) (fun c_132 => ?_) (fun c_132 => ?_)
                  · have hbn3 : b = n := by omega
                    rw [hbn3] at hk3
                    refine z_eq (B' := [(smS cB a n gg ((fl_fold (fl_coms1 n) n (fl_fold (fl_tls1 n) n (fl_fold (fl_clk1 n) n σ)))), zZ), (smG cE n gg ((fl_fold (fl_coms1 n) n (fl_fold (fl_tls1 n) n (fl_fold (fl_clk1 n) n σ)))) ee, zZ), (smP cI ps, zZ)]) (by rw [hbn3]) ?_
                    refine z_aload_n C dX4_go_171 rfl 0 rfl ?_
                    refine z_dup C rfl dX4_go_172 ?_
                    refine z_sget C 0 rfl 0 (by decide) (v := .int ((fl_fold (fl_coms1 n) n (fl_fold (fl_tls1 n) n (fl_fold (fl_clk1 n) n σ))) 0 1)) rfl wf_X4_19 dX4_go_173 ?_
                    refine z_iconst C (v := nI (1)) (by decide) dX4_go_176 ?_
                    refine z_iadd C dX4_go_177 ?_
                    refine z_sput C (B' := [(smS cB a n gg ((zU (fl_fold (fl_coms1 n) n (fl_fold (fl_tls1 n) n (fl_fold (fl_clk1 n) n σ))) 0 (1) (((fl_fold (fl_coms1 n) n (fl_fold (fl_tls1 n) n (fl_fold (fl_clk1 n) n σ))) 0 (1)) + (nI (1))))), zZ), (smG cE n gg ((zU (fl_fold (fl_coms1 n) n (fl_fold (fl_tls1 n) n (fl_fold (fl_clk1 n) n σ))) 0 (1) (((fl_fold (fl_coms1 n) n (fl_fold (fl_tls1 n) n (fl_fold (fl_clk1 n) n σ))) 0 (1)) + (nI (1))))) ee, zZ), (smP cI ps, zZ)]) 0 rfl 0 (by decide) rfl wf_X4_19 rfl dX4_go_178 rfl ?_
                    refine z_widen (k := 49) (n := 539) (by omega) (by omega) ?_
                    rw [hQ]; exact z_vret C hr dX4_go_181 ⟨rfl, gg, ee, smK_8 hk3 (fun k h => zU_ne (by omega)), rfl⟩
                  · refine z_aload_n C dX4_go_135 rfl 0 rfl ?_
                    refine z_sget C 0 rfl 4 (by decide) (v := .ref (a 1)) rfl wf_X4_9 dX4_go_136 ?_
                    refine z_iload_n C dX4_go_139 rfl 1 rfl ?_
                    refine z_aB C 0 rfl (i := b) (by omega) (by omega) dX4_go_140 ?_
                    refine z_bget C 0 rfl (i := b) (by omega) 6 (by decide) (v := .int ((fl_fold (fl_coms1 n) b (fl_fold (fl_tls1 n) n (fl_fold (fl_clk1 n) n σ))) 7 (b))) rfl wf_X4_36 dX4_go_141 ?_
                    refine z_if_eq C (tgt := 165) dX4_go_144 (by decide) (fun c_144 => ?_) (fun c_144 => ?_)
                    · refine z_iinc C (L' := [(1, .int (nI (b + 1))), (0, .ref (a 0))]) dX4_go_165 1 rfl (z_inc1 _) (by decide) rfl ?_
                      refine z_goto C (tgt := 126) dX4_go_168 (by decide) ?_
                      have hn9 : (fl_fold (fl_coms1 n) b (fl_fold (fl_tls1 n) n (fl_fold (fl_clk1 n) n σ))) = (fl_fold (fl_coms1 n) (b + 1) (fl_fold (fl_tls1 n) n (fl_fold (fl_clk1 n) n σ))) := (coms1_off (Or.inl c_144)).trans (fold_s (fl_coms1 n) b _)
                      refine z_eq (B' := [(smS cB a n gg ((fl_fold (fl_coms1 n) (b + 1) (fl_fold (fl_tls1 n) n (fl_fold (fl_clk1 n) n σ)))), zZ), (smG cE n gg ((fl_fold (fl_coms1 n) (b + 1) (fl_fold (fl_tls1 n) n (fl_fold (fl_clk1 n) n σ)))) ee, zZ), (smP cI ps, zZ)]) (by rw [← hn9]) ?_
                      refine z_sub (L' := [(0, .ref (a 0)), (1, .int (nI (b + 1)))]) [1, 0] rfl ?_
                      exact ih_126 (b + 1) gg ee cc ss (by omega) (by omega) (hn9 ▸ hk3) (by omega) (by omega)
                    · refine z_aload_n C dX4_go_147 rfl 0 rfl ?_
                      refine z_sget C 0 rfl 4 (by decide) (v := .ref (a 1)) rfl wf_X4_9 dX4_go_148 ?_
                      refine z_iload_n C dX4_go_151 rfl 1 rfl ?_
                      refine z_aB C 0 rfl (i := b) (by omega) (by omega) dX4_go_152 ?_
                      refine z_bget C 0 rfl (i := b) (by omega) 4 (by decide) (v := .int ((fl_fold (fl_coms1 n) b (fl_fold (fl_tls1 n) n (fl_fold (fl_clk1 n) n σ))) 5 (b))) rfl wf_X4_46 dX4_go_153 ?_
                      refine z_iconst C (v := nI (2)) (by decide) dX4_go_156 ?_
                      refine z_icmp_ne C (tgt := 165) dX4_go_157 (by decide) (fun c_157 => ?_) (fun c_157 => ?_)
                      · refine z_iinc C (L' := [(1, .int (nI (b + 1))), (0, .ref (a 0))]) dX4_go_165 1 rfl (z_inc1 _) (by decide) rfl ?_
                        refine z_goto C (tgt := 126) dX4_go_168 (by decide) ?_
                        have hn9 : (fl_fold (fl_coms1 n) b (fl_fold (fl_tls1 n) n (fl_fold (fl_clk1 n) n σ))) = (fl_fold (fl_coms1 n) (b + 1) (fl_fold (fl_tls1 n) n (fl_fold (fl_clk1 n) n σ))) := (coms1_off (Or.inr c_157)).trans (fold_s (fl_coms1 n) b _)
                        refine z_eq (B' := [(smS cB a n gg ((fl_fold (fl_coms1 n) (b + 1) (fl_fold (fl_tls1 n) n (fl_fold (fl_clk1 n) n σ)))), zZ), (smG cE n gg ((fl_fold (fl_coms1 n) (b + 1) (fl_fold (fl_tls1 n) n (fl_fold (fl_clk1 n) n σ)))) ee, zZ), (smP cI ps, zZ)]) (by rw [← hn9]) ?_
                        refine z_sub (L' := [(0, .ref (a 0)), (1, .int (nI (b + 1)))]) [1, 0] rfl ?_
                        exact ih_126 (b + 1) gg ee cc ss (by omega) (by omega) (hn9 ▸ hk3) (by omega) (by omega)
                      · refine z_aload_n C dX4_go_160 rfl 0 rfl ?_
                        refine z_iload_n C dX4_go_161 rfl 1 rfl ?_
                        have hi_1 : fl_Iv n (fl_com n ((fl_fold (fl_coms1 n) b (fl_fold (fl_tls1 n) n (fl_fold (fl_clk1 n) n σ)))) b) := fl_com_Iv hi3 (by omega)
                        have hk_1 : smK n (fl_com n ((fl_fold (fl_coms1 n) b (fl_fold (fl_tls1 n) n (fl_fold (fl_clk1 n) n σ)))) b) ee ps := smK_8 hk3 (fun k h => comL_k (by omega) _)
                        refine z_cVR C (st' := []) (B' := [(smS cB a n gg ((fl_com n ((fl_fold (fl_coms1 n) b (fl_fold (fl_tls1 n) n (fl_fold (fl_clk1 n) n σ)))) b)), zZ), (smG cE n gg ((fl_com n ((fl_fold (fl_coms1 n) b (fl_fold (fl_tls1 n) n (fl_fold (fl_clk1 n) n σ)))) b)) ee, zZ), (smP cI ps, zZ)]) [true, true, true] rfl (c_X4_commit l D cI cZ cB cE n a gg ((fl_fold (fl_coms1 n) b (fl_fold (fl_tls1 n) n (fl_fold (fl_clk1 n) n σ)))) ee ps hi3 hk3 (b) (by omega) (lead_iff.mpr ⟨c_144, c_157⟩)) wq_yX4_commit wm_X4_90 ⟨wn_yX4_commit, wo_yX4_commit⟩ ⟨rfl, rfl, Nat.le_of_ble_eq_true rfl, Nat.le_of_ble_eq_true rfl⟩ 0 rfl 0 rfl rfl rfl rfl (Nat.le_of_ble_eq_true rfl) dX4_go_162 ⟨(by show _ ≤ _; simp; omega), (by show _ ≤ _; simp; omega)⟩ rfl rfl ?_
                        refine z_iinc C (L' := [(1, .int (nI (b + 1))), (0, .ref (a 0))]) dX4_go_165 1 rfl (z_inc1 _) (by decide) rfl ?_
                        refine z_goto C (tgt := 126) dX4_go_168 (by decide) ?_
                        have hn9 : (fl_com n ((fl_fold (fl_coms1 n) b (fl_fold (fl_tls1 n) n (fl_fold (fl_clk1 n) n σ)))) b) = (fl_fold (fl_coms1 n) (b + 1) (fl_fold (fl_tls1 n) n (fl_fold (fl_clk1 n) n σ))) := (coms1_on c_144 c_157).trans (fold_s (fl_coms1 n) b _)
                        refine z_eq (B' := [(smS cB a n gg ((fl_fold (fl_coms1 n) (b + 1) (fl_fold (fl_tls1 n) n (fl_fold (fl_clk1 n) n σ)))), zZ), (smG cE n gg ((fl_fold (fl_coms1 n) (b + 1) (fl_fold (fl_tls1 n) n (fl_fold (fl_clk1 n) n σ)))) ee, zZ), (smP cI ps, zZ)]) (by rw [← hn9]) ?_
                        refine z_sub (L' := [(0, .ref (a 0)), (1, .int (nI (b + 1)))]) [1, 0] rfl ?_
                        exact ih_126 (b + 1) gg ee cc ss (by omega) (by omega) (hn9 ▸ hk_1) (by omega) (by omega)
              refine z_sub (L' := [(0, .ref (a 0)), (1, .int (nI (0)))]) [1, 0] rfl ?_
              exact loop_126 (n + 1) 0 gg ee cc ss (by omega) (by omega) hkτ (by omega) (by omega)
            · refine z_aload_n C dX4_go_88 rfl 0 rfl ?_
              refine z_sget C 0 rfl 4 (by decide) (v := .ref (a 1)) rfl wf_X4_9 dX4_go_89 ?_
              refine z_iload_n C dX4_go_92 rfl 1 rfl ?_
              refine z_aB C 0 rfl (i := b) (by omega) (by omega) dX4_go_93 ?_
              refine z_bget C 0 rfl (i := b) (by omega) 6 (by decide) (v := .int ((fl_fold (fl_tls1 n) b (fl_fold (fl_clk1 n) n σ)) 7 (b))) rfl wf_X4_36 dX4_go_94 ?_
              refine z_if_eq C (tgt := 118) dX4_go_97 (by decide) (fun c_97 => ?_) (fun c_97 => ?_)
              · refine z_iinc C (L' := [(1, .int (nI (b + 1))), (0, .ref (a 0))]) dX4_go_118 1 rfl (z_inc1 _) (by decide) rfl ?_
                refine z_goto C (tgt := 79) dX4_go_121 (by decide) ?_
                have hn9 : (fl_fold (fl_tls1 n) b (fl_fold (fl_clk1 n) n σ)) = (fl_fold (fl_tls1 n) (b + 1) (fl_fold (fl_clk1 n) n σ)) := (tls1_off (Or.inl c_97)).trans (fold_s (fl_tls1 n) b _)
                refine z_eq (B' := [(smS cB a n gg ((fl_fold (fl_tls1 n) (b + 1) (fl_fold (fl_clk1 n) n σ))), zZ), (smG cE n gg ((fl_fold (fl_tls1 n) (b + 1) (fl_fold (fl_clk1 n) n σ))) ee, zZ), (smP cI ps, zZ)]) (by rw [← hn9]) ?_
                refine z_sub (L' := [(0, .ref (a 0)), (1, .int (nI (b + 1)))]) [1, 0] rfl ?_
                exact ih_79 (b + 1) gg ee cc ss (by omega) (by omega) (hn9 ▸ hkτ) (by omega) (by omega)
              · refine z_aload_n C dX4_go_100 rfl 0 rfl ?_
                refine z_sget C 0 rfl 4 (by decide) (v := .ref (a 1)) rfl wf_X4_9 dX4_go_101 ?_
                refine z_iload_n C dX4_go_104 rfl 1 rfl ?_
                refine z_aB C 0 rfl (i := b) (by omega) (by omega) dX4_go_105 ?_
                refine z_bget C 0 rfl (i := b) (by omega) 4 (by decide) (v := .int ((fl_fold (fl_tls1 n) b (fl_fold (fl_clk1 n) n σ)) 5 (b))) rfl wf_X4_46 dX4_go_106 ?_
                refine z_iconst C (v := nI (2)) (by decide) dX4_go_109 ?_
                refine z_icmp_ne C (tgt := 118) dX4_go_110 (by decide) (fun c_110 => ?_) (fun c_110 => ?_)
                · refine z_iinc C (L' := [(1, .int (nI (b + 1))), (0, .ref (a 0))]) dX4_go_118 1 rfl (z_inc1 _) (by decide) rfl ?_
                  refine z_goto C (tgt := 79) dX4_go_121 (by decide) ?_
                  have hn9 : (fl_fold (fl_tls1 n) b (fl_fold (fl_clk1 n) n σ)) = (fl_fold (fl_tls1 n) (b + 1) (fl_fold (fl_clk1 n) n σ)) := (tls1_off (Or.inr c_110)).trans (fold_s (fl_tls1 n) b _)
                  refine z_eq (B' := [(smS cB a n gg ((fl_fold (fl_tls1 n) (b + 1) (fl_fold (fl_clk1 n) n σ))), zZ), (smG cE n gg ((fl_fold (fl_tls1 n) (b + 1) (fl_fold (fl_clk1 n) n σ))) ee, zZ), (smP cI ps, zZ)]) (by rw [← hn9]) ?_
                  refine z_sub (L' := [(0, .ref (a 0)), (1, .int (nI (b + 1)))]) [1, 0] rfl ?_
                  exact ih_79 (b + 1) gg ee cc ss (by omega) (by omega) (hn9 ▸ hkτ) (by omega) (by omega)
                · refine z_aload_n C dX4_go_113 rfl 0 rfl ?_
                  refine z_iload_n C dX4_go_114 rfl 1 rfl ?_
                  refine z_callVR C [true, true, true] rfl (c_X4_tell l D cI cZ cB cE n a gg ((fl_fold (fl_tls1 n) b (fl_fold (fl_clk1 n) n σ))) ee ps hi2 hkτ (b) (by omega)) wq_yX4_tell wm_X4_87 ⟨wn_yX4_tell, wo_yX4_tell⟩ ⟨rfl, rfl, Nat.le_of_ble_eq_true rfl, Nat.le_of_ble_eq_true rfl⟩ 0 rfl 0 rfl rfl rfl rfl (Nat.le_of_ble_eq_true rfl) dX4_go_115 ⟨by show _ ≤ 49; omega, by show _ ≤ 539; omega⟩ ?_
                  rintro r9 w9 ⟨rfl, gt, et, hkt, rfl⟩
                  have hi_2 : fl_Iv n (fl_tells n b 0 ((fl_fold (fl_tls1 n) b (fl_fold (fl_clk1 n) n σ)))) := fl_tells_Iv hi2 (by omega)
                  refine z_eq (B' := [(smS cB a n gt ((fl_tells n b 0 ((fl_fold (fl_tls1 n) b (fl_fold (fl_clk1 n) n σ))))), zZ), (smG cE n gt ((fl_tells n b 0 ((fl_fold (fl_tls1 n) b (fl_fold (fl_clk1 n) n σ))))) et, zZ), (smP cI ps, zZ)]) rfl ?_
                  refine z_iinc C (L' := [(1, .int (nI (b + 1))), (0, .ref (a 0))]) dX4_go_118 1 rfl (z_inc1 _) (by decide) rfl ?_
                  refine z_goto C (tgt := 79) dX4_go_121 (by decide) ?_
                  have hn9 : (fl_tells n b 0 ((fl_fold (fl_tls1 n) b (fl_fold (fl_clk1 n) n σ)))) = (fl_fold (fl_tls1 n) (b + 1) (fl_fold (fl_clk1 n) n σ)) := (tls1_on c_97 c_110).trans (fold_s (fl_tls1 n) b _)
                  refine z_eq (B' := [(smS cB a n gt ((fl_fold (fl_tls1 n) (b + 1) (fl_fold (fl_clk1 n) n σ))), zZ), (smG cE n gt ((fl_fold (fl_tls1 n) (b + 1) (fl_fold (fl_clk1 n) n σ))) et, zZ), (smP cI ps, zZ)]) (by rw [← hn9]) ?_
                  refine z_sub (L' := [(0, .ref (a 0)), (1, .int (nI (b + 1)))]) [1, 0] rfl ?_
                  exact ih_79 (b + 1) gt et (cc + 7) (ss + 77) (by omega) (by omega) (hn9 ▸ hkt) (by omega) (by omega)
        refine z_sub (L' := [(0, .ref (a 0)), (1, .int (nI (0)))]) [1, 0] rfl ?_
        exact loop_79 (n + 1) 0 g en 0 0 (by omega) (by omega) (smK_clk hk n) (by omega) (by omega)
      · refine z_aload_n C dX4_go_11 rfl 0 rfl ?_
        refine z_sget C 0 rfl 4 (by decide) (v := .ref (a 1)) rfl wf_X4_9 dX4_go_12 ?_
        refine z_iload_n C dX4_go_15 rfl 1 rfl ?_
        refine z_aB C 0 rfl (i := b) (by omega) (by omega) dX4_go_16 ?_
        refine z_bget C 0 rfl (i := b) (by omega) 6 (by decide) (v := .int ((fl_fold (fl_clk1 n) b σ) 7 (b))) rfl wf_X4_36 dX4_go_17 ?_
        refine z_if_eq C (tgt := 71) dX4_go_20 (by decide) (fun c_20 => ?_) (fun c_20 => ?_)
        · refine z_iinc C (L' := [(1, .int (nI (b + 1))), (0, .ref (a 0))]) dX4_go_71 1 rfl (z_inc1 _) (by decide) rfl ?_
          refine z_goto C (tgt := 2) dX4_go_74 (by decide) ?_
          have hn9 : (fl_fold (fl_clk1 n) b σ) = (fl_fold (fl_clk1 n) (b + 1) σ) := (clk1_off (Or.inl c_20)).trans (fold_s (fl_clk1 n) b _)
          refine z_eq (B' := [(smS cB a n g ((fl_fold (fl_clk1 n) (b + 1) σ)), zZ), (smG cE n g ((fl_fold (fl_clk1 n) (b + 1) σ)) en, zZ), (smP cI ps, zZ)]) (by rw [← hn9]) ?_
          refine z_sub (L' := [(0, .ref (a 0)), (1, .int (nI (b + 1)))]) [1, 0] rfl ?_
          exact ih_2 (b + 1)  (by omega) (by omega) 
        · refine z_aload_n C dX4_go_23 rfl 0 rfl ?_
          refine z_sget C 0 rfl 4 (by decide) (v := .ref (a 1)) rfl wf_X4_9 dX4_go_24 ?_
          refine z_iload_n C dX4_go_27 rfl 1 rfl ?_
          refine z_aB C 0 rfl (i := b) (by omega) (by omega) dX4_go_28 ?_
          refine z_bget C 0 rfl (i := b) (by omega) 4 (by decide) (v := .int ((fl_fold (fl_clk1 n) b σ) 5 (b))) rfl wf_X4_46 dX4_go_29 ?_
          refine z_iconst C (v := nI (2)) (by decide) dX4_go_32 ?_
          refine z_icmp_ne C (tgt := 39) dX4_go_33 (by decide) (fun c_33 => ?_) (fun c_33 => ?_)
          · refine z_aload_n C dX4_go_39 rfl 0 rfl ?_
            refine z_sget C 0 rfl 4 (by decide) (v := .ref (a 1)) rfl wf_X4_9 dX4_go_40 ?_
            refine z_iload_n C dX4_go_43 rfl 1 rfl ?_
            refine z_aB C 0 rfl (i := b) (by omega) (by omega) dX4_go_44 ?_
            refine z_dup C rfl dX4_go_45 ?_
            refine z_bget C 0 rfl (i := b) (by omega) 1 (by decide) (v := .int ((fl_fold (fl_clk1 n) b σ) 2 (b))) rfl wf_X4_55 dX4_go_46 ?_
            refine z_iconst C (v := nI (1)) (by decide) dX4_go_49 ?_
            refine z_isub C dX4_go_50 ?_
            refine z_bput C (B' := [(smS cB a n g ((zU (fl_fold (fl_clk1 n) b σ) 2 (b) (((fl_fold (fl_clk1 n) b σ) 2 (b)) - (nI (1))))), zZ), (smG cE n g ((zU (fl_fold (fl_clk1 n) b σ) 2 (b) (((fl_fold (fl_clk1 n) b σ) 2 (b)) - (nI (1))))) en, zZ), (smP cI ps, zZ)]) 0 rfl (i := b) (by omega) 1 2 (by decide) rfl rfl wf_X4_55 rfl dX4_go_51 rfl ?_
            refine z_aload_n C dX4_go_54 rfl 0 rfl ?_
            refine z_sget C 0 rfl 4 (by decide) (v := .ref (a 1)) rfl wf_X4_9 dX4_go_55 ?_
            refine z_iload_n C dX4_go_58 rfl 1 rfl ?_
            refine z_aB C 0 rfl (i := b) (by omega) (by omega) dX4_go_59 ?_
            refine z_bget C 0 rfl (i := b) (by omega) 1 (by decide) (v := .int ((zU (fl_fold (fl_clk1 n) b σ) 2 (b) (((fl_fold (fl_clk1 n) b σ) 2 (b)) - (nI (1)))) 2 (b))) rfl wf_X4_55 dX4_go_60 ?_
            refine z_top (y := ((fl_fold (fl_clk1 n) b σ) 2 (b)) - (nI (1))) (zU_self _ _ _ _) ?_
            refine z_if_ne C (tgt := 71) dX4_go_63 (by decide) (fun c_63 => ?_) (fun c_63 => ?_)
            · refine z_iinc C (L' := [(1, .int (nI (b + 1))), (0, .ref (a 0))]) dX4_go_71 1 rfl (z_inc1 _) (by decide) rfl ?_
              refine z_goto C (tgt := 2) dX4_go_74 (by decide) ?_
              have hn9 : (zU (fl_fold (fl_clk1 n) b σ) 2 (b) (((fl_fold (fl_clk1 n) b σ) 2 (b)) - (nI (1)))) = (fl_fold (fl_clk1 n) (b + 1) σ) := (clk1_on c_20 c_33 c_63).trans (fold_s (fl_clk1 n) b _)
              refine z_eq (B' := [(smS cB a n g ((fl_fold (fl_clk1 n) (b + 1) σ)), zZ), (smG cE n g ((fl_fold (fl_clk1 n) (b + 1) σ)) en, zZ), (smP cI ps, zZ)]) (by rw [← hn9]) ?_
              refine z_sub (L' := [(0, .ref (a 0)), (1, .int (nI (b + 1)))]) [1, 0] rfl ?_
              exact ih_2 (b + 1)  (by omega) (by omega) 
            · refine z_aload_n C dX4_go_66 rfl 0 rfl ?_
              refine z_iload_n C dX4_go_67 rfl 1 rfl ?_
              have hi_3 : fl_Iv n (fl_stand n ((zU (fl_fold (fl_clk1 n) b σ) 2 (b) (((fl_fold (fl_clk1 n) b σ) 2 (b)) - (nI (1))))) (b)) := fl_stand_Iv ((hi1.U 2 (b) (((fl_fold (fl_clk1 n) b σ) 2 (b)) - (nI (1))) (by decide) (by decide) (by decide) (by decide))) (b)
              have hk_3 : smK n (fl_stand n ((zU (fl_fold (fl_clk1 n) b σ) 2 (b) (((fl_fold (fl_clk1 n) b σ) 2 (b)) - (nI (1))))) (b)) en ps := smK_8 (show smK n ((zU (fl_fold (fl_clk1 n) b σ) 2 (b) (((fl_fold (fl_clk1 n) b σ) 2 (b)) - (nI (1))))) en ps from hk1) stand_k8
              refine z_cVR C (st' := []) (B' := [(smS cB a n g ((fl_stand n ((zU (fl_fold (fl_clk1 n) b σ) 2 (b) (((fl_fold (fl_clk1 n) b σ) 2 (b)) - (nI (1))))) (b))), zZ), (smG cE n g ((fl_stand n ((zU (fl_fold (fl_clk1 n) b σ) 2 (b) (((fl_fold (fl_clk1 n) b σ) 2 (b)) - (nI (1))))) (b))) en, zZ), (smP cI ps, zZ)]) [true, true, true] rfl (c_X4_stand l D cI cZ cB cE n a g ((zU (fl_fold (fl_clk1 n) b σ) 2 (b) (((fl_fold (fl_clk1 n) b σ) 2 (b)) - (nI (1))))) en ps ((hi1.U 2 (b) (((fl_fold (fl_clk1 n) b σ) 2 (b)) - (nI (1))) (by decide) (by decide) (by decide) (by decide))) hk1 ((hV.clk b (by omega)).cell (zU_ne (by decide))) ((hL.clk b).cells (zU_ne (by decide)) (zU_ne (by decide))) (b) (by omega)) wq_yX4_stand wm_X4_84 ⟨wn_yX4_stand, wo_yX4_stand⟩ ⟨rfl, rfl, Nat.le_of_ble_eq_true rfl, Nat.le_of_ble_eq_true rfl⟩ 0 rfl 0 rfl rfl rfl rfl (Nat.le_of_ble_eq_true rfl) dX4_go_68 ⟨Nat.le_of_ble_eq_true rfl, Nat.le_of_ble_eq_true rfl⟩ rfl rfl ?_
              refine z_iinc C (L' := [(1, .int (nI (b + 1))), (0, .ref (a 0))]) dX4_go_71 1 rfl (z_inc1 _) (by decide) rfl ?_
              refine z_goto C (tgt := 2) dX4_go_74 (by decide) ?_
              have hn9 : (fl_stand n ((zU (fl_fold (fl_clk1 n) b σ) 2 (b) (((fl_fold (fl_clk1 n) b σ) 2 (b)) - (nI (1))))) (b)) = (fl_fold (fl_clk1 n) (b + 1) σ) := (clk1_st c_20 c_33 c_63).trans (fold_s (fl_clk1 n) b _)
              refine z_eq (B' := [(smS cB a n g ((fl_fold (fl_clk1 n) (b + 1) σ)), zZ), (smG cE n g ((fl_fold (fl_clk1 n) (b + 1) σ)) en, zZ), (smP cI ps, zZ)]) (by rw [← hn9]) ?_
              refine z_sub (L' := [(0, .ref (a 0)), (1, .int (nI (b + 1)))]) [1, 0] rfl ?_
              exact ih_2 (b + 1)  (by omega) (by omega) 
          · refine z_goto C (tgt := 71) dX4_go_36 (by decide) ?_
            refine z_iinc C (L' := [(1, .int (nI (b + 1))), (0, .ref (a 0))]) dX4_go_71 1 rfl (z_inc1 _) (by decide) rfl ?_
            refine z_goto C (tgt := 2) dX4_go_74 (by decide) ?_
            have hn9 : (fl_fold (fl_clk1 n) b σ) = (fl_fold (fl_clk1 n) (b + 1) σ) := (clk1_off (Or.inr c_33)).trans (fold_s (fl_clk1 n) b _)
            refine z_eq (B' := [(smS cB a n g ((fl_fold (fl_clk1 n) (b + 1) σ)), zZ), (smG cE n g ((fl_fold (fl_clk1 n) (b + 1) σ)) en, zZ), (smP cI ps, zZ)]) (by rw [← hn9]) ?_
            refine z_sub (L' := [(0, .ref (a 0)), (1, .int (nI (b + 1)))]) [1, 0] rfl ?_
            exact ih_2 (b + 1)  (by omega) (by omega) 
  refine z_sub (L' := [(0, .ref (a 0)), (1, .int (nI (0)))]) [1, 0] rfl ?_
  exact loop_2 (n + 1) 0  (by omega) (by omega) 
