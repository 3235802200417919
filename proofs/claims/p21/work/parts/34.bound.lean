/-! Terms and counts stay small, clocks run; what an hour leaves as it was -/
def fD (n S : Nat) (σ : zF) : Prop := ∀ i, i < n → ∃ t, t ≤ S ∧ σ 3 i = nI t
def fS (n N : Nat) (σ : zF) : Prop := ∃ s g, σ 0 2 = nI s ∧ σ 0 3 = nI g ∧ g ≤ s ∧ s ≤ N ∧ fD n s σ
def fCx (n b : Nat) (σ : zF) : Prop := ∀ i, i < n → (∃ p, 2 ≤ p ∧ p ≤ 9 ∧ σ 1 i = nI p) ∧ (i ≠ b → ∃ c, 1 ≤ c ∧ c ≤ 9 ∧ σ 2 i = nI c)
def fC (n : Nat) (σ : zF) : Prop := ∀ i, i < n → (∃ p, 2 ≤ p ∧ p ≤ 9 ∧ σ 1 i = nI p) ∧ ∃ c, 1 ≤ c ∧ c ≤ 9 ∧ σ 2 i = nI c
def fA (n N : Nat) (σ : zF) : Prop := fl_Iv n σ ∧ fS n N σ ∧ fC n σ ∧ ∃ ld tl cm, fJ n σ ld tl cm
section BOUND
variable {n S N : Nat} {σ : zF}
theorem fD.mono {S' : Nat} (h : fD n S σ) (hS : S ≤ S') : fD n S' σ := fun i hi => by
  obtain ⟨t, h1, h2⟩ := h i hi
  exact ⟨t, by omega, h2⟩
theorem fD.take (h : fD n S σ) {b o : Nat} (ho : o < n) : fD n S (fl_take σ b (σ 3 o)) := fun i hi => by
  rw [take_3]
  split
  · exact h o ho
  · exact h i hi
theorem fD.hof (h : fD n S σ) {b o : Nat} (hb : b < n) : fD n S (fl_hof σ o (σ 3 b)) := fun i hi => by
  rw [hof_3]
  split
  · exact h b hb
  · exact h i hi
theorem fD.cell {τ : zF} (h : fD n S σ) (h3 : τ 3 = σ 3) : fD n S τ := fun i hi => by
  rw [h3]
  exact h i hi
theorem fD.votS (h : fD n S σ) {b o : Nat} (hb : b < n) (ho : o < n) : fD n S (fl_votS σ b o) := by
  unfold fl_votS
  split
  · exact h.take ho
  · exact (h.hof hb).cell (votT_k _ b o (by decide) (by decide))
theorem fC.cells {τ : zF} (h : fC n σ) (h1 : τ 1 = σ 1) (h2 : τ 2 = σ 2) : fC n τ := fun i hi => by
  rw [h1, h2]
  exact h i hi
theorem fC.set {τ : zF} (h : fC n σ) {o : Nat} (h1 : τ 1 = σ 1) (h2 : ∀ j, τ 2 j = σ 2 j ∨ τ 2 j = σ 1 j) : fC n τ := fun i hi => by
  obtain ⟨⟨p, p1, p2, p3⟩, q⟩ := h i hi
  refine ⟨⟨p, p1, p2, by rw [h1]; exact p3⟩, ?_⟩
  rcases h2 i with e | e
  · rw [e]
    exact q
  · exact ⟨p, by omega, p2, by rw [e]; exact p3⟩
theorem fC.votS (h : fC n σ) (b o : Nat) : fC n (fl_votS σ b o) := by
  refine h.set (o := o) (votS_k σ b o (by decide) (by decide) (by decide) (by decide)) (fun j => ?_)
  unfold fl_votS
  split
  · exact Or.inl (by rw [take_k σ b _ (by decide) (by decide) (by decide)])
  · rw [votT_2, hof_k σ o _ (by decide) (by decide) (by decide), hof_k σ o _ (by decide) (by decide) (by decide)]
    split
    · rename_i hj
      rw [hj.1]
      exact Or.inr rfl
    · exact Or.inl rfl
theorem ask_keep {b : Nat} (hb : b < n) : ∀ (f o v : Nat) (σ : zF), o + f = n → fD n S σ → fC n σ → fD n S (fl_askL b f o v σ).2 ∧ fC n (fl_askL b f o v σ).2
  | 0, _, _, _, _, hD, hC => ⟨hD, hC⟩
  | f + 1, o, v, σ, hf, hD, hC => by
    unfold fl_askL
    split
    · split
      · exact ask_keep hb f (o + 1) _ _ (by omega) (hD.votS hb (by omega)) (hC.votS b o)
      · exact ask_keep hb f (o + 1) _ _ (by omega) hD hC
    · exact ⟨hD, hC⟩
theorem ask_k {b k : Nat} (h2 : k ≠ 2) (h3 : k ≠ 3) (h4 : k ≠ 4) (h5 : k ≠ 5) : ∀ (f o v : Nat) (σ : zF), (fl_askL b f o v σ).2 k = σ k
  | 0, _, _, _ => rfl
  | f + 1, o, v, σ => by
    unfold fl_askL
    split
    · split
      · rw [ask_k h2 h3 h4 h5 f, votS_k σ b o h2 h3 h4 h5]
      · exact ask_k h2 h3 h4 h5 f _ _ _
    · rfl
theorem votS_T (σ : zF) (b o j : Nat) : fT σ j ≤ fT (fl_votS σ b o) j := by
  unfold fT fl_votS
  split
  · rename_i h
    rw [Int32.lt_iff_toInt_lt] at h
    rw [take_3]
    split
    · rename_i e
      rw [e]
      omega
    · omega
  · rw [votT_k _ b o (by decide) (by decide), hof_3]
    split
    · rename_i e
      have h := e.2
      rw [Int32.lt_iff_toInt_lt] at h
      rw [e.1]
      omega
    · omega
theorem ask_T (b j : Nat) : ∀ (f o v : Nat) (σ : zF), fT σ j ≤ fT (fl_askL b f o v σ).2 j
  | 0, _, _, _ => Int.le_refl _
  | f + 1, o, v, σ => by
    unfold fl_askL
    split
    · split
      · exact Int.le_trans (votS_T σ b o j) (ask_T b j f _ _ _)
      · exact ask_T b j f _ _ _
    · exact Int.le_refl _
theorem votS_oth (σ : zF) (b o : Nat) {j : Nat} (hb : j ≠ b) (ho : j ≠ o) : fl_votS σ b o 3 j = σ 3 j := by
  unfold fl_votS
  split
  · rw [take_3, if_neg hb]
  · rw [votT_k _ b o (by decide) (by decide), hof_oth σ o _ ho 3 (by decide) (by decide)]
theorem ask_down {b j : Nat} (hb : j ≠ b) : ∀ (f o v : Nat) (σ : zF), σ 7 j = 0 → (fl_askL b f o v σ).2 3 j = σ 3 j
  | 0, _, _, _, _ => rfl
  | f + 1, o, v, σ, h7 => by
    unfold fl_askL
    split
    · split
      · rename_i hc
        have hjo : j ≠ o := fun z => (hear_iff.mp hc.2).2.1 (z ▸ h7)
        rw [ask_down hb f _ _ _ (by rw [votS_k σ b o (by decide) (by decide) (by decide) (by decide)]; exact h7), votS_oth σ b o hb hjo]
      · exact ask_down hb f _ _ _ h7
    · rfl
theorem stdE_k {b k : Nat} {r : Nat × zF} (h0 : k ≠ 0) (h5 : k ≠ 5) : fl_stdE n b r k = r.2 k := by
  unfold fl_stdE
  split
  · rw [zU_ne h0, zU_ne h5]
  · rfl
theorem fA_stand {b : Nat} (hI : fl_Iv n σ) (hS : fS n N σ) (hC : fCx n b σ) (hJ : ∃ ld tl cm, fJ n σ ld tl cm) (hb : b < n) (hN : N < 2 ^ 30) : fA n (N + 1) (fl_stand n σ b) := by
  obtain ⟨s, g, s1, s2, s3, s4, s5⟩ := hS
  obtain ⟨t, t1, t2⟩ := s5 b hb
  have e1 : (nI 1 : Int32) = 1 := by decide
  have hov : (σ 3 b + nI 1).toInt = fT σ b + 1 := by
    unfold fT
    rw [t2, nI_add, nI_toInt (by omega), nI_toInt (by omega)]
    omega
  have hD0 : fD n (s + 1) (fl_std0 σ b) := fun i hi => by
    rw [std0_3]
    split
    · exact ⟨t + 1, by omega, by rw [t2, nI_add]⟩
    · obtain ⟨u, u1, u2⟩ := s5 i hi
      exact ⟨u, by omega, u2⟩
  have hC0 : fC n (fl_std0 σ b) := fun i hi => by
    obtain ⟨⟨p, p1, p2, p3⟩, q⟩ := hC i hi
    rw [std0_k σ b (by decide) (by decide) (by decide) (by decide) (by decide), std0_2]
    refine ⟨⟨p, p1, p2, p3⟩, ?_⟩
    split
    · rename_i e
      rw [← e]
      exact ⟨p, by omega, p2, p3⟩
    · rename_i e
      exact q e
  obtain ⟨hD1, hC1⟩ := ask_keep hb (n - 0) 0 1 _ (by omega) hD0 hC0
  obtain ⟨ld, tl, cm, J⟩ := hJ
  obtain ⟨ld', tl', J'⟩ := J.stand hI.n7 hb hov (by unfold fT; rw [t2, nI_toInt (by omega)]; omega)
  have hI' := fl_stand_Iv hI b
  have a0 := ask_k (b := b) (k := 0) (by decide) (by decide) (by decide) (by decide) (n - 0) 0 1 (fl_std0 σ b)
  refine ⟨hI', ?_, ?_, ld', tl', cm, J'⟩
  · unfold fl_stand fl_ask
    generalize fl_askL b (n - 0) 0 1 (fl_std0 σ b) = r at hD1 a0
    have z2 : r.2 0 2 = nI (s + 1) := by rw [a0, std0_0, if_pos rfl, s1, nI_add]
    have z3 : r.2 0 3 = nI g := by rw [a0, std0_0, if_neg (by decide), s2]
    refine ⟨s + 1, if r.2 5 b = nI 1 ∧ n / 2 < r.1 then g + 1 else g, ?_, ?_, ?_, by omega, hD1.cell (stdE_k (by decide) (by decide))⟩
    · unfold fl_stdE
      split
      · rw [zU_at, if_neg (by decide), zU_ne (by decide), z2]
      · exact z2
    · unfold fl_stdE
      split
      · rw [zU_self, z3, nI_add]
      · exact z3
    · split <;> omega
  · exact hC1.cells (stdE_k (by decide) (by decide)) (stdE_k (by decide) (by decide))
theorem fA_clk1 {i : Nat} (h : fA n N σ) (hi : i < n) (hN : N < 2 ^ 30) : fA n (N + 1) (fl_clk1 n σ i) := by
  obtain ⟨hI, hS, hC, ld, tl, cm, J⟩ := h
  obtain ⟨⟨p, p1, p2, p3⟩, c, c1, c2, c3⟩ := hC i hi
  have hS' : fS n (N + 1) σ := by
    obtain ⟨s, g, s1, s2, s3, s4, s5⟩ := hS
    exact ⟨s, g, s1, s2, s3, by omega, s5⟩
  have e2 : ∀ k, k ≠ 2 → zU σ 2 i (σ 2 i - nI 1) k = σ k := fun k hk => zU_ne hk
  have hI2 := hI.P 2 i (σ 2 i - nI 1) (by omega)
  have J2 : fJ n (zU σ 2 i (σ 2 i - nI 1)) ld tl cm := fJ_cells J (e2 _ (by decide)) (e2 _ (by decide)) (e2 _ (by decide)) (e2 _ (by decide)) (e2 _ (by decide)) (e2 _ (by decide)) (e2 _ (by decide))
  unfold fl_clk1
  split
  · split
    · refine fA_stand hI2 ?_ (fun j hj => ?_) ⟨ld, tl, cm, J2⟩ hi hN
      · obtain ⟨s, g, s1, s2, s3, s4, s5⟩ := hS
        exact ⟨s, g, by rw [e2 0 (by decide)]; exact s1, by rw [e2 0 (by decide)]; exact s2, s3, s4, s5.cell (e2 3 (by decide))⟩
      · rw [e2 1 (by decide)]
        exact ⟨(hC j hj).1, fun hji => by rw [zU_oth _ _ _ hji]; exact (hC j hj).2⟩
    · rename_i hz
      refine ⟨hI2, ?_, fun j hj => ?_, ld, tl, cm, J2⟩
      · obtain ⟨s, g, s1, s2, s3, s4, s5⟩ := hS'
        exact ⟨s, g, by rw [e2 0 (by decide)]; exact s1, by rw [e2 0 (by decide)]; exact s2, s3, s4, s5.cell (e2 3 (by decide))⟩
      · rw [e2 1 (by decide)]
        refine ⟨(hC j hj).1, ?_⟩
        by_cases hji : j = i
        · rw [hji, zU_self]
          rw [c3, pk_sub c1] at hz ⊢
          refine ⟨c - 1, ?_, by omega, rfl⟩
          apply Nat.pos_of_ne_zero
          intro z
          rw [z] at hz
          exact hz nI0z
        · rw [zU_oth _ _ _ hji]
          exact (hC j hj).2
  · exact ⟨hI, hS', hC, ld, tl, cm, J⟩
theorem fA_clk (h : fA n N σ) (hN : N + n < 2 ^ 30) : ∀ i, i ≤ n → fA n (N + i) (fl_fold (fl_clk1 n) i σ)
  | 0, _ => h
  | i + 1, hi => fA_clk1 (N := N + i) (fA_clk h hN i (by omega)) (by omega) (by omega)
theorem tel_0 (σ : zF) (t o : Nat) {j : Nat} (hj : j ≠ 4) : fl_tel σ t o 0 j = σ 0 j := by
  have hl : ∀ (τ : zF) (c : Bool), fl_lose τ c 0 j = τ 0 j := fun τ c => by
    unfold fl_lose
    split
    · rw [zU_at, if_neg (fun z => hj z.2)]
    · rfl
  unfold fl_tel
  split
  · rw [take_k σ t _ (by decide) (by decide) (by decide)]
  · unfold fl_telT
    rw [lrn_k _ o t (by decide), hl, mend_k _ o t (by decide) (by decide) (by decide), got_k _ o (by decide) (by decide), hof_k σ o _ (by decide) (by decide) (by decide)]
theorem tel_3D (h : fD n S σ) {t o : Nat} (ht : t < n) (ho : o < n) : fD n S (fl_tel σ t o) := by
  unfold fl_tel
  split
  · exact h.take ho
  · exact (h.hof ht).cell (telT_k _ o t (by decide) (by decide) (by decide) (by decide) (by decide) (by decide) (by decide))
theorem tel_C (h : fC n σ) (t o : Nat) : fC n (fl_tel σ t o) := by
  refine h.set (o := o) (tel_k σ t o (by omega)) (fun j => ?_)
  unfold fl_tel
  split
  · exact Or.inl (by rw [take_k σ t _ (by decide) (by decide) (by decide)])
  · rw [telT_2, hof_k σ o _ (by decide) (by decide) (by decide), hof_k σ o _ (by decide) (by decide) (by decide)]
    split
    · rename_i hj
      rw [hj]
      exact Or.inr rfl
    · exact Or.inl rfl
theorem telL_keep {t : Nat} (ht : t < n) : ∀ (f o : Nat) (σ : zF), o + f = n → fD n S σ → fC n σ → fD n S (fl_telL t f o σ) ∧ fC n (fl_telL t f o σ)
  | 0, _, _, _, hD, hC => ⟨hD, hC⟩
  | f + 1, o, σ, hf, hD, hC => by
    unfold fl_telL
    split
    · split
      · exact telL_keep ht f (o + 1) _ (by omega) (tel_3D hD ht (by omega)) (tel_C hC t o)
      · exact telL_keep ht f (o + 1) _ (by omega) hD hC
    · exact ⟨hD, hC⟩
theorem telL_0 {t j : Nat} (hj : j ≠ 4) : ∀ (f o : Nat) (σ : zF), fl_telL t f o σ 0 j = σ 0 j
  | 0, _, _ => rfl
  | f + 1, o, σ => by
    unfold fl_telL
    split
    · split
      · rw [telL_0 hj f, tel_0 σ t o hj]
      · exact telL_0 hj f _ _
    · rfl
theorem tel_T (σ : zF) (t o j : Nat) : fT σ j ≤ fT (fl_tel σ t o) j := by
  unfold fT fl_tel
  split
  · rename_i h
    rw [Int32.lt_iff_toInt_lt] at h
    rw [take_3]
    split
    · rename_i e
      rw [e]
      omega
    · omega
  · rw [telT_k _ o t (by decide) (by decide) (by decide) (by decide) (by decide) (by decide) (by decide), hof_3]
    split
    · rename_i e
      have h := e.2
      rw [Int32.lt_iff_toInt_lt] at h
      rw [e.1]
      omega
    · omega
theorem telL_T (t j : Nat) : ∀ (f o : Nat) (σ : zF), fT σ j ≤ fT (fl_telL t f o σ) j
  | 0, _, _ => Int.le_refl _
  | f + 1, o, σ => by
    unfold fl_telL
    split
    · split
      · exact Int.le_trans (tel_T σ t o j) (telL_T t j f _ _)
      · exact telL_T t j f _ _
    · exact Int.le_refl _
theorem tls_keep (hD : fD n S σ) (hC : fC n σ) : ∀ i, i ≤ n → fD n S (fl_fold (fl_tls1 n) i σ) ∧ fC n (fl_fold (fl_tls1 n) i σ)
  | 0, _ => ⟨hD, hC⟩
  | i + 1, hi => by
    obtain ⟨h1, h2⟩ := tls_keep hD hC i (by omega)
    show fD n S (fl_tls1 n (fl_fold (fl_tls1 n) i σ) i) ∧ fC n (fl_tls1 n (fl_fold (fl_tls1 n) i σ) i)
    unfold fl_tls1
    split
    · exact telL_keep (by omega) _ _ _ (by omega) h1 h2
    · exact ⟨h1, h2⟩
theorem tls1_eq (n : Nat) (τ : zF) (i : Nat) : fl_tls1 n τ i = if fl_lead τ i = true then fl_telL i (n - 0) 0 τ else τ := rfl
theorem tls_0 {j : Nat} (hj : j ≠ 4) : ∀ i, fl_fold (fl_tls1 n) i σ 0 j = σ 0 j
  | 0 => rfl
  | i + 1 => by
    show fl_tls1 n (fl_fold (fl_tls1 n) i σ) i 0 j = σ 0 j
    rw [tls1_eq]
    split
    · rw [telL_0 hj, tls_0 hj i]
    · exact tls_0 hj i
theorem tls_k {k : Nat} (h : k = 1 ∨ k = 6 ∨ k = 7) : ∀ i, fl_fold (fl_tls1 n) i σ k = σ k
  | 0 => rfl
  | i + 1 => by
    show fl_tls1 n (fl_fold (fl_tls1 n) i σ) i k = σ k
    rw [tls1_eq]
    split
    · rw [telL_k h, tls_k h i]
    · exact tls_k h i
theorem tls_T (j : Nat) : ∀ i, fT σ j ≤ fT (fl_fold (fl_tls1 n) i σ) j
  | 0 => Int.le_refl _
  | i + 1 => by
    show fT σ j ≤ fT (fl_tls1 n (fl_fold (fl_tls1 n) i σ) i) j
    unfold fl_tls1
    split
    · exact Int.le_trans (tls_T j i) (telL_T i j _ _ _)
    · exact tls_T j i
theorem tls_5 (j : Nat) : ∀ i, fl_fold (fl_tls1 n) i σ 5 j = nI 2 → σ 5 j = nI 2
  | 0 => id
  | i + 1 => by
    show fl_tls1 n (fl_fold (fl_tls1 n) i σ) i 5 j = nI 2 → _
    unfold fl_tls1
    split
    · exact fun h => tls_5 j i (telL_5 j _ _ _ h)
    · exact tls_5 j i
theorem tls_8lead (j : Nat) : ∀ i, fl_fold (fl_tls1 n) i σ 5 j = nI 2 → fl_fold (fl_tls1 n) i σ 8 j = σ 8 j
  | 0 => fun _ => rfl
  | i + 1 => by
    show fl_tls1 n (fl_fold (fl_tls1 n) i σ) i 5 j = nI 2 → fl_tls1 n (fl_fold (fl_tls1 n) i σ) i 8 j = σ 8 j
    unfold fl_tls1
    split
    · intro h
      have h1 := telL_8lead j _ _ _ h
      have h2 := telL_5 j _ _ _ h
      exact h1.trans (tls_8lead j i h2)
    · exact tls_8lead j i
theorem tls_down {j k : Nat} (h0 : k ≠ 0) (h10 : k ≠ 10) (h11 : k ≠ 11) (h7 : σ 7 j = 0) : ∀ i, fl_fold (fl_tls1 n) i σ k j = σ k j
  | 0 => rfl
  | i + 1 => by
    show fl_tls1 n (fl_fold (fl_tls1 n) i σ) i k j = σ k j
    have e7 := tls_k (n := n) (σ := σ) (k := 7) (by omega) i
    rw [tls1_eq]
    split
    · rename_i hl
      have hji : j ≠ i := fun z => (lead_iff.mp hl).1 (by rw [e7, ← z]; exact h7)
      have hh : fl_hear (fl_fold (fl_tls1 n) i σ) i j = false := by
        apply Bool.eq_false_iff.mpr
        intro z
        exact (hear_iff.mp z).2.1 (by rw [e7]; exact h7)
      rw [telL_oth hji h0 h10 h11 _ _ _ hh, tls_down h0 h10 h11 h7 i]
    · exact tls_down h0 h10 h11 h7 i
theorem tls_ln (hI : fl_Iv n σ) {j : Nat} (hj : j < n) : ∀ i, i ≤ n → fl_ln (fl_fold (fl_tls1 n) i σ) j ≤ fl_ln σ j + i ∧ fl_ln σ j ≤ fl_ln (fl_fold (fl_tls1 n) i σ) j + i
  | 0, _ => ⟨Nat.le_refl _, Nat.le_refl _⟩
  | i + 1, hi => by
    have h1 := tls_ln hI hj i (by omega)
    have I := fl_fold_Iv (f := fl_tls1 n) (m := n) (fun _ _ hi hτ => fl_tls1_Iv hτ hi) hI i (by omega)
    show fl_ln (fl_tls1 n (fl_fold (fl_tls1 n) i σ) i) j ≤ _ ∧ _ ≤ fl_ln (fl_tls1 n (fl_fold (fl_tls1 n) i σ) i) j + _
    rw [tls1_eq]
    split
    · have := telL_ln (t := i) (by omega) hj (n - 0) 0 _ (by omega) I
      omega
    · omega
theorem com_keep {b : Nat} : ∀ c, fl_comL n σ b c 0 = σ 0 ∧ fl_comL n σ b c 3 = σ 3 := fun c => ⟨comL_k (by decide) c, comL_k (by decide) c⟩
theorem fA_hour (h : fA n N σ) (hN : N + n < 2 ^ 30) : fA n (N + n) (fl_hour n σ) := by
  obtain ⟨hI, hS, hC, ld, tl, cm, J⟩ := fA_clk h hN n (Nat.le_refl n)
  have hI0 := h.1
  have hn := hI.n7
  unfold fl_hour
  generalize fl_fold (fl_clk1 n) n σ = σ1 at hI hS hC J
  obtain ⟨J2, Q2⟩ := fJ_tls hn hI J n (Nat.le_refl n)
  obtain ⟨s, g, s1, s2, s3, s4, s5⟩ := hS
  obtain ⟨D2, C2⟩ := tls_keep s5 hC n (Nat.le_refl n)
  have I2 := fl_tls_Iv hI
  have z2 := tls_0 (n := n) (σ := σ1) (j := 2) (by decide) n
  have z3 := tls_0 (n := n) (σ := σ1) (j := 3) (by decide) n
  generalize fl_fold (fl_tls1 n) n σ1 = σ2 at J2 Q2 D2 C2 I2 z2 z3
  obtain ⟨cm', J3⟩ := fJ_coms I2 J2 Q2 n (Nat.le_refl n)
  have I3 := fl_coms_Iv I2
  have ek := fun k h9 => coms_k (n := n) (σ := σ2) (k := k) h9 n
  generalize fl_fold (fl_coms1 n) n σ2 = σ3 at J3 I3 ek
  have et : ∀ k, k ≠ 0 → fl_tick σ3 k = σ3 k := fun k hk => zU_ne hk
  refine ⟨fl_tick_Iv I3, ⟨s, g, ?_, ?_, s3, s4, D2.cell (by rw [et 3 (by decide), ek 3 (by decide)])⟩, C2.cells (by rw [et 1 (by decide), ek 1 (by decide)]) (by rw [et 2 (by decide), ek 2 (by decide)]), ld, tl, cm', fJ_cells J3 (et _ (by decide)) (et _ (by decide)) (et _ (by decide)) (et _ (by decide)) (et _ (by decide)) (et _ (by decide)) (et _ (by decide))⟩
  · unfold fl_tick
    rw [zU_at, if_neg (by decide), ek 0 (by decide), z2, s1]
  · unfold fl_tick
    rw [zU_at, if_neg (by decide), ek 0 (by decide), z3, s2]
theorem fA_hours (h : fA n N σ) : ∀ k, N + k * n < 2 ^ 30 → fA n (N + k * n) (fl_hours n k σ)
  | 0, _ => by
    rw [Nat.zero_mul]
    exact h
  | k + 1, hN => by
    rw [Nat.succ_mul] at hN ⊢
    rw [← Nat.add_assoc]
    exact fA_hour (fA_hours h k (by omega)) (by omega)
/-! the whole hour, seen from a boat -/
theorem clk1_k {i k : Nat} (h : k = 1 ∨ k = 6 ∨ k = 7 ∨ k = 8 ∨ k = 9 ∨ k = 10 ∨ k = 11) : fl_clk1 n σ i k = σ k := by
  have hs : ∀ τ : zF, fl_stand n τ i k = τ k := fun τ => by
    unfold fl_stand fl_ask
    rw [stdE_k (by omega) (by omega), ask_k (by omega) (by omega) (by omega) (by omega), std0_k τ i (by omega) (by omega) (by omega) (by omega) (by omega)]
  unfold fl_clk1
  split
  · split
    · rw [hs, zU_ne (by omega)]
    · rw [zU_ne (by omega)]
  · rfl
theorem clk_k {k : Nat} (h : k = 1 ∨ k = 6 ∨ k = 7 ∨ k = 8 ∨ k = 9 ∨ k = 10 ∨ k = 11) : ∀ i, fl_fold (fl_clk1 n) i σ k = σ k
  | 0 => rfl
  | i + 1 => by
    show fl_clk1 n (fl_fold (fl_clk1 n) i σ) i k = σ k
    rw [clk1_k h, clk_k h i]
theorem stand_T (hD : fD n S σ) (hS : S < 2 ^ 30) {b : Nat} (hb : b < n) (j : Nat) : fT σ j ≤ fT (fl_stand n σ b) j := by
  obtain ⟨t, t1, t2⟩ := hD b hb
  have h1 : fT σ j ≤ fT (fl_std0 σ b) j := by
    unfold fT
    rw [std0_3]
    split
    · rename_i e
      rw [e, t2, nI_add, nI_toInt (by omega), nI_toInt (by omega)]
      omega
    · exact Int.le_refl _
  refine Int.le_trans h1 ?_
  unfold fl_stand fl_ask
  rw [fT_cells (τ := (fl_askL b (n - 0) 0 1 (fl_std0 σ b)).2) (stdE_k (by decide) (by decide))]
  exact ask_T b j _ _ _ _
theorem clk1_T (h : fA n N σ) (hN : N < 2 ^ 30) {i : Nat} (hi : i < n) (j : Nat) : fT σ j ≤ fT (fl_clk1 n σ i) j := by
  obtain ⟨-, ⟨s, g, s1, s2, s3, s4, s5⟩, -⟩ := h
  unfold fl_clk1
  split
  · split
    · have e : fT σ j = fT (zU σ 2 i (σ 2 i - nI 1)) j := congrFun (fT_cells (zU_ne (by decide)).symm) j
      rw [e]
      exact stand_T (s5.cell (zU_ne (by decide))) (by omega) hi j
    · exact Int.le_of_eq (congrFun (fT_cells (zU_ne (by decide)).symm) j)
  · exact Int.le_refl _
theorem clk_T (h : fA n N σ) (hN : N + n < 2 ^ 30) (j : Nat) : ∀ i, i ≤ n → fT σ j ≤ fT (fl_fold (fl_clk1 n) i σ) j
  | 0, _ => Int.le_refl _
  | i + 1, hi => Int.le_trans (clk_T h hN j i (by omega)) (clk1_T (fA_clk h hN i (by omega)) (by omega) (by omega) j)
theorem clk1_down {i j : Nat} (h7 : σ 7 j = 0) : fl_clk1 n σ i 3 j = σ 3 j := by
  unfold fl_clk1
  split
  · rename_i hc
    have hji : j ≠ i := fun z => hc.1 (z ▸ h7)
    split
    · unfold fl_stand fl_ask
      rw [stdE_k (by decide) (by decide), ask_down hji _ _ _ _ (by rw [std0_k _ i (by decide) (by decide) (by decide) (by decide) (by decide), zU_ne (by decide)]; exact h7), std0_3, if_neg hji, zU_ne (by decide)]
    · rw [zU_ne (by decide)]
  · rfl
theorem clk_down {j : Nat} (h7 : σ 7 j = 0) : ∀ i, fl_fold (fl_clk1 n) i σ 3 j = σ 3 j
  | 0 => rfl
  | i + 1 => by
    show fl_clk1 n (fl_fold (fl_clk1 n) i σ) i 3 j = σ 3 j
    rw [clk1_down (by rw [clk_k (by omega) i]; exact h7), clk_down h7 i]
theorem hour_k {k : Nat} (h : k = 1 ∨ k = 6 ∨ k = 7) : fl_hour n σ k = σ k := by
  unfold fl_hour fl_tick
  rw [zU_ne (by omega), coms_k (by omega), tls_k h, clk_k (by omega)]
theorem hour_T (h : fA n N σ) (hN : N + n < 2 ^ 30) (j : Nat) : fT σ j ≤ fT (fl_hour n σ) j := by
  unfold fl_hour
  rw [fT_cells (σ := fl_tick _) (τ := fl_fold (fl_tls1 n) n (fl_fold (fl_clk1 n) n σ)) (by unfold fl_tick; rw [zU_ne (by decide), coms_k (by decide)])]
  exact Int.le_trans (clk_T h hN j n (Nat.le_refl n)) (tls_T j n)
theorem hour_down {j : Nat} (h7 : σ 7 j = 0) : fl_hour n σ 3 j = σ 3 j ∧ fl_hour n σ 8 j = σ 8 j := by
  have e7 : fl_fold (fl_clk1 n) n σ 7 j = 0 := by rw [clk_k (by omega)]; exact h7
  unfold fl_hour fl_tick
  rw [zU_ne (by decide), zU_ne (by decide), coms_k (by decide), coms_k (by decide), tls_down (by decide) (by decide) (by decide) e7, tls_down (by decide) (by decide) (by decide) e7, clk_down h7, clk_k (by omega)]
  exact ⟨rfl, rfl⟩
theorem hour_lead {j : Nat} (h : fl_hour n σ 5 j = nI 2) : fl_hour n σ 8 j = σ 8 j := by
  unfold fl_hour fl_tick at h ⊢
  rw [zU_ne (by decide), coms_k (by decide)] at h ⊢
  rw [tls_8lead j n h, clk_k (by omega)]
theorem hour_ln (hI : fl_Iv n σ) {j : Nat} (hj : j < n) : fl_ln (fl_hour n σ) j ≤ fl_ln σ j + n ∧ fl_ln σ j ≤ fl_ln (fl_hour n σ) j + n := by
  have h := tls_ln (fl_clk_Iv hI) hj n (Nat.le_refl n)
  rw [fl_ln_cell (σ := fl_fold (fl_clk1 n) n σ) (τ := σ) (by rw [clk_k (by omega)])] at h
  unfold fl_hour fl_tick
  rw [fl_ln_cell (σ := zU _ _ _ _) (τ := fl_fold (fl_tls1 n) n (fl_fold (fl_clk1 n) n σ)) (by rw [zU_ne (by decide), coms_k (by decide)])]
  exact h
end BOUND
