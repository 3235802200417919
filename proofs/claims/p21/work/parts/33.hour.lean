/-! An hour keeps a fleet safe, and what it leaves as it was -/
theorem fl_hear_cells {σ τ : zF} (h6 : σ 6 = τ 6) (h7 : σ 7 = τ 7) : fl_hear σ = fl_hear τ := by
  funext x y
  unfold fl_hear
  rw [h6, h7]
theorem hear_iff {σ : zF} {x y : Nat} : fl_hear σ x y = true ↔ ¬ σ 7 x = 0 ∧ ¬ σ 7 y = 0 ∧ σ 6 x = σ 6 y := by
  unfold fl_hear
  rw [decide_eq_true_iff]
theorem lead_iff {σ : zF} {x : Nat} : fl_lead σ x = true ↔ ¬ σ 7 x = 0 ∧ σ 5 x = nI 2 := by
  unfold fl_lead
  rw [decide_eq_true_iff]
section TELEFF
variable (σ : zF) (t o : Nat)
theorem tel_k {k : Nat} (h : k = 1 ∨ k = 6 ∨ k = 7) : fl_tel σ t o k = σ k := by
  unfold fl_tel
  split
  · exact take_k σ t _ (by omega) (by omega) (by omega)
  · rw [telT_k _ o t (by omega) (by omega) (by omega) (by omega) (by omega) (by omega) (by omega), hof_k σ o _ (by omega) (by omega) (by omega)]
theorem tel_oth {j : Nat} (ht : j ≠ t) (ho : j ≠ o) {k : Nat} (h0 : k ≠ 0) (h10 : k ≠ 10) (h11 : k ≠ 11) : fl_tel σ t o k j = σ k j := by
  unfold fl_tel
  split
  · by_cases h3 : k = 3
    · rw [h3, take_3, if_neg ht]
    · by_cases h4 : k = 4
      · rw [h4, take_4, if_neg ht]
      · by_cases h5 : k = 5
        · rw [h5, take_5, if_neg ht]
        · rw [take_k σ t _ h3 h4 h5]
  · rw [telT_oth _ o t ho h0 h10 h11, hof_oth σ o _ ho k h10 h11]
theorem tel_5 (j : Nat) : fl_tel σ t o 5 j = nI 2 → σ 5 j = nI 2 := by
  unfold fl_tel
  split
  · rw [take_5]
    split
    · exact fun h => absurd h nI02
    · exact id
  · rw [telT_5]
    split
    · exact fun h => absurd h nI02
    · rename_i hj
      rw [hof_oth σ o _ hj 5 (by decide) (by decide)]
      exact id
theorem tel_8 {j : Nat} (ho : j ≠ o) : fl_tel σ t o 8 j = σ 8 j := by
  unfold fl_tel
  split
  · rw [take_k σ t _ (by decide) (by decide) (by decide)]
  · rw [telT_oth _ o t ho (by decide) (by decide) (by decide), hof_k σ o _ (by decide) (by decide) (by decide)]
/-- the teller still leads: then the other one follows, in its term -/
theorem tel_on (hto : o ≠ t) (h : fl_tel σ t o 5 t = nI 2) : ¬ σ 3 t < σ 3 o ∧ fl_tel σ t o 5 o = nI 0 ∧ fl_tel σ t o 3 o = σ 3 t ∧ fl_tel σ t o 3 t = σ 3 t := by
  have hot : t ≠ o := fun z => hto z.symm
  by_cases hlt : σ 3 t < σ 3 o
  · rw [fl_tel, if_pos hlt, take_5, if_pos rfl] at h
    exact absurd h nI02
  · refine ⟨hlt, ?_⟩
    rw [fl_tel, if_neg hlt, telT_5, if_pos rfl, telT_k _ o t (by decide) (by decide) (by decide) (by decide) (by decide) (by decide) (by decide), hof_same σ o _ hlt, hof_oth σ o _ hot 3 (by decide) (by decide)]
    exact ⟨rfl, rfl, rfl⟩
end TELEFF
section TELLOOP
variable {n t : Nat}
theorem telL_k {k : Nat} (h : k = 1 ∨ k = 6 ∨ k = 7) : ∀ (f o : Nat) (σ : zF), fl_telL t f o σ k = σ k
  | 0, _, _ => rfl
  | f + 1, o, σ => by
    unfold fl_telL
    split
    · split
      · rw [telL_k h f, tel_k σ t o h]
      · exact telL_k h f _ _
    · rfl
theorem telL_5 (j : Nat) : ∀ (f o : Nat) (σ : zF), fl_telL t f o σ 5 j = nI 2 → σ 5 j = nI 2
  | 0, _, _ => id
  | f + 1, o, σ => by
    unfold fl_telL
    split
    · split
      · exact fun h => tel_5 σ t o j (telL_5 j f _ _ h)
      · exact telL_5 j f _ _
    · exact id
theorem telL_oth {j : Nat} (hj : j ≠ t) {k : Nat} (h0 : k ≠ 0) (h10 : k ≠ 10) (h11 : k ≠ 11) : ∀ (f o : Nat) (σ : zF), fl_hear σ t j = false → fl_telL t f o σ k j = σ k j
  | 0, _, _, _ => rfl
  | f + 1, o, σ, hh => by
    unfold fl_telL
    split
    · split
      · rename_i hc
        have hjo : j ≠ o := fun z => by rw [z, hc.2] at hh; exact absurd hh (by decide)
        rw [telL_oth hj h0 h10 h11 f _ _ (by rw [fl_hear_cells (τ := σ) (tel_k σ t o (by omega)) (tel_k σ t o (by omega))]; exact hh), tel_oth σ t o hj hjo h0 h10 h11]
      · exact telL_oth hj h0 h10 h11 f _ _ hh
    · rfl
theorem telL_8lt (j : Nat) : ∀ (f o : Nat) (σ : zF), j < o → fl_telL t f o σ 8 j = σ 8 j
  | 0, _, _, _ => rfl
  | f + 1, o, σ, hj => by
    unfold fl_telL
    split
    · split
      · rw [telL_8lt j f _ _ (by omega), tel_8 σ t o (by omega)]
      · exact telL_8lt j f _ _ (by omega)
    · rfl
theorem telL_8t : ∀ (f o : Nat) (σ : zF), fl_telL t f o σ 8 t = σ 8 t
  | 0, _, _ => rfl
  | f + 1, o, σ => by
    unfold fl_telL
    split
    · split
      · rename_i hc
        rw [telL_8t f, tel_8 σ t o (fun z => hc.1 z.symm)]
      · exact telL_8t f _ _
    · rfl
theorem telL_8lead (j : Nat) : ∀ (f o : Nat) (σ : zF), fl_telL t f o σ 5 j = nI 2 → fl_telL t f o σ 8 j = σ 8 j
  | 0, _, _, _ => rfl
  | f + 1, o, σ, h => by
    unfold fl_telL at h ⊢
    split at h
    · rename_i h5
      rw [if_pos h5]
      split at h
      · rename_i hc
        rw [if_pos hc, telL_8lead j f _ _ h]
        by_cases hjo : j = o
        · have h1 := telL_5 j f _ _ h
          rw [hjo] at h1 ⊢
          by_cases hlt : σ 3 t < σ 3 o
          · rw [fl_tel, if_pos hlt, take_k σ t _ (by decide) (by decide) (by decide)]
          · rw [fl_tel, if_neg hlt, telT_5, if_pos rfl] at h1
            exact absurd h1 nI02
        · exact tel_8 σ t o hjo
      · rename_i hc
        rw [if_neg hc]
        exact telL_8lead j f _ _ h
    · rename_i h5
      rw [if_neg h5]
theorem mend_ln {σ : zF} (hI : fl_Iv n σ) {o : Nat} (ht : t < n) (ho : o < n) : fl_ln (fl_mend σ t o) o ≤ fl_ln σ o + 1 ∧ fl_ln σ o ≤ fl_ln (fl_mend σ t o) o + 1 := by
  have hm := agr_le σ t o
  have l1 := hI.lnT ht
  have l2 := hI.lnT ho
  unfold fl_mend
  split
  · rw [fl_ln_U8 σ o o _ (by omega), if_pos rfl]
    omega
  · split
    · rw [fl_app_lnJ σ o _ _ (by omega) o, if_pos rfl]
      omega
    · omega
theorem fl_ln_cell {σ τ : zF} {j : Nat} (h : σ 8 j = τ 8 j) : fl_ln σ j = fl_ln τ j := by
  unfold fl_ln
  rw [h]
theorem tel_ln {σ : zF} (hI : fl_Iv n σ) {o : Nat} (ht : t < n) (ho : o < n) : fl_ln (fl_tel σ t o) o ≤ fl_ln σ o + 1 ∧ fl_ln σ o ≤ fl_ln (fl_tel σ t o) o + 1 := by
  unfold fl_tel
  split
  · rw [fl_ln_cell (τ := σ) (by rw [take_k σ t _ (by decide) (by decide) (by decide)])]
    omega
  · have I1 := fl_hof_Iv hI o (σ 3 t)
    have e1 : fl_ln (fl_hof σ o (σ 3 t)) o = fl_ln σ o := fl_ln_cell (by rw [hof_k σ o _ (by decide) (by decide) (by decide)])
    unfold fl_telT
    have I2 := fl_got_Iv I1 o
    have e2 : fl_ln (fl_got (fl_hof σ o (σ 3 t)) o) o = fl_ln σ o := by rw [← e1]; exact fl_ln_cell (by rw [got_k _ o (by decide) (by decide)])
    rw [fl_ln_cell (τ := fl_mend (fl_got (fl_hof σ o (σ 3 t)) o) t o) (by rw [lrn_k _ o t (by decide), lose_k _ (by decide)]), ← e2]
    exact mend_ln I2 ht ho
theorem telL_ln {j : Nat} (ht : t < n) (hj : j < n) : ∀ (f o : Nat) (σ : zF), o + f = n → fl_Iv n σ → fl_ln (fl_telL t f o σ) j ≤ fl_ln σ j + 1 ∧ fl_ln σ j ≤ fl_ln (fl_telL t f o σ) j + 1
  | 0, _, _, _, _ => by
    unfold fl_telL
    omega
  | f + 1, o, σ, hf, hI => by
    unfold fl_telL
    split
    · split
      · by_cases hjo : j = o
        · rw [hjo, fl_ln_cell (τ := fl_tel σ t o) (telL_8lt o f (o + 1) _ (by omega))]
          exact tel_ln hI ht (by omega)
        · have := telL_ln ht hj f (o + 1) _ (by omega) (fl_tel_Iv hI ht (by omega : o < n))
          rw [fl_ln_cell (τ := σ) (tel_8 σ t o hjo)] at this
          exact this
      · exact telL_ln ht hj f (o + 1) σ (by omega) hI
    · omega
variable {ld : Int → Option Nat} {tl : Int → List rE} {cm : Int → Nat}
def Hd (σ : zF) (t o : Nat) : Prop := σ 5 t = nI 2 → ∀ j, j < o → j ≠ t → fl_hear σ t j = true → σ 3 j = σ 3 t ∧ σ 5 j = nI 0
theorem fJ_telL (hn : n ≤ 7) (ht : t < n) : ∀ (f o : Nat) (σ : zF), o + f = n → fl_Iv n σ → fJ n σ ld tl cm → Hd σ t o → fJ n (fl_telL t f o σ) ld tl cm ∧ Hd (fl_telL t f o σ) t n
  | 0, o, σ, hf, _, h, hd => by
    rw [Nat.add_zero] at hf
    subst hf
    exact ⟨h, hd⟩
  | f + 1, o, σ, hf, hI, h, hd => by
    unfold fl_telL
    by_cases h5 : σ 5 t = nI 2
    · rw [if_pos h5]
      by_cases hc : o ≠ t ∧ fl_hear σ t o = true
      · rw [if_pos hc]
        refine fJ_telL hn ht f (o + 1) _ (by omega) (fl_tel_Iv hI ht (by omega)) (h.tel hn hI ht (by omega) hc.1 h5) (fun h5' j hj hjt hh => ?_)
        obtain ⟨q1, q2, q3, q4⟩ := tel_on σ t o hc.1 h5'
        rw [fl_hear_cells (τ := σ) (tel_k σ t o (by omega)) (tel_k σ t o (by omega))] at hh
        rw [q4]
        by_cases hjo : j = o
        · rw [hjo]
          exact ⟨q3, q2⟩
        · rw [tel_oth σ t o hjt hjo (by decide) (by decide) (by decide), tel_oth σ t o hjt hjo (by decide) (by decide) (by decide)]
          exact hd h5 j (by omega) hjt hh
      · rw [if_neg hc]
        refine fJ_telL hn ht f (o + 1) σ (by omega) hI h (fun _ j hj hjt hh => ?_)
        by_cases hjo : j = o
        · exact absurd ⟨hjo ▸ hjt, hjo ▸ hh⟩ hc
        · exact hd h5 j (by omega) hjt hh
    · rw [if_neg h5]
      exact ⟨h, fun z => absurd z h5⟩
/-- after the boats below i have told: those that hear one of them that leads are in its term -/
def Hq (n : Nat) (σ : zF) (i : Nat) : Prop := ∀ b, b < i → fl_lead σ b = true → ∀ o, o < n → o ≠ b → fl_hear σ b o = true → σ 3 o = σ 3 b ∧ σ 5 o = nI 0
theorem fJ_tls (hn : n ≤ 7) {σ : zF} (hI : fl_Iv n σ) (h : fJ n σ ld tl cm) : ∀ i, i ≤ n → fJ n (fl_fold (fl_tls1 n) i σ) ld tl cm ∧ Hq n (fl_fold (fl_tls1 n) i σ) i
  | 0, _ => ⟨h, fun b hb => absurd hb (Nat.not_lt_zero b)⟩
  | i + 1, hi => by
    obtain ⟨J, Q⟩ := fJ_tls hn hI h i (by omega)
    have I := fl_fold_Iv (f := fl_tls1 n) (m := n) (fun _ _ hi hτ => fl_tls1_Iv hτ hi) hI i (by omega)
    show fJ n (fl_tls1 n (fl_fold (fl_tls1 n) i σ) i) ld tl cm ∧ Hq n (fl_tls1 n (fl_fold (fl_tls1 n) i σ) i) (i + 1)
    generalize fl_fold (fl_tls1 n) i σ = τ at J Q I
    unfold fl_tls1
    by_cases hl : fl_lead τ i = true
    · rw [if_pos hl]
      obtain ⟨J2, D2⟩ := fJ_telL (t := i) hn (by omega) (n - 0) 0 τ (by omega) I J (fun _ j hj => absurd hj (Nat.not_lt_zero j))
      refine ⟨J2, fun b hb hlb o ho hob hh => ?_⟩
      have e6 : fl_tells n i 0 τ 6 = τ 6 := telL_k (by omega) _ _ _
      have e7 : fl_tells n i 0 τ 7 = τ 7 := telL_k (by omega) _ _ _
      have hh0 := hh
      rw [fl_hear_cells e6 e7] at hh
      by_cases hbi : b = i
      · subst hbi
        exact D2 (lead_iff.mp hlb).2 o ho hob hh0
      · obtain ⟨u1, u2⟩ := lead_iff.mp hlb
        rw [e7] at u1
        have u3 : τ 5 b = nI 2 := telL_5 b _ _ _ u2
        have hlb' : fl_lead τ b = true := lead_iff.mpr ⟨u1, u3⟩
        obtain ⟨v1, v2⟩ := lead_iff.mp hl
        have hib : fl_hear τ i b = false := by
          apply Bool.eq_false_iff.mpr
          intro z
          obtain ⟨z1, z2, z3⟩ := hear_iff.mp z
          have := (Q b (by omega) hlb' i (by omega) (fun z => hbi z.symm) (hear_iff.mpr ⟨z2, z1, z3.symm⟩)).2
          rw [v2] at this
          exact nI02 this.symm
        have hoi : o ≠ i := fun z => by
          rw [z] at hh
          obtain ⟨z1, z2, z3⟩ := hear_iff.mp hh
          rw [hear_iff.mpr ⟨z2, z1, z3.symm⟩] at hib
          exact absurd hib (by decide)
        have hio : fl_hear τ i o = false := by
          apply Bool.eq_false_iff.mpr
          intro z
          obtain ⟨z1, z2, z3⟩ := hear_iff.mp z
          obtain ⟨w1, w2, w3⟩ := hear_iff.mp hh
          rw [hear_iff.mpr ⟨z1, w1, z3.trans w3.symm⟩] at hib
          exact absurd hib (by decide)
        have eo := fun k h0 h10 h11 => telL_oth (t := i) (j := o) hoi (k := k) h0 h10 h11 (n - 0) 0 τ hio
        have eb := fun k h0 h10 h11 => telL_oth (t := i) (j := b) hbi (k := k) h0 h10 h11 (n - 0) 0 τ hib
        obtain ⟨x1, x2⟩ := Q b (by omega) hlb' o ho hob hh
        show fl_telL i (n - 0) 0 τ 3 o = fl_telL i (n - 0) 0 τ 3 b ∧ fl_telL i (n - 0) 0 τ 5 o = nI 0
        rw [eo 3 (by decide) (by decide) (by decide), eb 3 (by decide) (by decide) (by decide), eo 5 (by decide) (by decide) (by decide)]
        exact ⟨x1, x2⟩
    · rw [if_neg hl]
      refine ⟨J, fun b hb hlb o ho hob hh => ?_⟩
      by_cases hbi : b = i
      · subst hbi
        exact absurd hlb hl
      · exact Q b (by omega) hlb o ho hob hh
end TELLOOP
section COMMIT
variable {n : Nat} {ld : Int → Option Nat} {tl : Int → List rE}
theorem comL_k {σ : zF} {b k : Nat} (h : k ≠ 9) : ∀ c : Nat, fl_comL n σ b c k = σ k
  | 0 => rfl
  | c + 1 => by
    unfold fl_comL
    split
    · split
      · rw [zU_ne h]
      · exact comL_k h c
    · rfl
theorem fJ_comL {cm : Int → Nat} {σ : zF} (hI : fl_Iv n σ) (h : fJ n σ ld tl cm) {b : Nat} (hb : b < n) (h5 : σ 5 b = nI 2) (hh : ∀ o, o < n → o ≠ b → fl_hear σ b o = true → σ 3 o = σ 3 b) : ∀ c, c ≤ fl_ln σ b → ∃ cm', fJ n (fl_comL n σ b c) ld tl cm'
  | 0, _ => ⟨cm, h⟩
  | c + 1, hc => by
    have hl := hI.lnT hb
    unfold fl_comL
    split
    · split
      · rename_i h1 h2
        have hk : ∀ k, k ≠ 9 → zU σ 9 b (nI (c + 1)) k = σ k := fun k h9 => zU_ne h9
        have key := rf_com h (b := b) (k := c + 1) (e := (σ 10 (b * 10 + c), σ 11 (b * 10 + c))) (K' := fl_kn (zU σ 9 b (nI (c + 1)))) hb h5 (by omega) (by rw [fL_len]; omega) (by rw [Nat.add_sub_cancel]; exact fL_get σ b (by omega)) (congrArg Int32.toInt h2.1) ⟨fl_agrees σ b (c + 1), h2.2, fun o ho hp => by
          unfold fl_agrees at hp
          rw [Bool.and_eq_true, decide_eq_true_iff] at hp
          refine ⟨?_, agr_pxT hp.2⟩
          by_cases e : o = b
          · rw [e]
          · exact congrArg Int32.toInt (hh o ho e hp.1)⟩ (by rw [fl_kn_U9 σ b b _ (by omega), if_pos rfl]) (fun j hj => by rw [fl_kn_U9 σ b j _ (by omega), if_neg hj])
        obtain ⟨cm', key⟩ := key
        refine ⟨cm', ?_⟩
        unfold fJ
        rw [fL_cells (τ := σ) (hk 8 (by decide)) (hk 10 (by decide)) (hk 11 (by decide)), fT_cells (τ := σ) (hk 3 (by decide)), hk 4 (by decide), hk 5 (by decide)]
        exact key
      · exact fJ_comL hI h hb h5 hh c (by omega)
    · exact ⟨cm, h⟩
theorem coms1_k {σ : zF} {i k : Nat} (h : k ≠ 9) : fl_coms1 n σ i k = σ k := by
  unfold fl_coms1
  split
  · exact comL_k h _
  · rfl
theorem coms_k {σ : zF} {k : Nat} (h : k ≠ 9) : ∀ i, fl_fold (fl_coms1 n) i σ k = σ k
  | 0 => rfl
  | i + 1 => by
    show fl_coms1 n (fl_fold (fl_coms1 n) i σ) i k = σ k
    rw [coms1_k h, coms_k h i]
theorem fJ_coms {σ : zF} {cm : Int → Nat} (hI : fl_Iv n σ) (h : fJ n σ ld tl cm) (hq : Hq n σ n) : ∀ i, i ≤ n → ∃ cm', fJ n (fl_fold (fl_coms1 n) i σ) ld tl cm'
  | 0, _ => ⟨cm, h⟩
  | i + 1, hi => by
    obtain ⟨cm', J⟩ := fJ_coms hI h hq i (by omega)
    have I := fl_fold_Iv (f := fl_coms1 n) (m := n) (fun _ _ hi hτ => fl_coms1_Iv hτ hi) hI i (by omega)
    have ek := fun k h9 => coms_k (n := n) (σ := σ) (k := k) h9 i
    show ∃ cm', fJ n (fl_coms1 n (fl_fold (fl_coms1 n) i σ) i) ld tl cm'
    generalize fl_fold (fl_coms1 n) i σ = τ at J I ek
    unfold fl_coms1
    split
    · rename_i hl
      refine fJ_comL I J (by omega) (lead_iff.mp hl).2 (fun o ho hob hh => ?_) _ (Nat.le_refl _)
      have hl' : fl_lead σ i = true := by
        rw [lead_iff] at hl ⊢
        rw [← ek 7 (by decide), ← ek 5 (by decide)]
        exact hl
      rw [fl_hear_cells (ek 6 (by decide)) (ek 7 (by decide))] at hh
      rw [ek 3 (by decide)]
      exact (hq i (by omega) hl' o ho hob hh).1
    · exact ⟨cm', J⟩
end COMMIT
