/-! each step keeps what a fleet is (fl_Iv); and the steps of the loops -/
section FLSTEPS
variable {n : Nat} {σ : zF}
theorem fl_Iv.P (h : fl_Iv n σ) (k i : Nat) (v : Int32) (hk : k = 1 ∨ k = 2 ∨ k = 3 ∨ k = 4 ∨ k = 5 ∨ k = 6 ∨ k = 10 ∨ k = 11) : fl_Iv n (zU σ k i v) := h.U k i v (by omega) (by omega) (by omega) (by omega)
theorem fl_take_Iv (h : fl_Iv n σ) (b : Nat) (g : Int32) : fl_Iv n (fl_take σ b g) := ((h.P 3 b g (by omega)).P 4 b (-1) (by omega)).P 5 b (nI 0) (by omega)
theorem fl_hof_Iv (h : fl_Iv n σ) (b : Nat) (g : Int32) : fl_Iv n (fl_hof σ b g) := by
  unfold fl_hof
  split
  · exact h
  · exact fl_take_Iv h b g
theorem fl_meet_Iv (h : fl_Iv n σ) (x o : Nat) : fl_Iv n (fl_meet σ x o) := by
  unfold fl_meet
  split
  · exact fl_take_Iv h x _
  · exact fl_hof_Iv h o _
theorem fl_meet_ge {x o : Nat} (h : ¬ σ 3 x < σ 3 o) : fl_meet σ x o = fl_hof σ o (σ 3 x) := by rw [fl_meet, if_neg h]
theorem fl_meet_lt {x o : Nat} (h : σ 3 x < σ 3 o) : fl_meet σ x o = fl_take σ x (σ 3 o) := by rw [fl_meet, if_pos h]
theorem fl_votT_Iv (h : fl_Iv n σ) (b o : Nat) : fl_Iv n (fl_votT σ b o) := by
  unfold fl_votT
  split
  · exact (h.P 4 o (nI b) (by omega)).P 2 o _ (by omega)
  · exact h
theorem fl_votS_Iv (h : fl_Iv n σ) (b o : Nat) : fl_Iv n (fl_votS σ b o) := by
  unfold fl_votS
  split
  · exact fl_take_Iv h b _
  · exact fl_votT_Iv (fl_hof_Iv h o _) b o
theorem fl_std0_Iv (h : fl_Iv n σ) (b : Nat) : fl_Iv n (fl_std0 σ b) := (((((h.U0 2 _ (by decide)).P 3 b _ (by omega)).P 5 b _ (by omega)).P 4 b _ (by omega)).P 2 b _ (by omega))
theorem fl_askL_Iv (b : Nat) : ∀ (f o v : Nat) (σ : zF), fl_Iv n σ → fl_Iv n (fl_askL b f o v σ).2
  | 0, _, _, _, h => h
  | f + 1, o, v, σ, h => by
    unfold fl_askL
    split
    · split
      · exact fl_askL_Iv b f (o + 1) _ _ (fl_votS_Iv h b o)
      · exact fl_askL_Iv b f (o + 1) _ _ h
    · exact h
theorem fl_ask_Iv (h : fl_Iv n σ) (b o v : Nat) : fl_Iv n (fl_ask n b o v σ).2 := fl_askL_Iv b (n - o) o v σ h
theorem fl_ask_go (n b o v : Nat) (σ : zF) (ho : o < n) (h5 : σ 5 b = nI 1) : fl_ask n b o v σ = if o ≠ b ∧ fl_hear σ b o = true then fl_ask n b (o + 1) (if fl_votB σ b o = true then v + 1 else v) (fl_votS σ b o) else fl_ask n b (o + 1) v σ := by
  unfold fl_ask
  rw [show n - o = (n - (o + 1)) + 1 by omega]
  show (if σ 5 b = nI 1 then _ else _) = _
  rw [if_pos h5]
theorem fl_ask_end (n b o v : Nat) (σ : zF) (ho : n ≤ o) : fl_ask n b o v σ = (v, σ) := by
  unfold fl_ask
  rw [show n - o = 0 by omega]
  rfl
theorem fl_ask_stop (n b o v : Nat) (σ : zF) (h5 : ¬ σ 5 b = nI 1) : fl_ask n b o v σ = (v, σ) := by
  unfold fl_ask
  cases n - o with
  | zero => rfl
  | succ f =>
    show (if σ 5 b = nI 1 then _ else _) = _
    rw [if_neg h5]
theorem fl_stdE_Iv {r : Nat × zF} (h : fl_Iv n r.2) (b : Nat) : fl_Iv n (fl_stdE n b r) := by
  unfold fl_stdE
  split
  · exact (h.P 5 b _ (by omega)).U0 3 _ (by decide)
  · exact h
theorem fl_stand_Iv (h : fl_Iv n σ) (b : Nat) : fl_Iv n (fl_stand n σ b) := fl_stdE_Iv (fl_ask_Iv (fl_std0_Iv h b) b 0 1) b
theorem fl_app_Iv (h : fl_Iv n σ) (b : Nat) (x y : Int32) (hb : fl_ln σ b < 10) : fl_Iv n (fl_app σ b x y) := ((h.P 10 _ x (by omega)).P 11 _ y (by omega)).U8 b _ (by omega)
theorem fl_agrL_le0 (σ : zF) (x y : Nat) : ∀ (f k : Nat), fl_agrL σ x y f k ≤ k + f
  | 0, k => Nat.le_refl _
  | f + 1, k => by
    unfold fl_agrL
    have h := fl_agrL_le0 σ x y f (k + 1)
    split <;> omega
theorem fl_agr_m0 (σ : zF) (x y : Nat) : fl_agr σ x y ≤ min (fl_ln σ x) (fl_ln σ y) := by
  have h := fl_agrL_le0 σ x y (min (fl_ln σ x) (fl_ln σ y)) 0
  unfold fl_agr
  omega
theorem fl_mend_Iv (h : fl_Iv n σ) {t o : Nat} (ht : t < n) (ho : o < n) : fl_Iv n (fl_mend σ t o) := by
  have h1 := h.lnT ht
  have h2 := h.lnT ho
  unfold fl_mend
  split
  · exact h.U8 o _ (by omega)
  · split
    · exact fl_app_Iv h o _ _ (by omega)
    · exact h
theorem fl_lrn_Iv (h : fl_Iv n σ) {t o : Nat} (ht : t < n) (ho : o < n) : fl_Iv n (fl_lrn σ t o) := by
  have h1 := h.knT ht
  have h2 := h.knT ho
  exact h.U9 o _ (by omega)
theorem fl_got_Iv (h : fl_Iv n σ) (o : Nat) : fl_Iv n (fl_got σ o) := (h.P 5 o _ (by omega)).P 2 o _ (by omega)
theorem fl_lose_Iv (h : fl_Iv n σ) (b : Bool) : fl_Iv n (fl_lose σ b) := by
  unfold fl_lose
  split
  · exact h.U0 4 _ (by decide)
  · exact h
theorem fl_telT_Iv (h : fl_Iv n σ) {t o : Nat} (ht : t < n) (ho : o < n) : fl_Iv n (fl_telT σ t o) := fl_lrn_Iv (fl_lose_Iv (fl_mend_Iv (fl_got_Iv h o) ht ho) _) ht ho
theorem fl_tel_Iv (h : fl_Iv n σ) {t o : Nat} (ht : t < n) (ho : o < n) : fl_Iv n (fl_tel σ t o) := by
  unfold fl_tel
  split
  · exact fl_take_Iv h t _
  · exact fl_telT_Iv (fl_hof_Iv h o _) ht ho
theorem fl_telL_Iv {t : Nat} (ht : t < n) : ∀ (f o : Nat) (σ : zF), o + f ≤ n → fl_Iv n σ → fl_Iv n (fl_telL t f o σ)
  | 0, _, _, _, h => h
  | f + 1, o, σ, hf, h => by
    unfold fl_telL
    split
    · split
      · exact fl_telL_Iv ht f (o + 1) _ (by omega) (fl_tel_Iv h ht (by omega))
      · exact fl_telL_Iv ht f (o + 1) _ (by omega) h
    · exact h
theorem fl_tells_Iv (h : fl_Iv n σ) {t : Nat} (ht : t < n) : fl_Iv n (fl_tells n t 0 σ) := fl_telL_Iv ht (n - 0) 0 σ (by omega) h
theorem fl_tells_go (n t o : Nat) (σ : zF) (ho : o < n) (h5 : σ 5 t = nI 2) : fl_tells n t o σ = if o ≠ t ∧ fl_hear σ t o = true then fl_tells n t (o + 1) (fl_tel σ t o) else fl_tells n t (o + 1) σ := by
  unfold fl_tells
  rw [show n - o = (n - (o + 1)) + 1 by omega]
  show (if σ 5 t = nI 2 then _ else _) = _
  rw [if_pos h5]
theorem fl_tells_end (n t o : Nat) (σ : zF) (ho : n ≤ o) : fl_tells n t o σ = σ := by
  unfold fl_tells
  rw [show n - o = 0 by omega]
  rfl
theorem fl_tells_stop (n t o : Nat) (σ : zF) (h5 : ¬ σ 5 t = nI 2) : fl_tells n t o σ = σ := by
  unfold fl_tells
  cases n - o with
  | zero => rfl
  | succ f =>
    show (if σ 5 t = nI 2 then _ else _) = _
    rw [if_neg h5]
theorem fl_comL_Iv (h : fl_Iv n σ) (b : Nat) : ∀ k : Nat, k ≤ 10 → fl_Iv n (fl_comL n σ b k)
  | 0, _ => h
  | k + 1, hk => by
    unfold fl_comL
    split
    · split
      · exact h.U9 b _ hk
      · exact fl_comL_Iv h b k (by omega)
    · exact h
theorem fl_com_Iv (h : fl_Iv n σ) {b : Nat} (hb : b < n) : fl_Iv n (fl_com n σ b) := fl_comL_Iv h b _ (h.lnT hb)
theorem fl_fold_Iv {f : zF → Nat → zF} {m : Nat} (hf : ∀ τ i, i < m → fl_Iv n τ → fl_Iv n (f τ i)) (h : fl_Iv n σ) : ∀ i : Nat, i ≤ m → fl_Iv n (fl_fold f i σ)
  | 0, _ => h
  | i + 1, hi => hf _ i (by omega) (fl_fold_Iv hf h i (by omega))
theorem fl_clk1_Iv (h : fl_Iv n σ) {i : Nat} (_ : i < n) : fl_Iv n (fl_clk1 n σ i) := by
  unfold fl_clk1
  split
  · split
    · exact fl_stand_Iv (h.P 2 i _ (by omega)) i
    · exact h.P 2 i _ (by omega)
  · exact h
theorem fl_tls1_Iv (h : fl_Iv n σ) {i : Nat} (hi : i < n) : fl_Iv n (fl_tls1 n σ i) := by
  unfold fl_tls1
  split
  · exact fl_tells_Iv h hi
  · exact h
theorem fl_coms1_Iv (h : fl_Iv n σ) {i : Nat} (hi : i < n) : fl_Iv n (fl_coms1 n σ i) := by
  unfold fl_coms1
  split
  · exact fl_com_Iv h hi
  · exact h
theorem fl_clk_Iv (h : fl_Iv n σ) : fl_Iv n (fl_fold (fl_clk1 n) n σ) := fl_fold_Iv (fun _ _ hi hτ => fl_clk1_Iv hτ hi) h n (Nat.le_refl n)
theorem fl_tls_Iv (h : fl_Iv n σ) : fl_Iv n (fl_fold (fl_tls1 n) n σ) := fl_fold_Iv (fun _ _ hi hτ => fl_tls1_Iv hτ hi) h n (Nat.le_refl n)
theorem fl_coms_Iv (h : fl_Iv n σ) : fl_Iv n (fl_fold (fl_coms1 n) n σ) := fl_fold_Iv (fun _ _ hi hτ => fl_coms1_Iv hτ hi) h n (Nat.le_refl n)
theorem fl_tick_Iv (h : fl_Iv n σ) : fl_Iv n (fl_tick σ) := h.U0 1 _ (by decide)
theorem fl_hour_Iv (h : fl_Iv n σ) : fl_Iv n (fl_hour n σ) := fl_tick_Iv (fl_coms_Iv (fl_tls_Iv (fl_clk_Iv h)))
theorem fl_hours_Iv (h : fl_Iv n σ) : ∀ k : Nat, fl_Iv n (fl_hours n k σ)
  | 0 => h
  | k + 1 => fl_hour_Iv (fl_hours_Iv h k)
end FLSTEPS
theorem fl_ct_le (p : Nat → Bool) : ∀ i : Nat, fl_ct p i ≤ i
  | 0 => Nat.le_refl 0
  | i + 1 => by
    have h := fl_ct_le p i
    unfold fl_ct
    split <;> omega
theorem fl_any_of {p : Nat → Bool} {i : Nat} (hp : p i = true) : ∀ n : Nat, i < n → fl_any p n = true
  | 0, h => absurd h (Nat.not_lt_zero i)
  | n + 1, h => by
    unfold fl_any
    rcases Nat.lt_or_ge i n with q | q
    · rw [fl_any_of hp n q]; rfl
    · rw [show n = i by omega, hp, Bool.or_true]
