/-! The abstract picture of a fleet's contents, and that each step of an hour keeps it safe -/
def fT (σ : zF) (i : Nat) : Int := (σ 3 i).toInt
def fL (σ : zF) (i : Nat) : List rE := (List.range (fl_ln σ i)).map (fun k => (σ 10 (i * 10 + k), σ 11 (i * 10 + k)))
def fJ (n : Nat) (σ : zF) (ld : Int → Option Nat) (tl : Int → List rE) (cm : Int → Nat) : Prop := rfI n (fT σ) (σ 4) (σ 5) (fL σ) (fl_kn σ) ld tl cm
theorem fL_len (σ : zF) (i : Nat) : (fL σ i).length = fl_ln σ i := by simp [fL]
theorem fL_get (σ : zF) (i : Nat) {k : Nat} (h : k < fl_ln σ i) : (fL σ i)[k]? = some (σ 10 (i * 10 + k), σ 11 (i * 10 + k)) := by
  unfold fL
  rw [List.getElem?_map, List.getElem?_range h]
  rfl
theorem fL_inv {σ : zF} {i k : Nat} {e : rE} (h : (fL σ i)[k]? = some e) : k < fl_ln σ i ∧ e = (σ 10 (i * 10 + k), σ 11 (i * 10 + k)) := by
  have hl := (List.getElem?_eq_some_iff.mp h).1
  rw [fL_len] at hl
  rw [fL_get σ i hl] at h
  exact ⟨hl, (Option.some.inj h).symm⟩
theorem fL_ext {σ τ : zF} {i j : Nat} (h8 : fl_ln σ i = fl_ln τ j) (h : ∀ k, k < fl_ln σ i → σ 10 (i * 10 + k) = τ 10 (j * 10 + k) ∧ σ 11 (i * 10 + k) = τ 11 (j * 10 + k)) : fL σ i = fL τ j := by
  unfold fL
  rw [← h8]
  apply List.map_congr_left
  intro k hk
  obtain ⟨h1, h2⟩ := h k (List.mem_range.mp hk)
  rw [h1, h2]
theorem fL_cells {σ τ : zF} (h8 : σ 8 = τ 8) (h10 : σ 10 = τ 10) (h11 : σ 11 = τ 11) : fL σ = fL τ := by
  funext i
  unfold fL fl_ln
  rw [h8, h10, h11]
theorem fl_kn_cells {σ τ : zF} (h9 : σ 9 = τ 9) : fl_kn σ = fl_kn τ := by
  funext i
  unfold fl_kn
  rw [h9]
theorem fl_nw_cells {σ τ : zF} (h8 : σ 8 = τ 8) (h10 : σ 10 = τ 10) : fl_nw σ = fl_nw τ := by
  funext x y
  unfold fl_nw fl_last fl_ln
  rw [h8, h10]
theorem fT_cells {σ τ : zF} (h3 : σ 3 = τ 3) : fT σ = fT τ := by
  funext i
  unfold fT
  rw [h3]
theorem fJ_cells {n : Nat} {σ τ : zF} {ld : Int → Option Nat} {tl : Int → List rE} {cm : Int → Nat} (h : fJ n σ ld tl cm) (h3 : τ 3 = σ 3) (h4 : τ 4 = σ 4) (h5 : τ 5 = σ 5) (h8 : τ 8 = σ 8) (h9 : τ 9 = σ 9) (h10 : τ 10 = σ 10) (h11 : τ 11 = σ 11) : fJ n τ ld tl cm := by
  unfold fJ at h ⊢
  rw [fT_cells h3, h4, h5, fL_cells h8 h10 h11, fl_kn_cells h9]
  exact h
/-! how far two logs agree -/
theorem fl_agrL_ge (σ : zF) (x y : Nat) : ∀ (f k : Nat), k ≤ fl_agrL σ x y f k
  | 0, k => Nat.le_refl k
  | f + 1, k => by
    unfold fl_agrL
    have := fl_agrL_ge σ x y f (k + 1)
    split <;> omega
theorem fl_agrL_eq (σ : zF) (x y : Nat) : ∀ (f k j : Nat), k ≤ j → j < fl_agrL σ x y f k → σ 10 (x * 10 + j) = σ 10 (y * 10 + j) ∧ σ 11 (x * 10 + j) = σ 11 (y * 10 + j)
  | 0, k, j, h1, h2 => by
    unfold fl_agrL at h2
    omega
  | f + 1, k, j, h1, h2 => by
    unfold fl_agrL at h2
    split at h2
    · rename_i hc
      by_cases e : j = k
      · rw [e]
        exact hc
      · exact fl_agrL_eq σ x y f (k + 1) j (by omega) h2
    · omega
theorem fl_agrL_ne (σ : zF) (x y : Nat) : ∀ (f k : Nat), fl_agrL σ x y f k < k + f → ¬ (σ 10 (x * 10 + fl_agrL σ x y f k) = σ 10 (y * 10 + fl_agrL σ x y f k) ∧ σ 11 (x * 10 + fl_agrL σ x y f k) = σ 11 (y * 10 + fl_agrL σ x y f k))
  | 0, k, h => by
    unfold fl_agrL at h
    omega
  | f + 1, k, h => by
    unfold fl_agrL at h ⊢
    split at h
    · rename_i hc
      rw [if_pos hc]
      exact fl_agrL_ne σ x y f (k + 1) (by omega)
    · rename_i hc
      rw [if_neg hc]
      exact hc
theorem agr_eq {σ : zF} {x y j : Nat} (h : j < fl_agr σ x y) : σ 10 (x * 10 + j) = σ 10 (y * 10 + j) ∧ σ 11 (x * 10 + j) = σ 11 (y * 10 + j) := fl_agrL_eq σ x y _ 0 j (Nat.zero_le j) h
theorem agr_ne {σ : zF} {x y : Nat} (h : fl_agr σ x y < fl_ln σ x) (h' : fl_agr σ x y < fl_ln σ y) : ¬ (σ 10 (x * 10 + fl_agr σ x y) = σ 10 (y * 10 + fl_agr σ x y) ∧ σ 11 (x * 10 + fl_agr σ x y) = σ 11 (y * 10 + fl_agr σ x y)) := fl_agrL_ne σ x y (min (fl_ln σ x) (fl_ln σ y)) 0 (show fl_agr σ x y < _ by omega)
theorem agr_le (σ : zF) (x y : Nat) : fl_agr σ x y ≤ fl_ln σ x ∧ fl_agr σ x y ≤ fl_ln σ y := by
  have := fl_agr_m0 σ x y
  omega
theorem agr_take {σ : zF} {x y j : Nat} (h : j ≤ fl_agr σ x y) : (fL σ x).take j = (fL σ y).take j := by
  have hl := agr_le σ x y
  apply List.ext_getElem?
  intro k
  by_cases hk : k < j
  · rw [List.getElem?_take_of_lt hk, List.getElem?_take_of_lt hk, fL_get σ x (by omega), fL_get σ y (by omega)]
    obtain ⟨h1, h2⟩ := agr_eq (σ := σ) (x := x) (y := y) (j := k) (by omega)
    rw [h1, h2]
  · rw [List.getElem?_eq_none (by simp only [List.length_take]; omega), List.getElem?_eq_none (by simp only [List.length_take]; omega)]
theorem agr_px {σ : zF} {x y : Nat} {P : List rE} (hx : P <+: fL σ x) (hy : P <+: fL σ y) : P.length ≤ fl_agr σ x y := by
  have l1 := hx.length_le
  have l2 := hy.length_le
  rw [fL_len] at l1 l2
  apply Nat.le_of_not_lt
  intro h
  have hg : P[fl_agr σ x y]? = some (P[fl_agr σ x y]) := List.getElem?_eq_getElem h
  have h1 := (fL_inv (px_get hx hg)).2
  have h2 := (fL_inv (px_get hy hg)).2
  rw [h1] at h2
  exact agr_ne (by omega) (by omega) ⟨(Prod.mk.inj h2).1, (Prod.mk.inj h2).2⟩
theorem agr_pxT {σ : zF} {x y j : Nat} (h : j ≤ fl_agr σ x y) : (fL σ x).take j <+: fL σ y := by
  rw [agr_take h]
  exact List.take_prefix _ _
theorem agr_symm (σ : zF) (x y : Nat) : fl_agr σ x y = fl_agr σ y x := by
  have key : ∀ a b, fl_agr σ a b ≤ fl_agr σ b a := fun a b => by
    have := agr_px (σ := σ) (x := b) (y := a) (P := (fL σ a).take (fl_agr σ a b)) (agr_pxT (Nat.le_refl _)) (List.take_prefix _ _)
    rwa [px_len (by rw [fL_len]; exact (agr_le σ a b).1)] at this
  exact Nat.le_antisymm (key x y) (key y x)
theorem agr_self (σ : zF) (x : Nat) : fl_agr σ x x = fl_ln σ x := by
  have := agr_px (σ := σ) (x := x) (y := x) (P := fL σ x) List.prefix_rfl List.prefix_rfl
  rw [fL_len] at this
  have := (agr_le σ x x).1
  omega
theorem agr_cells {σ τ : zF} {x y : Nat} (hx : fL σ x = fL τ x) (hy : fL σ y = fL τ y) : fl_agr σ x y = fl_agr τ x y := by
  have lx := agr_le σ x y
  have lt := agr_le τ x y
  apply Nat.le_antisymm
  · have := agr_px (σ := τ) (x := x) (y := y) (P := (fL σ x).take (fl_agr σ x y)) (by rw [← hx]; exact List.take_prefix _ _) (by rw [← hy]; exact agr_pxT (Nat.le_refl _))
    rwa [px_len (by rw [fL_len]; omega)] at this
  · have := agr_px (σ := σ) (x := x) (y := y) (P := (fL τ x).take (fl_agr τ x y)) (by rw [hx]; exact List.take_prefix _ _) (by rw [hy]; exact agr_pxT (Nat.le_refl _))
    rwa [px_len (by rw [fL_len]; omega)] at this
theorem fl_last_rl (σ : zF) (b : Nat) : (fl_last σ b).toInt = rl (fL σ b) := by
  unfold fl_last
  by_cases h : fl_ln σ b = 0
  · rw [if_pos h, rl_none (by rw [fL_len]; exact h)]
    decide
  · rw [if_neg h, rl_some (e := (σ 10 (b * 10 + (fl_ln σ b - 1)), σ 11 (b * 10 + (fl_ln σ b - 1)))) (by rw [fL_len]; exact fL_get σ b (by omega))]
    unfold rt
    rw [show b * 10 + fl_ln σ b - 1 = b * 10 + (fl_ln σ b - 1) by omega]
theorem fl_nw_rN (σ : zF) (x y : Nat) : fl_nw σ x y = true ↔ rN (fL σ x) (fL σ y) := by
  unfold fl_nw rN
  rw [decide_eq_true_iff, Int32.lt_iff_toInt_lt, ← Int32.toInt_inj, fl_last_rl, fl_last_rl, fL_len, fL_len]
  constructor <;> rintro (h | h)
  · exact Or.inl h
  · exact Or.inr ⟨h.1.symm, h.2⟩
  · exact Or.inl h
  · exact Or.inr ⟨h.1.symm, h.2⟩
/-! what single steps change -/
section EFF
variable (σ : zF) (b o t : Nat) (g : Int32)
theorem take_3 (j : Nat) : fl_take σ b g 3 j = if j = b then g else σ 3 j := by simp [fl_take, zU_at]
theorem take_4 (j : Nat) : fl_take σ b g 4 j = if j = b then -1 else σ 4 j := by simp [fl_take, zU_at]
theorem take_5 (j : Nat) : fl_take σ b g 5 j = if j = b then nI 0 else σ 5 j := by simp [fl_take, zU_at]
theorem take_k {k : Nat} (h3 : k ≠ 3) (h4 : k ≠ 4) (h5 : k ≠ 5) : fl_take σ b g k = σ k := by
  unfold fl_take
  rw [zU_ne h5, zU_ne h4, zU_ne h3]
theorem hof_3 (j : Nat) : fl_hof σ o g 3 j = if j = o ∧ σ 3 o < g then g else σ 3 j := by
  unfold fl_hof
  by_cases h : g ≤ σ 3 o
  · rw [if_pos h, if_neg (fun z => Int32.not_lt.mpr h z.2)]
  · rw [if_neg h, take_3]
    have := Int32.not_le.mp h
    by_cases e : j = o <;> simp [e, this]
theorem hof_oth {j : Nat} (h : j ≠ o) (k : Nat) : k ≠ 10 → k ≠ 11 → fl_hof σ o g k j = σ k j := fun _ _ => by
  unfold fl_hof
  split
  · rfl
  · by_cases h3 : k = 3
    · rw [h3, take_3, if_neg h]
    · by_cases h4 : k = 4
      · rw [h4, take_4, if_neg h]
      · by_cases h5 : k = 5
        · rw [h5, take_5, if_neg h]
        · rw [take_k σ o g h3 h4 h5]
theorem hof_k {k : Nat} (h3 : k ≠ 3) (h4 : k ≠ 4) (h5 : k ≠ 5) : fl_hof σ o g k = σ k := by
  unfold fl_hof
  split
  · rfl
  · exact take_k σ o g h3 h4 h5
/-- the other's term, when it is not greater -/
theorem hof_same (h : ¬ g < σ 3 o) : fl_hof σ o g 3 o = g := by
  rw [hof_3]
  by_cases e : σ 3 o < g
  · rw [if_pos ⟨rfl, e⟩]
  · rw [if_neg (fun z => e z.2)]
    rw [Int32.lt_iff_toInt_lt] at h e
    exact Int32.toInt_inj.mp (by omega)
theorem votT_k {k : Nat} (h2 : k ≠ 2) (h4 : k ≠ 4) : fl_votT σ b o k = σ k := by
  unfold fl_votT
  split
  · rw [zU_ne h2, zU_ne h4]
  · rfl
theorem votT_4 (j : Nat) : fl_votT σ b o 4 j = if j = o ∧ fl_vok σ b o = true then nI b else σ 4 j := by
  unfold fl_votT
  by_cases h : fl_vok σ b o = true
  · rw [if_pos h]
    simp [zU_at, h]
  · rw [if_neg h, if_neg (fun z => h z.2)]
theorem votT_2 (j : Nat) : fl_votT σ b o 2 j = if j = o ∧ fl_vok σ b o = true then σ 1 o else σ 2 j := by
  unfold fl_votT
  by_cases h : fl_vok σ b o = true
  · rw [if_pos h]
    simp [zU_at, h]
  · rw [if_neg h, if_neg (fun z => h z.2)]
theorem votS_k {k : Nat} (h2 : k ≠ 2) (h3 : k ≠ 3) (h4 : k ≠ 4) (h5 : k ≠ 5) : fl_votS σ b o k = σ k := by
  unfold fl_votS
  split
  · exact take_k σ b _ h3 h4 h5
  · rw [votT_k _ b o h2 h4, hof_k σ o _ h3 h4 h5]
theorem std0_3 (j : Nat) : fl_std0 σ b 3 j = if j = b then σ 3 b + nI 1 else σ 3 j := by simp [fl_std0, zU_at]
theorem std0_4 (j : Nat) : fl_std0 σ b 4 j = if j = b then nI b else σ 4 j := by simp [fl_std0, zU_at]
theorem std0_5 (j : Nat) : fl_std0 σ b 5 j = if j = b then nI 1 else σ 5 j := by simp [fl_std0, zU_at]
theorem std0_2 (j : Nat) : fl_std0 σ b 2 j = if j = b then σ 1 b else σ 2 j := by simp [fl_std0, zU_at]
theorem std0_0 (j : Nat) : fl_std0 σ b 0 j = if j = 2 then σ 0 2 + nI 1 else σ 0 j := by simp [fl_std0, zU_at]
theorem std0_k {k : Nat} (h0 : k ≠ 0) (h2 : k ≠ 2) (h3 : k ≠ 3) (h4 : k ≠ 4) (h5 : k ≠ 5) : fl_std0 σ b k = σ k := by
  unfold fl_std0
  rw [zU_ne h2, zU_ne h4, zU_ne h5, zU_ne h3, zU_ne h0]
theorem got_5 (j : Nat) : fl_got σ o 5 j = if j = o then nI 0 else σ 5 j := by simp [fl_got, zU_at]
theorem got_2 (j : Nat) : fl_got σ o 2 j = if j = o then σ 1 o else σ 2 j := by simp [fl_got, zU_at]
theorem got_k {k : Nat} (h2 : k ≠ 2) (h5 : k ≠ 5) : fl_got σ o k = σ k := by
  unfold fl_got
  rw [zU_ne h2, zU_ne h5]
theorem mend_k {k : Nat} (h8 : k ≠ 8) (h10 : k ≠ 10) (h11 : k ≠ 11) : fl_mend σ t o k = σ k := by
  unfold fl_mend
  split
  · rw [zU_ne h8]
  · split
    · unfold fl_app
      rw [zU_ne h8, zU_ne h11, zU_ne h10]
    · rfl
theorem mend_8 {j : Nat} (h : j ≠ o) : fl_mend σ t o 8 j = σ 8 j := by
  unfold fl_mend
  split
  · rw [zU_at, if_neg (fun z => h z.2)]
  · split
    · simp [fl_app, zU_at, h]
    · rfl
theorem mend_e {j k : Nat} (h : j ≠ o) (hk : k < 10) (ho : fl_ln σ o < 10 ∨ fl_ln σ o ≤ 10 ∧ fl_ln σ t ≤ 10) (c : Nat) (hc : c = 10 ∨ c = 11) : fl_mend σ t o c (j * 10 + k) = σ c (j * 10 + k) := by
  have hm := agr_le σ t o
  unfold fl_mend
  split
  · rw [zU_ne (by omega)]
  · split
    · have : ¬ j * 10 + k = o * 10 + fl_ln σ o := by omega
      rcases hc with rfl | rfl <;> simp [fl_app, zU_at, this]
    · rfl
theorem lose_k {k : Nat} (h : k ≠ 0) (c : Bool) : fl_lose σ c k = σ k := by
  unfold fl_lose
  split
  · rw [zU_ne h]
  · rfl
theorem lrn_k {k : Nat} (h : k ≠ 9) : fl_lrn σ t o k = σ k := by
  unfold fl_lrn
  rw [zU_ne h]
theorem lrn_9 {j : Nat} (h : j ≠ o) : fl_lrn σ t o 9 j = σ 9 j := by
  unfold fl_lrn
  rw [zU_at, if_neg (fun z => h z.2)]
theorem telT_k {k : Nat} (h0 : k ≠ 0) (h2 : k ≠ 2) (h5 : k ≠ 5) (h8 : k ≠ 8) (h9 : k ≠ 9) (h10 : k ≠ 10) (h11 : k ≠ 11) : fl_telT σ t o k = σ k := by
  unfold fl_telT
  rw [lrn_k _ o t h9, lose_k _ h0, mend_k _ o t h8 h10 h11, got_k _ o h2 h5]
theorem telT_5 (j : Nat) : fl_telT σ t o 5 j = if j = o then nI 0 else σ 5 j := by
  unfold fl_telT
  rw [lrn_k _ o t (by decide), lose_k _ (by decide), mend_k _ o t (by decide) (by decide) (by decide), got_5]
theorem telT_2 (j : Nat) : fl_telT σ t o 2 j = if j = o then σ 1 o else σ 2 j := by
  unfold fl_telT
  rw [lrn_k _ o t (by decide), lose_k _ (by decide), mend_k _ o t (by decide) (by decide) (by decide), got_2]
theorem telT_oth {j : Nat} (h : j ≠ o) {k : Nat} (h0 : k ≠ 0) (h10 : k ≠ 10) (h11 : k ≠ 11) : fl_telT σ t o k j = σ k j := by
  by_cases h5 : k = 5
  · rw [h5, telT_5, if_neg h]
  · by_cases h2 : k = 2
    · rw [h2, telT_2, if_neg h]
    · by_cases h8 : k = 8
      · rw [h8]
        unfold fl_telT
        rw [lrn_k _ o t (by decide), lose_k _ (by decide), mend_8 _ o t h, got_k _ o (by decide) (by decide)]
      · by_cases h9 : k = 9
        · rw [h9]
          unfold fl_telT
          rw [lrn_9 _ o t h, lose_k _ (by decide), mend_k _ o t (by decide) (by decide) (by decide), got_k _ o (by decide) (by decide)]
        · rw [telT_k σ o t h0 h2 h5 h8 h9 h10 h11]
end EFF
