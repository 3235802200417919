def shT (t : Nat) (a b : Nat → Nat) : List (Nat × zS) := [(t, .inr (.inl (2, [some (a 0), some (b 0)])))]
def shM (t : Nat) (a b : Nat → Nat) : List (Nat × zS) := [(t, .inr (.inl (4, [none, some (a 0), some (b 0)])))]
def fl_b0 (k j : Nat) : Int32 := match k with
  | 1 => nI (2 + j)
  | 2 => nI (2 + j)
  | 4 => -1
  | 7 => nI 1
  | _ => nI 0
/-- a fleet of m boats that begins, the first o of them -/
def fl_begP (m o : Nat) (σ : zF) : zF := fun k j => if k = 0 then (if j = 0 then nI m else if j < 5 then nI 0 else σ 0 j) else if k < 10 ∧ j < o then fl_b0 k j else σ k j
theorem fl_begP_0 (m : Nat) (σ : zF) : zU (zU (zU (zU (zU σ 0 0 (nI m)) 0 1 (nI 0)) 0 2 (nI 0)) 0 3 (nI 0)) 0 4 (nI 0) = fl_begP m 0 σ := by
  funext k j
  simp only [zU_at, fl_begP, Nat.not_lt_zero, and_false, if_false]
  by_cases hk : k = 0
  · subst hk
    simp only [true_and, if_true]
    by_cases h0 : j = 0
    · subst h0; simp
    · by_cases h1 : j < 5
      · have : j = 1 ∨ j = 2 ∨ j = 3 ∨ j = 4 := by omega
        rcases this with rfl | rfl | rfl | rfl <;> simp
      · rw [if_neg (by omega), if_neg (by omega), if_neg (by omega), if_neg (by omega), if_neg h0, if_neg h0, if_neg h1]
  · simp [hk]
theorem fl_begP_1 (m o : Nat) (σ : zF) : zU (zU (zU (zU (zU (zU (zU (zU (zU (fl_begP m o σ) 1 o (nI (2 + o))) 2 o (nI (2 + o))) 3 o (nI 0)) 4 o (-1)) 5 o (nI 0)) 6 o (nI 0)) 7 o (nI 1)) 8 o (nI 0)) 9 o (nI 0) = fl_begP m (o + 1) σ := by
  funext k j
  by_cases h10 : k < 10
  · have hk : k = 0 ∨ k = 1 ∨ k = 2 ∨ k = 3 ∨ k = 4 ∨ k = 5 ∨ k = 6 ∨ k = 7 ∨ k = 8 ∨ k = 9 := by omega
    by_cases hj : j = o
    · subst hj
      rcases hk with rfl | rfl | rfl | rfl | rfl | rfl | rfl | rfl | rfl | rfl <;> simp [zU_at, fl_begP, fl_b0]
    · have e : (j < o + 1) = (j < o) := by simp; omega
      rcases hk with rfl | rfl | rfl | rfl | rfl | rfl | rfl | rfl | rfl | rfl <;> simp [zU_at, fl_begP, hj, e]
  · simp only [zU_at, fl_begP]
    rw [if_neg (by omega), if_neg (by omega), if_neg (by omega), if_neg (by omega), if_neg (by omega), if_neg (by omega), if_neg (by omega), if_neg (by omega), if_neg (by omega), if_neg (by omega), if_neg (by omega), if_neg (by omega), if_neg (by omega)]
theorem fl_begP_n (m o : Nat) (σ : zF) : fl_begP m o σ 0 0 = nI m := by simp [fl_begP]
theorem fl_begP_Iv {m w : Nat} {σ : zF} (h3 : 3 ≤ m) (h7 : m ≤ 7) (hw : m ≤ w) (hu : ∀ i, i < 7 → σ 7 i = 0 ∨ σ 7 i = nI 1) : fl_Iv m (fl_begP m w σ) := by
  refine ⟨fl_begP_n m w σ, h3, h7, fun i hi => ?_, fun i hi => ?_, fun i hi => ?_⟩
  · have e : fl_begP m w σ 8 i = nI 0 := by simp [fl_begP, fl_b0, show i < w by omega]
    have e2 : fl_ln (fl_begP m w σ) i = 0 := by unfold fl_ln; rw [e]; rfl
    rw [e, e2]; exact ⟨rfl, by omega⟩
  · have e : fl_begP m w σ 9 i = nI 0 := by simp [fl_begP, fl_b0, show i < w by omega]
    have e2 : fl_kn (fl_begP m w σ) i = 0 := by unfold fl_kn; rw [e]; rfl
    rw [e, e2]; exact ⟨rfl, by omega⟩
  · by_cases q : i < w
    · right; simp [fl_begP, fl_b0, q]
    · have e : fl_begP m w σ 7 i = σ 7 i := by simp [fl_begP, q]
      rw [e]; exact hu i hi
/-- how many places a cell has -/
def fl_w (k : Nat) : Nat := if k = 0 then 5 else if k < 10 then 7 else if k < 12 then 70 else 0
/-- a state that becomes another one -/
def fl_cpy (σ τ : zF) : zF := fun k j => if j < fl_w k then σ k j else τ k j
/-- .. the head, and the first o boats' first seven rows -/
def fl_cpP (o : Nat) (σ τ : zF) : zF := fun k j => if k = 0 then (if j < 5 then σ 0 j else τ 0 j) else if k < 8 ∧ j < o then σ k j else τ k j
theorem fl_cp_0 (σ τ : zF) : zU (zU (zU (zU (zU τ 0 0 (σ 0 0)) 0 1 (σ 0 1)) 0 2 (σ 0 2)) 0 3 (σ 0 3)) 0 4 (σ 0 4) = fl_cpP 0 σ τ := by
  funext k j
  simp only [zU_at, fl_cpP, Nat.not_lt_zero, and_false, if_false]
  by_cases hk : k = 0
  · subst hk
    simp only [true_and, if_true]
    by_cases h1 : j < 5
    · have : j = 0 ∨ j = 1 ∨ j = 2 ∨ j = 3 ∨ j = 4 := by omega
      rcases this with rfl | rfl | rfl | rfl | rfl <;> simp
    · rw [if_neg (by omega), if_neg (by omega), if_neg (by omega), if_neg (by omega), if_neg (by omega), if_neg h1]
  · simp [hk]
theorem fl_cp_1 (o : Nat) (σ τ : zF) : zU (zU (zU (zU (zU (zU (zU (fl_cpP o σ τ) 1 o (σ 1 o)) 2 o (σ 2 o)) 3 o (σ 3 o)) 4 o (σ 4 o)) 5 o (σ 5 o)) 6 o (σ 6 o)) 7 o (σ 7 o) = fl_cpP (o + 1) σ τ := by
  funext k j
  by_cases h10 : k < 8
  · have hk : k = 0 ∨ k = 1 ∨ k = 2 ∨ k = 3 ∨ k = 4 ∨ k = 5 ∨ k = 6 ∨ k = 7 := by omega
    by_cases hj : j = o
    · subst hj
      rcases hk with rfl | rfl | rfl | rfl | rfl | rfl | rfl | rfl <;> simp [zU_at, fl_cpP]
    · have e : (j < o + 1) = (j < o) := by simp; omega
      rcases hk with rfl | rfl | rfl | rfl | rfl | rfl | rfl | rfl <;> simp [zU_at, fl_cpP, hj, e]
  · simp only [zU_at, fl_cpP]
    rw [if_neg (by omega), if_neg (by omega), if_neg (by omega), if_neg (by omega), if_neg (by omega), if_neg (by omega), if_neg (by omega), if_neg (by omega), if_neg (by omega), if_neg (by omega), if_neg (by omega)]
theorem zY_at (τ : zF) (k : Nat) (f : Nat → Int32) (k' j : Nat) : zY τ k f k' j = if k' = k then f j else τ k' j := by
  by_cases h : k' = k
  · subst h; rw [zY_eq, if_pos rfl]
  · rw [zY_ne h, if_neg h]
/-- one row after another -/
def zCp (σ τ : zF) (k n : Nat) : zF := zY τ k (va_cpy (σ k) (τ k) 0 0 n)
theorem zCp_at (σ τ : zF) (k n k' j : Nat) : zCp σ τ k n k' j = if k' = k ∧ j < n then σ k j else τ k' j := by
  unfold zCp
  rw [zY_at]
  by_cases h : k' = k
  · subst h
    simp [va_cpy]
  · simp [h]
theorem fl_cp_2 (σ τ : zF) : zCp σ (zCp σ (zCp σ (zCp σ (fl_cpP 7 σ τ) 8 7) 9 7) 10 70) 11 70 = fl_cpy σ τ := by
  funext k j
  by_cases h12 : k < 12
  · simp only [zCp_at, fl_cpP, fl_cpy, fl_w]
    have hk : k = 0 ∨ k = 1 ∨ k = 2 ∨ k = 3 ∨ k = 4 ∨ k = 5 ∨ k = 6 ∨ k = 7 ∨ k = 8 ∨ k = 9 ∨ k = 10 ∨ k = 11 := by omega
    rcases hk with rfl | rfl | rfl | rfl | rfl | rfl | rfl | rfl | rfl | rfl | rfl | rfl <;> simp
  · have h0 : fl_w k = 0 := by unfold fl_w; rw [if_neg (by omega), if_neg (by omega), if_neg (by omega)]
    simp [zCp_at, fl_cpP, fl_cpy, h0, show ¬ k < 8 by omega, show ¬ k = 0 by omega, show ¬ k = 1 by omega, show ¬ k = 2 by omega, show ¬ k = 3 by omega, show ¬ k = 4 by omega, show ¬ k = 5 by omega, show ¬ k = 6 by omega, show ¬ k = 7 by omega, show ¬ k = 8 by omega, show ¬ k = 9 by omega, show ¬ k = 10 by omega, show ¬ k = 11 by omega]
theorem fl_cp_3 (σ τ : zF) : zCp σ (zCp σ (zCp σ (zCp σ (zCp σ (zCp σ (zCp σ (zCp σ (zCp σ (zCp σ (zCp σ (fl_cpP 0 σ τ) 1 7) 2 7) 3 7) 4 7) 5 7) 6 7) 7 7) 8 7) 9 7) 10 70) 11 70 = fl_cpy σ τ := by
  funext k j
  by_cases h12 : k < 12
  · simp only [zCp_at, fl_cpP, fl_cpy, fl_w]
    have hk : k = 0 ∨ k = 1 ∨ k = 2 ∨ k = 3 ∨ k = 4 ∨ k = 5 ∨ k = 6 ∨ k = 7 ∨ k = 8 ∨ k = 9 ∨ k = 10 ∨ k = 11 := by omega
    rcases hk with rfl | rfl | rfl | rfl | rfl | rfl | rfl | rfl | rfl | rfl | rfl | rfl <;> simp
  · have h0 : fl_w k = 0 := by unfold fl_w; rw [if_neg (by omega), if_neg (by omega), if_neg (by omega)]
    simp [zCp_at, fl_cpP, fl_cpy, h0, show ¬ k < 8 by omega, show ¬ k = 0 by omega, show ¬ k = 1 by omega, show ¬ k = 2 by omega, show ¬ k = 3 by omega, show ¬ k = 4 by omega, show ¬ k = 5 by omega, show ¬ k = 6 by omega, show ¬ k = 7 by omega, show ¬ k = 8 by omega, show ¬ k = 9 by omega, show ¬ k = 10 by omega, show ¬ k = 11 by omega]
set_option maxHeartbeats 4000000 in
set_option maxRecDepth 100000 in
theorem c_X1_clear (l : Launch) (D : va_G) (cI cZ cB cE : ClassId) (a : Nat → Nat) (σ : zF) (b : Nat) (hb : b < 7) : zM l D (tyL cI cZ cB cE) yX1_clear cX1_clear 2 none (zR 0 0) [.ref (a 12), .int (nI (b))] [(shF a cI cZ, σ)] 0 0 (fun r u => r = none ∧ u = [(shF a cI cZ, (zU (zU σ 8 b (nI 0)) 9 b (nI 0)))]) := by
  refine z_of (by decide) (Nat.le_of_ble_eq_true rfl) rfl ?_
  intro p e s m args below meth c A C hr hin
  obtain ⟨Q, hQ⟩ : ∃ Q, Q = MQ below (zQ (fun r u => r = none ∧ u = [(shF a cI cZ, (zU (zU σ 8 b (nI 0)) 9 b (nI 0)))]) D (tyL cI cZ cB cE) A) args s 0 0 A := ⟨_, rfl⟩
  rw [← hQ]
  refine z_aload_n C dX1_clear_0 rfl 0 rfl ?_
  refine z_getR C wu_X1 0 rfl 12 rfl rfl 0 (by decide) rfl wf_X1_9 dX1_clear_1 ?_
  refine z_iload_n C dX1_clear_4 rfl 1 rfl ?_
  refine z_iconst C (v := nI (0)) (by decide) dX1_clear_5 ?_
  refine z_iast C (B' := [(shF a cI cZ, (zU σ 8 (b) (nI (0))))]) 0 rfl 8 0 rfl rfl dX1_clear_6 (by omega) (by decide) rfl ?_
  refine z_aload_n C dX1_clear_7 rfl 0 rfl ?_
  refine z_getR C wu_X1 0 rfl 12 rfl rfl 1 (by decide) rfl wf_X1_15 dX1_clear_8 ?_
  refine z_iload_n C dX1_clear_11 rfl 1 rfl ?_
  refine z_iconst C (v := nI (0)) (by decide) dX1_clear_12 ?_
  refine z_iast C (B' := [(shF a cI cZ, (zU (zU σ 8 (b) (nI (0))) 9 (b) (nI (0))))]) 0 rfl 9 0 rfl rfl dX1_clear_13 (by omega) (by decide) rfl ?_
  rw [hQ]; exact z_vret C hr dX1_clear_14 ⟨rfl, congrArg (fun x => [(shF a cI cZ, x)]) (by rfl)⟩
set_option maxHeartbeats 4000000 in
set_option maxRecDepth 100000 in
theorem c_X0_begin (l : Launch) (D : va_G) (cI cZ cB cE : ClassId) (a : Nat → Nat) (σ : zF) (nb : Nat) (h3 : 3 ≤ nb) (h7 : nb ≤ 7) : zM l D (tyL cI cZ cB cE) yX0_begin cX0_begin 3 none (zR 1 21) [.ref (a 0), .int (nI (nb))] [(shF a cI cZ, σ)] 0 0 (fun r u => r = none ∧ u = [(shF a cI cZ, (fl_begP nb nb σ))]) := by
  refine z_of (by decide) (Nat.le_of_ble_eq_true rfl) rfl ?_
  intro p e s m args below meth c A C hr hin
  obtain ⟨Q, hQ⟩ : ∃ Q, Q = MQ below (zQ (fun r u => r = none ∧ u = [(shF a cI cZ, (fl_begP nb nb σ))]) D (tyL cI cZ cB cE) A) args s 0 0 A := ⟨_, rfl⟩
  rw [← hQ]
  refine z_aload_n C dX0_begin_0 rfl 0 rfl ?_
  refine z_iconst C (v := nI (3)) (by decide) dX0_begin_1 ?_
  refine z_iload_n C dX0_begin_2 rfl 1 rfl ?_
  refine z_bipush C (v := nI (7)) (by decide) dX0_begin_3 ?_
  refine z_mminN C wm_X0_41 ws_min wi_J9 wk_min ⟨(Nat.le_of_ble_eq_true rfl), (Nat.le_of_ble_eq_true rfl), (Nat.le_of_ble_eq_true rfl), (Nat.le_of_ble_eq_true rfl)⟩ dX0_begin_5 (by omega) (by omega) ?_
  refine z_mmaxN C wm_X0_47 ws_max wi_J9 wk_max ⟨(Nat.le_of_ble_eq_true rfl), (Nat.le_of_ble_eq_true rfl), (Nat.le_of_ble_eq_true rfl), (Nat.le_of_ble_eq_true rfl)⟩ dX0_begin_8 (by omega) (by omega) ?_
  refine z_top (y := nI nb) (congrArg nI (by omega)) ?_
  refine z_putI C (B' := [(shF a cI cZ, (zU σ 0 (0) (nI (nb))))]) wu_X0 tyX0_ok nmX0 0 rfl 0 rfl rfl 0 (by decide) rfl wf_X0_50 rfl (by decide +kernel) dX0_begin_11 rfl ?_
  refine z_aload_n C dX0_begin_14 rfl 0 rfl ?_
  refine z_iconst C (v := nI (0)) (by decide) dX0_begin_15 ?_
  refine z_putI C (B' := [(shF a cI cZ, (zU (zU σ 0 (0) (nI (nb))) 0 (1) (nI (0))))]) wu_X0 tyX0_ok nmX0 0 rfl 0 rfl rfl 1 (by decide) rfl wf_X0_54 rfl (by decide +kernel) dX0_begin_16 rfl ?_
  refine z_aload_n C dX0_begin_19 rfl 0 rfl ?_
  refine z_iconst C (v := nI (0)) (by decide) dX0_begin_20 ?_
  refine z_putI C (B' := [(shF a cI cZ, (zU (zU (zU σ 0 (0) (nI (nb))) 0 (1) (nI (0))) 0 (2) (nI (0))))]) wu_X0 tyX0_ok nmX0 0 rfl 0 rfl rfl 2 (by decide) rfl wf_X0_57 rfl (by decide +kernel) dX0_begin_21 rfl ?_
  refine z_aload_n C dX0_begin_24 rfl 0 rfl ?_
  refine z_iconst C (v := nI (0)) (by decide) dX0_begin_25 ?_
  refine z_putI C (B' := [(shF a cI cZ, (zU (zU (zU (zU σ 0 (0) (nI (nb))) 0 (1) (nI (0))) 0 (2) (nI (0))) 0 (3) (nI (0))))]) wu_X0 tyX0_ok nmX0 0 rfl 0 rfl rfl 3 (by decide) rfl wf_X0_60 rfl (by decide +kernel) dX0_begin_26 rfl ?_
  refine z_aload_n C dX0_begin_29 rfl 0 rfl ?_
  refine z_iconst C (v := nI (0)) (by decide) dX0_begin_30 ?_
  refine z_putI C (B' := [(shF a cI cZ, (zU (zU (zU (zU (zU σ 0 (0) (nI (nb))) 0 (1) (nI (0))) 0 (2) (nI (0))) 0 (3) (nI (0))) 0 (4) (nI (0))))]) wu_X0 tyX0_ok nmX0 0 rfl 0 rfl rfl 4 (by decide) rfl wf_X0_63 rfl (by decide +kernel) dX0_begin_31 rfl ?_
  refine z_eq (B' := [(shF a cI cZ, (fl_begP nb 0 σ))]) (congrArg (fun x => [(shF a cI cZ, x)]) (fl_begP_0 nb σ)) ?_
  refine z_iconst C (v := nI (0)) (by decide) dX0_begin_34 ?_
  refine z_istore_n C (L' := [(2, .int (nI (0))), (0, .ref (a 0)), (1, .int (nI (nb)))]) dX0_begin_35 rfl (by decide) rfl ?_
  have loop_36 : ∀ (k_36 o : Nat) (τ : zF), nb < o + k_36 → o ≤ nb → (hres : τ = fl_begP nb o σ) → (h0 : τ 0 0 = nI nb) → zK p l e (zR 1 21) s m args below meth c D A 3 Q 0 0 36 [(2, .int (nI (o))), (1, .int (nI (nb))), (0, .ref (a 0))] [] [(shF a cI cZ, τ)] := by
    intro k_36
    induction k_36 with
    | zero => intro o τ m1_36 m2_36; exact absurd m1_36 (by omega)
    | succ k_36 ih_36 =>
      intro o τ m1_36 m2_36 hres h0
      refine z_iload_n C dX0_begin_36 rfl 0 rfl ?_
      refine z_aload_n C dX0_begin_37 rfl 2 rfl ?_
      refine z_getI C wu_X0 0 rfl 0 rfl rfl 0 (by decide) rfl wf_X0_50 dX0_begin_38 ?_
      refine z_top (y := nI nb) h0 ?_
      refine z_icmp_geN C (tgt := 114) dX0_begin_41 (by decide) (by omega) (by omega) (fun c_41 => ?_) (fun c_41 => ?_)
      · rw [hQ]; exact z_vret C hr dX0_begin_114 ⟨rfl, congrArg (fun x => [(shF a cI cZ, x)]) (by rw [hres, show o = nb by omega])⟩
      · refine z_aload_n C dX0_begin_44 rfl 2 rfl ?_
        refine z_getR C wu_X0 0 rfl 0 rfl rfl 5 (by decide) rfl wf_X0_9 dX0_begin_45 ?_
        refine z_iload_n C dX0_begin_48 rfl 0 rfl ?_
        refine z_iconst C (v := nI (2)) (by decide) dX0_begin_49 ?_
        refine z_iload_n C dX0_begin_50 rfl 0 rfl ?_
        refine z_iaddN C dX0_begin_51 ?_
        refine z_iast C (B' := [(shF a cI cZ, (zU τ 1 (o) (nI (2 + o))))]) 0 rfl 1 0 rfl rfl dX0_begin_52 (by omega) (by decide) rfl ?_
        refine z_aload_n C dX0_begin_53 rfl 2 rfl ?_
        refine z_getR C wu_X0 0 rfl 0 rfl rfl 6 (by decide) rfl wf_X0_15 dX0_begin_54 ?_
        refine z_iload_n C dX0_begin_57 rfl 0 rfl ?_
        refine z_aload_n C dX0_begin_58 rfl 2 rfl ?_
        refine z_getR C wu_X0 0 rfl 0 rfl rfl 5 (by decide) rfl wf_X0_9 dX0_begin_59 ?_
        refine z_iload_n C dX0_begin_62 rfl 0 rfl ?_
        refine z_iald C 0 rfl 1 0 rfl rfl dX0_begin_63 (by omega) (by decide) ?_
        refine z_top (y := nI (2 + o)) (zU_self _ _ _ _) ?_
        refine z_iast C (B' := [(shF a cI cZ, (zU (zU τ 1 (o) (nI (2 + o))) 2 (o) (nI (2 + o))))]) 0 rfl 2 0 rfl rfl dX0_begin_64 (by omega) (by decide) rfl ?_
        refine z_aload_n C dX0_begin_65 rfl 2 rfl ?_
        refine z_getR C wu_X0 0 rfl 0 rfl rfl 7 (by decide) rfl wf_X0_18 dX0_begin_66 ?_
        refine z_iload_n C dX0_begin_69 rfl 0 rfl ?_
        refine z_iconst C (v := nI (0)) (by decide) dX0_begin_70 ?_
        refine z_iast C (B' := [(shF a cI cZ, (zU (zU (zU τ 1 (o) (nI (2 + o))) 2 (o) (nI (2 + o))) 3 (o) (nI (0))))]) 0 rfl 3 0 rfl rfl dX0_begin_71 (by omega) (by decide) rfl ?_
        refine z_aload_n C dX0_begin_72 rfl 2 rfl ?_
        refine z_getR C wu_X0 0 rfl 0 rfl rfl 8 (by decide) rfl wf_X0_21 dX0_begin_73 ?_
        refine z_iload_n C dX0_begin_76 rfl 0 rfl ?_
        refine z_iconst C (v := -1) (by decide) dX0_begin_77 ?_
        refine z_iast C (B' := [(shF a cI cZ, (zU (zU (zU (zU τ 1 (o) (nI (2 + o))) 2 (o) (nI (2 + o))) 3 (o) (nI (0))) 4 (o) (-1)))]) 0 rfl 4 0 rfl rfl dX0_begin_78 (by omega) (by decide) rfl ?_
        refine z_aload_n C dX0_begin_79 rfl 2 rfl ?_
        refine z_getR C wu_X0 0 rfl 0 rfl rfl 9 (by decide) rfl wf_X0_24 dX0_begin_80 ?_
        refine z_iload_n C dX0_begin_83 rfl 0 rfl ?_
        refine z_iconst C (v := nI (0)) (by decide) dX0_begin_84 ?_
        refine z_iast C (B' := [(shF a cI cZ, (zU (zU (zU (zU (zU τ 1 (o) (nI (2 + o))) 2 (o) (nI (2 + o))) 3 (o) (nI (0))) 4 (o) (-1)) 5 (o) (nI (0))))]) 0 rfl 5 0 rfl rfl dX0_begin_85 (by omega) (by decide) rfl ?_
        refine z_aload_n C dX0_begin_86 rfl 2 rfl ?_
        refine z_getR C wu_X0 0 rfl 0 rfl rfl 10 (by decide) rfl wf_X0_27 dX0_begin_87 ?_
        refine z_iload_n C dX0_begin_90 rfl 0 rfl ?_
        refine z_iconst C (v := nI (0)) (by decide) dX0_begin_91 ?_
        refine z_iast C (B' := [(shF a cI cZ, (zU (zU (zU (zU (zU (zU τ 1 (o) (nI (2 + o))) 2 (o) (nI (2 + o))) 3 (o) (nI (0))) 4 (o) (-1)) 5 (o) (nI (0))) 6 (o) (nI (0))))]) 0 rfl 6 0 rfl rfl dX0_begin_92 (by omega) (by decide) rfl ?_
        refine z_aload_n C dX0_begin_93 rfl 2 rfl ?_
        refine z_getR C wu_X0 0 rfl 0 rfl rfl 11 (by decide) rfl wf_X0_30 dX0_begin_94 ?_
        refine z_iload_n C dX0_begin_97 rfl 0 rfl ?_
        refine z_iconst C (v := nI (1)) (by decide) dX0_begin_98 ?_
        refine z_zast C (B' := [(shF a cI cZ, (zU (zU (zU (zU (zU (zU (zU τ 1 (o) (nI (2 + o))) 2 (o) (nI (2 + o))) 3 (o) (nI (0))) 4 (o) (-1)) 5 (o) (nI (0))) 6 (o) (nI (0))) 7 (o) (nI (1))))]) 0 rfl 7 1 rfl rfl dX0_begin_99 (by omega) (by decide) (vp_1) rfl ?_
        refine z_aload_n C dX0_begin_100 rfl 2 rfl ?_
        refine z_getR C wu_X0 0 rfl 0 rfl rfl 12 (by decide) rfl wf_X0_37 dX0_begin_101 ?_
        refine z_iload_n C dX0_begin_104 rfl 0 rfl ?_
        refine z_cV C (st' := []) (B' := [(shF a cI cZ, (zU (zU (zU (zU (zU (zU (zU (zU (zU τ 1 (o) (nI (2 + o))) 2 (o) (nI (2 + o))) 3 (o) (nI (0))) 4 (o) (-1)) 5 (o) (nI (0))) 6 (o) (nI (0))) 7 (o) (nI (1))) 8 (o) (nI (0))) 9 (o) (nI (0))))]) [true] rfl (c_X1_clear l D cI cZ cB cE a ((zU (zU (zU (zU (zU (zU (zU τ 1 (o) (nI (2 + o))) 2 (o) (nI (2 + o))) 3 (o) (nI (0))) 4 (o) (-1)) 5 (o) (nI (0))) 6 (o) (nI (0))) 7 (o) (nI (1)))) o (by omega)) wq_yX1_clear wm_X0_66 ⟨wn_yX1_clear, wo_yX1_clear⟩ ⟨rfl, rfl, Nat.le_of_ble_eq_true rfl, Nat.le_of_ble_eq_true rfl⟩ 0 rfl 12 rfl rfl rfl rfl (Nat.le_of_ble_eq_true rfl) dX0_begin_105 ⟨Nat.le_of_ble_eq_true rfl, Nat.le_of_ble_eq_true rfl⟩ rfl rfl ?_
        refine z_eq (B' := [(shF a cI cZ, (fl_begP nb (o + 1) σ))]) (congrArg (fun x => [(shF a cI cZ, x)]) (by rw [hres]; exact fl_begP_1 nb o σ)) ?_
        refine z_iinc C (L' := [(2, .int (nI (o + 1))), (1, .int (nI (nb))), (0, .ref (a 0))]) dX0_begin_108 0 rfl (z_inc1 _) (by decide) rfl ?_
        refine z_goto C (tgt := 36) dX0_begin_111 (by decide) ?_
        refine z_sub (L' := [(2, .int (nI (o + 1))), (1, .int (nI (nb))), (0, .ref (a 0))]) [0, 1, 2] rfl ?_
        exact ih_36 (o + 1) _ (by omega) (by omega) rfl (fl_begP_n _ _ _)
  refine z_sub (L' := [(2, .int (nI (0))), (1, .int (nI (nb))), (0, .ref (a 0))]) [0, 2, 1] rfl ?_
  exact loop_36 (nb + 1) 0 _ (by omega) (by omega) rfl (fl_begP_n _ _ _)
set_option maxHeartbeats 4000000 in
set_option maxRecDepth 100000 in
theorem c_X1_copyFrom (l : Launch) (D : va_G) (cI cZ cB cE : ClassId) (a b : Nat → Nat) (σ τ : zF) : zM l D (tyL cI cZ cB cE) yX1_copyFrom cX1_copyFrom 2 none (zR 1 60) [.ref (b 12), .ref (a 12)] [(shF a cI cZ, σ), (shF b cI cZ, τ)] 0 0 (fun r u => r = none ∧ u = [(shF a cI cZ, σ), (shF b cI cZ, (zCp σ (zCp σ (zCp σ (zCp σ τ 8 7) 9 7) 10 70) 11 70))]) := by
  refine z_of (by decide) (Nat.le_of_ble_eq_true rfl) rfl ?_
  intro p e s m args below meth c A C hr hin
  obtain ⟨Q, hQ⟩ : ∃ Q, Q = MQ below (zQ (fun r u => r = none ∧ u = [(shF a cI cZ, σ), (shF b cI cZ, (zCp σ (zCp σ (zCp σ (zCp σ τ 8 7) 9 7) 10 70) 11 70))]) D (tyL cI cZ cB cE) A) args s 0 0 A := ⟨_, rfl⟩
  rw [← hQ]
  refine z_aload_n C dX1_copyFrom_0 rfl 1 rfl ?_
  refine z_getR C wu_X1 0 rfl 12 rfl rfl 0 (by decide) rfl wf_X1_9 dX1_copyFrom_1 ?_
  refine z_iconst C (v := nI (0)) (by decide) dX1_copyFrom_4 ?_
  refine z_aload_n C dX1_copyFrom_5 rfl 0 rfl ?_
  refine z_getR C wu_X1 1 rfl 12 rfl rfl 0 (by decide) rfl wf_X1_9 dX1_copyFrom_6 ?_
  refine z_iconst C (v := nI (0)) (by decide) dX1_copyFrom_9 ?_
  refine z_bipush C (v := nI (7)) (by decide) dX1_copyFrom_10 ?_
  refine z_copyi C (B' := [(shF a cI cZ, σ), (shF b cI cZ, (zCp σ τ 8 7))]) wm_X1_24 0 1 rfl rfl 8 8 0 rfl rfl rfl (Nat.le_of_ble_eq_true rfl) (Nat.le_of_ble_eq_true rfl) (Nat.le_of_ble_eq_true rfl) ⟨Nat.le_of_ble_eq_true rfl, Nat.le_of_ble_eq_true rfl⟩ dX1_copyFrom_12 rfl ?_
  refine z_aload_n C dX1_copyFrom_15 rfl 1 rfl ?_
  refine z_getR C wu_X1 0 rfl 12 rfl rfl 1 (by decide) rfl wf_X1_15 dX1_copyFrom_16 ?_
  refine z_iconst C (v := nI (0)) (by decide) dX1_copyFrom_19 ?_
  refine z_aload_n C dX1_copyFrom_20 rfl 0 rfl ?_
  refine z_getR C wu_X1 1 rfl 12 rfl rfl 1 (by decide) rfl wf_X1_15 dX1_copyFrom_21 ?_
  refine z_iconst C (v := nI (0)) (by decide) dX1_copyFrom_24 ?_
  refine z_bipush C (v := nI (7)) (by decide) dX1_copyFrom_25 ?_
  refine z_copyi C (B' := [(shF a cI cZ, σ), (shF b cI cZ, (zCp σ (zCp σ τ 8 7) 9 7))]) wm_X1_24 0 1 rfl rfl 9 9 0 rfl rfl rfl (Nat.le_of_ble_eq_true rfl) (Nat.le_of_ble_eq_true rfl) (Nat.le_of_ble_eq_true rfl) ⟨Nat.le_of_ble_eq_true rfl, Nat.le_of_ble_eq_true rfl⟩ dX1_copyFrom_27 rfl ?_
  refine z_aload_n C dX1_copyFrom_30 rfl 1 rfl ?_
  refine z_getR C wu_X1 0 rfl 12 rfl rfl 2 (by decide) rfl wf_X1_18 dX1_copyFrom_31 ?_
  refine z_iconst C (v := nI (0)) (by decide) dX1_copyFrom_34 ?_
  refine z_aload_n C dX1_copyFrom_35 rfl 0 rfl ?_
  refine z_getR C wu_X1 1 rfl 12 rfl rfl 2 (by decide) rfl wf_X1_18 dX1_copyFrom_36 ?_
  refine z_iconst C (v := nI (0)) (by decide) dX1_copyFrom_39 ?_
  refine z_bipush C (v := nI (70)) (by decide) dX1_copyFrom_40 ?_
  refine z_copyi C (B' := [(shF a cI cZ, σ), (shF b cI cZ, (zCp σ (zCp σ (zCp σ τ 8 7) 9 7) 10 70))]) wm_X1_24 0 1 rfl rfl 10 10 0 rfl rfl rfl (Nat.le_of_ble_eq_true rfl) (Nat.le_of_ble_eq_true rfl) (Nat.le_of_ble_eq_true rfl) ⟨Nat.le_of_ble_eq_true rfl, Nat.le_of_ble_eq_true rfl⟩ dX1_copyFrom_42 rfl ?_
  refine z_aload_n C dX1_copyFrom_45 rfl 1 rfl ?_
  refine z_getR C wu_X1 0 rfl 12 rfl rfl 3 (by decide) rfl wf_X1_21 dX1_copyFrom_46 ?_
  refine z_iconst C (v := nI (0)) (by decide) dX1_copyFrom_49 ?_
  refine z_aload_n C dX1_copyFrom_50 rfl 0 rfl ?_
  refine z_getR C wu_X1 1 rfl 12 rfl rfl 3 (by decide) rfl wf_X1_21 dX1_copyFrom_51 ?_
  refine z_iconst C (v := nI (0)) (by decide) dX1_copyFrom_54 ?_
  refine z_bipush C (v := nI (70)) (by decide) dX1_copyFrom_55 ?_
  refine z_copyi C (B' := [(shF a cI cZ, σ), (shF b cI cZ, (zCp σ (zCp σ (zCp σ (zCp σ τ 8 7) 9 7) 10 70) 11 70))]) wm_X1_24 0 1 rfl rfl 11 11 0 rfl rfl rfl (Nat.le_of_ble_eq_true rfl) (Nat.le_of_ble_eq_true rfl) (Nat.le_of_ble_eq_true rfl) ⟨Nat.le_of_ble_eq_true rfl, Nat.le_of_ble_eq_true rfl⟩ dX1_copyFrom_57 rfl ?_
  rw [hQ]; exact z_vret C hr dX1_copyFrom_60 ⟨rfl, rfl⟩
set_option maxHeartbeats 4000000 in
set_option maxRecDepth 100000 in
theorem c_X0_copyFrom (l : Launch) (D : va_G) (cI cZ cB cE : ClassId) (a b : Nat → Nat) (σ τ : zF) (hu : ∀ i, i < 7 → σ 7 i = 0 ∨ σ 7 i = nI 1) : zM l D (tyL cI cZ cB cE) yX0_copyFrom cX0_copyFrom 3 none (zR 2 81) [.ref (b 0), .ref (a 0)] [(shF a cI cZ, σ), (shF b cI cZ, τ)] 0 0 (fun r u => r = none ∧ u = [(shF a cI cZ, σ), (shF b cI cZ, (fl_cpy σ τ))]) := by
  refine z_of (by decide) (Nat.le_of_ble_eq_true rfl) rfl ?_
  intro p e s m args below meth c A C hr hin
  obtain ⟨Q, hQ⟩ : ∃ Q, Q = MQ below (zQ (fun r u => r = none ∧ u = [(shF a cI cZ, σ), (shF b cI cZ, (fl_cpy σ τ))]) D (tyL cI cZ cB cE) A) args s 0 0 A := ⟨_, rfl⟩
  rw [← hQ]
  refine z_aload_n C dX0_copyFrom_0 rfl 0 rfl ?_
  refine z_aload_n C dX0_copyFrom_1 rfl 1 rfl ?_
  refine z_getI C wu_X0 0 rfl 0 rfl rfl 0 (by decide) rfl wf_X0_50 dX0_copyFrom_2 ?_
  refine z_putI C (B' := [(shF a cI cZ, σ), (shF b cI cZ, (zU τ 0 (0) (σ 0 (0))))]) wu_X0 tyX0_ok nmX0 1 rfl 0 rfl rfl 0 (by decide) rfl wf_X0_50 rfl (by decide +kernel) dX0_copyFrom_5 rfl ?_
  refine z_aload_n C dX0_copyFrom_8 rfl 0 rfl ?_
  refine z_aload_n C dX0_copyFrom_9 rfl 1 rfl ?_
  refine z_getI C wu_X0 0 rfl 0 rfl rfl 1 (by decide) rfl wf_X0_54 dX0_copyFrom_10 ?_
  refine z_putI C (B' := [(shF a cI cZ, σ), (shF b cI cZ, (zU (zU τ 0 (0) (σ 0 (0))) 0 (1) (σ 0 (1))))]) wu_X0 tyX0_ok nmX0 1 rfl 0 rfl rfl 1 (by decide) rfl wf_X0_54 rfl (by decide +kernel) dX0_copyFrom_13 rfl ?_
  refine z_aload_n C dX0_copyFrom_16 rfl 0 rfl ?_
  refine z_aload_n C dX0_copyFrom_17 rfl 1 rfl ?_
  refine z_getI C wu_X0 0 rfl 0 rfl rfl 2 (by decide) rfl wf_X0_57 dX0_copyFrom_18 ?_
  refine z_putI C (B' := [(shF a cI cZ, σ), (shF b cI cZ, (zU (zU (zU τ 0 (0) (σ 0 (0))) 0 (1) (σ 0 (1))) 0 (2) (σ 0 (2))))]) wu_X0 tyX0_ok nmX0 1 rfl 0 rfl rfl 2 (by decide) rfl wf_X0_57 rfl (by decide +kernel) dX0_copyFrom_21 rfl ?_
  refine z_aload_n C dX0_copyFrom_24 rfl 0 rfl ?_
  refine z_aload_n C dX0_copyFrom_25 rfl 1 rfl ?_
  refine z_getI C wu_X0 0 rfl 0 rfl rfl 3 (by decide) rfl wf_X0_60 dX0_copyFrom_26 ?_
  refine z_putI C (B' := [(shF a cI cZ, σ), (shF b cI cZ, (zU (zU (zU (zU τ 0 (0) (σ 0 (0))) 0 (1) (σ 0 (1))) 0 (2) (σ 0 (2))) 0 (3) (σ 0 (3))))]) wu_X0 tyX0_ok nmX0 1 rfl 0 rfl rfl 3 (by decide) rfl wf_X0_60 rfl (by decide +kernel) dX0_copyFrom_29 rfl ?_
  refine z_aload_n C dX0_copyFrom_32 rfl 0 rfl ?_
  refine z_aload_n C dX0_copyFrom_33 rfl 1 rfl ?_
  refine z_getI C wu_X0 0 rfl 0 rfl rfl 4 (by decide) rfl wf_X0_63 dX0_copyFrom_34 ?_
  refine z_putI C (B' := [(shF a cI cZ, σ), (shF b cI cZ, (zU (zU (zU (zU (zU τ 0 (0) (σ 0 (0))) 0 (1) (σ 0 (1))) 0 (2) (σ 0 (2))) 0 (3) (σ 0 (3))) 0 (4) (σ 0 (4))))]) wu_X0 tyX0_ok nmX0 1 rfl 0 rfl rfl 4 (by decide) rfl wf_X0_63 rfl (by decide +kernel) dX0_copyFrom_37 rfl ?_
  refine z_eq (B' := [(shF a cI cZ, σ), (shF b cI cZ, (fl_cpP 0 σ τ))]) (congrArg (fun x => [(shF a cI cZ, σ), (shF b cI cZ, x)]) (fl_cp_0 σ τ)) ?_
  refine z_iconst C (v := nI (0)) (by decide) dX0_copyFrom_40 ?_
  refine z_istore_n C (L' := [(2, .int (nI (0))), (0, .ref (b 0)), (1, .ref (a 0))]) dX0_copyFrom_41 rfl (by decide) rfl ?_
  have loop_42 : ∀ (k_42 o : Nat) (ρ : zF), 7 < o + k_42 → o ≤ 7 → (hres : ρ = fl_cpP o σ τ) → zK p l e (zR 2 81) s m args below meth c D A 3 Q 0 0 42 [(2, .int (nI (o))), (0, .ref (b 0)), (1, .ref (a 0))] [] [(shF a cI cZ, σ), (shF b cI cZ, ρ)] := by
    intro k_42
    induction k_42 with
    | zero => intro o ρ m1_42 m2_42; exact absurd m1_42 (by omega)
    | succ k_42 ih_42 =>
      intro o ρ m1_42 m2_42 hres
      refine z_iload_n C dX0_copyFrom_42 rfl 0 rfl ?_
      refine z_bipush C (v := nI (7)) (by decide) dX0_copyFrom_43 ?_
      refine z_icmp_geN C (tgt := 138) dX0_copyFrom_45 (by decide) (by omega) (by omega) (fun c_45 => ?_) (fun c_45 => ?_)
      · refine z_aload_n C dX0_copyFrom_138 rfl 1 rfl ?_
        refine z_getR C wu_X0 1 rfl 0 rfl rfl 12 (by decide) rfl wf_X0_37 dX0_copyFrom_139 ?_
        refine z_aload_n C dX0_copyFrom_142 rfl 2 rfl ?_
        refine z_getR C wu_X0 0 rfl 0 rfl rfl 12 (by decide) rfl wf_X0_37 dX0_copyFrom_143 ?_
        refine z_cV C (st' := []) (B' := [(shF a cI cZ, σ), (shF b cI cZ, (zCp σ (zCp σ (zCp σ (zCp σ ρ 8 7) 9 7) 10 70) 11 70))]) [true, true] rfl (c_X1_copyFrom l D cI cZ cB cE a b σ ρ) wq_yX1_copyFrom wm_X0_70 ⟨wn_yX1_copyFrom, wo_yX1_copyFrom⟩ ⟨rfl, rfl, Nat.le_of_ble_eq_true rfl, Nat.le_of_ble_eq_true rfl⟩ 1 rfl 12 rfl rfl rfl rfl (Nat.le_of_ble_eq_true rfl) dX0_copyFrom_146 ⟨Nat.le_of_ble_eq_true rfl, Nat.le_of_ble_eq_true rfl⟩ rfl rfl ?_
        rw [hQ]; exact z_vret C hr dX0_copyFrom_149 ⟨rfl, congrArg (fun x => [(shF a cI cZ, σ), (shF b cI cZ, x)]) (by rw [hres, show o = 7 by omega]; exact fl_cp_2 σ τ)⟩
      · refine z_aload_n C dX0_copyFrom_48 rfl 1 rfl ?_
        refine z_getR C wu_X0 1 rfl 0 rfl rfl 5 (by decide) rfl wf_X0_9 dX0_copyFrom_49 ?_
        refine z_iload_n C dX0_copyFrom_52 rfl 0 rfl ?_
        refine z_aload_n C dX0_copyFrom_53 rfl 2 rfl ?_
        refine z_getR C wu_X0 0 rfl 0 rfl rfl 5 (by decide) rfl wf_X0_9 dX0_copyFrom_54 ?_
        refine z_iload_n C dX0_copyFrom_57 rfl 0 rfl ?_
        refine z_iald C 0 rfl 1 0 rfl rfl dX0_copyFrom_58 (by omega) (by decide) ?_
        refine z_iast C (B' := [(shF a cI cZ, σ), (shF b cI cZ, (zU ρ 1 (o) (σ 1 (o))))]) 1 rfl 1 0 rfl rfl dX0_copyFrom_59 (by omega) (by decide) rfl ?_
        refine z_aload_n C dX0_copyFrom_60 rfl 1 rfl ?_
        refine z_getR C wu_X0 1 rfl 0 rfl rfl 6 (by decide) rfl wf_X0_15 dX0_copyFrom_61 ?_
        refine z_iload_n C dX0_copyFrom_64 rfl 0 rfl ?_
        refine z_aload_n C dX0_copyFrom_65 rfl 2 rfl ?_
        refine z_getR C wu_X0 0 rfl 0 rfl rfl 6 (by decide) rfl wf_X0_15 dX0_copyFrom_66 ?_
        refine z_iload_n C dX0_copyFrom_69 rfl 0 rfl ?_
        refine z_iald C 0 rfl 2 0 rfl rfl dX0_copyFrom_70 (by omega) (by decide) ?_
        refine z_iast C (B' := [(shF a cI cZ, σ), (shF b cI cZ, (zU (zU ρ 1 (o) (σ 1 (o))) 2 (o) (σ 2 (o))))]) 1 rfl 2 0 rfl rfl dX0_copyFrom_71 (by omega) (by decide) rfl ?_
        refine z_aload_n C dX0_copyFrom_72 rfl 1 rfl ?_
        refine z_getR C wu_X0 1 rfl 0 rfl rfl 7 (by decide) rfl wf_X0_18 dX0_copyFrom_73 ?_
        refine z_iload_n C dX0_copyFrom_76 rfl 0 rfl ?_
        refine z_aload_n C dX0_copyFrom_77 rfl 2 rfl ?_
        refine z_getR C wu_X0 0 rfl 0 rfl rfl 7 (by decide) rfl wf_X0_18 dX0_copyFrom_78 ?_
        refine z_iload_n C dX0_copyFrom_81 rfl 0 rfl ?_
        refine z_iald C 0 rfl 3 0 rfl rfl dX0_copyFrom_82 (by omega) (by decide) ?_
        refine z_iast C (B' := [(shF a cI cZ, σ), (shF b cI cZ, (zU (zU (zU ρ 1 (o) (σ 1 (o))) 2 (o) (σ 2 (o))) 3 (o) (σ 3 (o))))]) 1 rfl 3 0 rfl rfl dX0_copyFrom_83 (by omega) (by decide) rfl ?_
        refine z_aload_n C dX0_copyFrom_84 rfl 1 rfl ?_
        refine z_getR C wu_X0 1 rfl 0 rfl rfl 8 (by decide) rfl wf_X0_21 dX0_copyFrom_85 ?_
        refine z_iload_n C dX0_copyFrom_88 rfl 0 rfl ?_
        refine z_aload_n C dX0_copyFrom_89 rfl 2 rfl ?_
        refine z_getR C wu_X0 0 rfl 0 rfl rfl 8 (by decide) rfl wf_X0_21 dX0_copyFrom_90 ?_
        refine z_iload_n C dX0_copyFrom_93 rfl 0 rfl ?_
        refine z_iald C 0 rfl 4 0 rfl rfl dX0_copyFrom_94 (by omega) (by decide) ?_
        refine z_iast C (B' := [(shF a cI cZ, σ), (shF b cI cZ, (zU (zU (zU (zU ρ 1 (o) (σ 1 (o))) 2 (o) (σ 2 (o))) 3 (o) (σ 3 (o))) 4 (o) (σ 4 (o))))]) 1 rfl 4 0 rfl rfl dX0_copyFrom_95 (by omega) (by decide) rfl ?_
        refine z_aload_n C dX0_copyFrom_96 rfl 1 rfl ?_
        refine z_getR C wu_X0 1 rfl 0 rfl rfl 9 (by decide) rfl wf_X0_24 dX0_copyFrom_97 ?_
        refine z_iload_n C dX0_copyFrom_100 rfl 0 rfl ?_
        refine z_aload_n C dX0_copyFrom_101 rfl 2 rfl ?_
        refine z_getR C wu_X0 0 rfl 0 rfl rfl 9 (by decide) rfl wf_X0_24 dX0_copyFrom_102 ?_
        refine z_iload_n C dX0_copyFrom_105 rfl 0 rfl ?_
        refine z_iald C 0 rfl 5 0 rfl rfl dX0_copyFrom_106 (by omega) (by decide) ?_
        refine z_iast C (B' := [(shF a cI cZ, σ), (shF b cI cZ, (zU (zU (zU (zU (zU ρ 1 (o) (σ 1 (o))) 2 (o) (σ 2 (o))) 3 (o) (σ 3 (o))) 4 (o) (σ 4 (o))) 5 (o) (σ 5 (o))))]) 1 rfl 5 0 rfl rfl dX0_copyFrom_107 (by omega) (by decide) rfl ?_
        refine z_aload_n C dX0_copyFrom_108 rfl 1 rfl ?_
        refine z_getR C wu_X0 1 rfl 0 rfl rfl 10 (by decide) rfl wf_X0_27 dX0_copyFrom_109 ?_
        refine z_iload_n C dX0_copyFrom_112 rfl 0 rfl ?_
        refine z_aload_n C dX0_copyFrom_113 rfl 2 rfl ?_
        refine z_getR C wu_X0 0 rfl 0 rfl rfl 10 (by decide) rfl wf_X0_27 dX0_copyFrom_114 ?_
        refine z_iload_n C dX0_copyFrom_117 rfl 0 rfl ?_
        refine z_iald C 0 rfl 6 0 rfl rfl dX0_copyFrom_118 (by omega) (by decide) ?_
        refine z_iast C (B' := [(shF a cI cZ, σ), (shF b cI cZ, (zU (zU (zU (zU (zU (zU ρ 1 (o) (σ 1 (o))) 2 (o) (σ 2 (o))) 3 (o) (σ 3 (o))) 4 (o) (σ 4 (o))) 5 (o) (σ 5 (o))) 6 (o) (σ 6 (o))))]) 1 rfl 6 0 rfl rfl dX0_copyFrom_119 (by omega) (by decide) rfl ?_
        refine z_aload_n C dX0_copyFrom_120 rfl 1 rfl ?_
        refine z_getR C wu_X0 1 rfl 0 rfl rfl 11 (by decide) rfl wf_X0_30 dX0_copyFrom_121 ?_
        refine z_iload_n C dX0_copyFrom_124 rfl 0 rfl ?_
        refine z_aload_n C dX0_copyFrom_125 rfl 2 rfl ?_
        refine z_getR C wu_X0 0 rfl 0 rfl rfl 11 (by decide) rfl wf_X0_30 dX0_copyFrom_126 ?_
        refine z_iload_n C dX0_copyFrom_129 rfl 0 rfl ?_
        refine z_zald C 0 rfl 7 1 rfl rfl dX0_copyFrom_130 (by omega) (by decide) ?_
        refine z_zast C (B' := [(shF a cI cZ, σ), (shF b cI cZ, (zU (zU (zU (zU (zU (zU (zU ρ 1 (o) (σ 1 (o))) 2 (o) (σ 2 (o))) 3 (o) (σ 3 (o))) 4 (o) (σ 4 (o))) 5 (o) (σ 5 (o))) 6 (o) (σ 6 (o))) 7 (o) (σ 7 (o))))]) 1 rfl 7 1 rfl rfl dX0_copyFrom_131 (by omega) (by decide) (vp_01 (hu _ (by omega))) rfl ?_
        refine z_eq (B' := [(shF a cI cZ, σ), (shF b cI cZ, (fl_cpP (o + 1) σ τ))]) (congrArg (fun x => [(shF a cI cZ, σ), (shF b cI cZ, x)]) (by rw [hres]; exact fl_cp_1 o σ τ)) ?_
        refine z_iinc C (L' := [(2, .int (nI (o + 1))), (0, .ref (b 0)), (1, .ref (a 0))]) dX0_copyFrom_132 0 rfl (z_inc1 _) (by decide) rfl ?_
        refine z_goto C (tgt := 42) dX0_copyFrom_135 (by decide) ?_
        refine z_sub (L' := [(2, .int (nI (o + 1))), (0, .ref (b 0)), (1, .ref (a 0))]) [0, 1, 2] rfl ?_
        exact ih_42 (o + 1) _ (by omega) (by omega) rfl
  refine z_sub (L' := [(2, .int (nI (0))), (0, .ref (b 0)), (1, .ref (a 0))]) [0, 1, 2] rfl ?_
  exact loop_42 (7 + 1) 0 _ (by omega) (by omega) rfl
