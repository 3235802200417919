/-! the boats by hand: their methods -/
def fl_Lb (n : Nat) (σ : zF) : Prop := ∀ i, i < n → -1 ≤ (fl_last σ i).toInt ∧ (fl_last σ i).toInt ≤ 1000000
theorem hund {x : Int32} {l : Nat} (h1 : -1 ≤ x.toInt) (h2 : x.toInt ≤ 1000000) (h3 : l ≤ 10) : (nI 100 * x + nI l).toInt = 100 * x.toInt + l := by
  have e1 : (nI 100 * x).toInt = 100 * x.toInt := by
    rw [Int32.toInt_mul, nI_toInt (by omega)]
    exact Int.bmod_eq_of_le (by omega) (by omega)
  rw [Int32.toInt_add, e1, nI_toInt (by omega)]
  exact Int.bmod_eq_of_le (by omega) (by omega)
theorem asnew_lt {n : Nat} {σ : zF} (hI : fl_Iv n σ) (hb : fl_Lb n σ) {i j : Nat} (hi : i < n) (hj : j < n) : nI 100 * fl_last σ i + nI (fl_ln σ i) < nI 100 * fl_last σ j + nI (fl_ln σ j) ↔ fl_nw σ i j = false := by
  have h1 := hb i hi
  have h2 := hb j hj
  have l1 := hI.lnT hi
  have l2 := hI.lnT hj
  rw [Int32.lt_iff_toInt_lt, hund h1.1 h1.2 l1, hund h2.1 h2.2 l2]
  unfold fl_nw
  rw [decide_eq_false_iff_not, Int32.lt_iff_toInt_lt, ← Int32.toInt_inj]
  omega
def rlf (en : Nat → Nat → Nat) (i k : Nat) : Nat → Option Nat := fun j => if j < k then some (en i j) else none
theorem rlf_0 (en : Nat → Nat → Nat) (i : Nat) : (fun _ => none : Nat → Option Nat) = rlf en i 0 := by
  funext j
  simp [rlf]
theorem rlf_1 (en : Nat → Nat → Nat) (i k : Nat) : va_up (rlf en i k) k (some (en i k)) = rlf en i (k + 1) := by
  funext j
  unfold va_up rlf
  by_cases h : j = k
  · simp [h]
  · have e : (j < k + 1) = (j < k) := by
      apply propext
      omega
    simp [h, e]
theorem smS_8 {cB : ClassId} {a g : Nat → Nat} {σ : zF} {n : Nat} (i : Nat) (v : Int32) : smS cB a n g σ = smS cB a n g (zU σ 8 i v) := smS_cells (fun _ _ _ => rfl) (fun k _ _ h8 _ _ => by rw [zU_ne h8])
theorem smS_app {cB : ClassId} {a g : Nat → Nat} {σ : zF} {n : Nat} (i : Nat) (x y : Int32) : smS cB a n g σ = smS cB a n g (fl_app σ i x y) := smS_cells (fun _ _ _ => rfl) (fun k _ _ h8 _ _ => by
  unfold fl_app
  rw [zU_ne h8, zU_ne (by omega), zU_ne (by omega)])
theorem smK_cut {n i m : Nat} {σ : zF} {en : Nat → Nat → Nat} {ps : List (Nat × Int32 × Int32)} (h : smK n σ en ps) (hm : m ≤ fl_ln σ i) (h31 : m < 2 ^ 31) : smK n (zU σ 8 i (nI m)) (va_up en i (en i)) ps := fun j hj k hk => by
  rw [fl_ln_U8 σ i j m h31] at hk
  have e : va_up en i (en i) j = en j := by
    unfold va_up
    split
    · rename_i q
      rw [q]
    · rfl
  rw [e]
  refine h j hj k ?_
  split at hk
  · rename_i q
    rw [q]
    omega
  · exact hk
theorem smK_keep {n i : Nat} {σ : zF} {en : Nat → Nat → Nat} {ps : List (Nat × Int32 × Int32)} (h : smK n σ en ps) : smK n σ (va_up en i (en i)) ps := fun j hj k hk => by
  have e : va_up en i (en i) j = en j := by
    unfold va_up
    split
    · rename_i q
      rw [q]
    · rfl
  rw [e]
  exact h j hj k hk
theorem smK_app {n i r : Nat} {σ : zF} {en : Nat → Nat → Nat} {ps : List (Nat × Int32 × Int32)} {x y : Int32} (hI : fl_Iv n σ) (h : smK n σ en ps) (hi : i < n) (hl : fl_ln σ i < 10) (hr : (r, x, y) ∈ ps) : smK n (fl_app σ i x y) (va_up en i (va_up (en i) (fl_ln σ i) r)) ps := fun j hj k hk => by
  rw [fl_app_lnJ σ i x y hl j] at hk
  by_cases hji : j = i
  · subst hji
    rw [if_pos rfl] at hk
    by_cases hkl : k = fl_ln σ j
    · subst hkl
      simp [va_up, fl_app, zU_at]
      exact hr
    · have h1 : ¬ k = fl_ln σ j := hkl
      have := h j hj k (by omega)
      simp [va_up, fl_app, zU_at, h1]
      exact this
  · rw [if_neg hji] at hk
    have hlj := hI.lnT hj
    have h1 : ¬ j * 10 + k = i * 10 + fl_ln σ i := by omega
    have := h j hj k hk
    simp [va_up, fl_app, zU_at, h1, hji]
    exact this
theorem same_step {σ : zF} {i j k : Nat} (h1 : σ 10 (i * 10 + k) = σ 10 (j * 10 + k)) (h2 : σ 11 (i * 10 + k) = σ 11 (j * 10 + k)) (hi : k < fl_ln σ i) (hj : k < fl_ln σ j) (h : k ≤ fl_agr σ i j) : k + 1 ≤ fl_agr σ i j := by
  rcases Nat.lt_or_ge k (fl_agr σ i j) with q | q
  · exact q
  · have e : fl_agr σ i j = k := by omega
    have hne := agr_ne (σ := σ) (x := i) (y := j) (by omega) (by omega)
    rw [e] at hne
    exact absurd ⟨h1, h2⟩ hne
set_option maxHeartbeats 4000000 in
set_option maxRecDepth 100000 in
theorem c_X3_last (l : Launch) (D : va_G) (cI cZ cB cE : ClassId) (n : Nat) (a g : Nat → Nat) (σ : zF) (en : Nat → Nat → Nat) (ps : List (Nat × Int32 × Int32)) (hI : fl_Iv n σ) (hk : smK n σ en ps) (i : Nat) (hi : i < n) : zM l D (tyL cI cZ cB cE) yX3_last cX3_last 1 (some .int) (zR 0 0) [.ref (a (2 + (i)))] [(smS cB a n g σ, zZ), (smG cE n g σ en, zZ), (smP cI ps, zZ)] 0 0 (fun r u => r = some (.int (fl_last σ i)) ∧ u = [(smS cB a n g σ, zZ), (smG cE n g σ en, zZ), (smP cI ps, zZ)]) := by
  have hn3 := hI.n3
  have hn7 := hI.n7
  refine z_of (by decide) (Nat.le_of_ble_eq_true rfl) rfl ?_
  intro p e s m args below meth c A C hr hin
  obtain ⟨Q, hQ⟩ : ∃ Q, Q = MQ below (zQ (fun r u => r = some (.int (fl_last σ i)) ∧ u = [(smS cB a n g σ, zZ), (smG cE n g σ en, zZ), (smP cI ps, zZ)]) D (tyL cI cZ cB cE) A) args s 0 0 A := ⟨_, rfl⟩
  rw [← hQ]
  refine z_aload_n C dX3_last_0 rfl 0 rfl ?_
  refine z_bget C 0 rfl (i := i) (by omega) 8 (by decide) (v := .ref (g (i))) rfl wf_X3_19 dX3_last_1 ?_
  refine z_alenG C 1 rfl (i := i) (by omega) dX3_last_4 ?_
  have hl_1 := hI.lnT (i := i) (by omega)
  refine z_if_leN C (tgt := 25) dX3_last_5 (by decide) (by omega) (fun c_5 => ?_) (fun c_5 => ?_)
  · refine z_iconst C (v := -1) (by decide) dX3_last_25 ?_
    rw [hQ]; exact z_iret C hr dX3_last_26 ⟨congrArg (fun x => some (Value.int x)) (by rw [fl_last, if_pos c_5]), rfl⟩
  · refine z_aload_n C dX3_last_8 rfl 0 rfl ?_
    refine z_bget C 0 rfl (i := i) (by omega) 8 (by decide) (v := .ref (g (i))) rfl wf_X3_19 dX3_last_9 ?_
    refine z_aload_n C dX3_last_12 rfl 0 rfl ?_
    refine z_bget C 0 rfl (i := i) (by omega) 8 (by decide) (v := .ref (g (i))) rfl wf_X3_19 dX3_last_13 ?_
    refine z_alenG C 1 rfl (i := i) (by omega) dX3_last_16 ?_
    have hl_2 := hI.lnT (i := i) (by omega)
    refine z_iconst C (v := nI (1)) (by decide) dX3_last_17 ?_
    refine z_isubN C dX3_last_18 (by omega) ?_
    have hl_3 := hI.lnT (i := i) (by omega)
    refine z_aG C 1 rfl (i := i) (j := (fl_ln σ (i)) - 1) (by omega) (by omega) (by omega) dX3_last_19 ?_
    refine z_iconst C (v := nI (0)) (by decide) dX3_last_20 ?_
    refine z_iP0 C 2 rfl (hk (i) (by omega) ((fl_ln σ (i)) - 1) (by omega)) dX3_last_21 ?_
    refine z_goto C (tgt := 26) dX3_last_22 (by decide) ?_
    rw [hQ]; exact z_iret C hr dX3_last_26 ⟨congrArg (fun x => some (Value.int x)) (by rw [fl_last, if_neg (by omega), show i * 10 + fl_ln σ i - 1 = i * 10 + (fl_ln σ i - 1) by omega]), rfl⟩
set_option maxHeartbeats 4000000 in
set_option maxRecDepth 100000 in
theorem c_X3_same (l : Launch) (D : va_G) (cI cZ cB cE : ClassId) (n : Nat) (a g : Nat → Nat) (σ : zF) (en : Nat → Nat → Nat) (ps : List (Nat × Int32 × Int32)) (hI : fl_Iv n σ) (hk : smK n σ en ps) (i j : Nat) (hi : i < n) (hj : j < n) : zM l D (tyL cI cZ cB cE) yX3_same cX3_same 3 (some .int) (zR 0 0) [.ref (a (2 + (i))), .ref (a (2 + (j)))] [(smS cB a n g σ, zZ), (smG cE n g σ en, zZ), (smP cI ps, zZ)] 0 0 (fun r u => r = some (.int (nI (fl_agr σ i j))) ∧ u = [(smS cB a n g σ, zZ), (smG cE n g σ en, zZ), (smP cI ps, zZ)]) := by
  have hn3 := hI.n3
  have hn7 := hI.n7
  refine z_of (by decide) (Nat.le_of_ble_eq_true rfl) rfl ?_
  intro p e s m args below meth c A C hr hin
  obtain ⟨Q, hQ⟩ : ∃ Q, Q = MQ below (zQ (fun r u => r = some (.int (nI (fl_agr σ i j))) ∧ u = [(smS cB a n g σ, zZ), (smG cE n g σ en, zZ), (smP cI ps, zZ)]) D (tyL cI cZ cB cE) A) args s 0 0 A := ⟨_, rfl⟩
  rw [← hQ]
  have hag := agr_le σ i j
  refine z_iconst C (v := nI (0)) (by decide) dX3_same_0 ?_
  refine z_istore_n C (L' := [(2, .int (nI (0))), (0, .ref (a (2 + (i)))), (1, .ref (a (2 + (j))))]) dX3_same_1 rfl (by decide) rfl ?_
  have loop_2 : ∀ (k_2 k : Nat), fl_ln σ i < k + k_2 → k ≤ fl_ln σ i → (hle : k ≤ fl_agr σ i j) → zK p l e (zR 0 0) s m args below meth c D A 3 Q 0 0 2 [(2, .int (nI (k))), (0, .ref (a (2 + (i)))), (1, .ref (a (2 + (j))))] [] [(smS cB a n g σ, zZ), (smG cE n g σ en, zZ), (smP cI ps, zZ)] := by
    intro k_2
    induction k_2 with
    | zero => intro k  m1_2 m2_2; exact absurd m1_2 (by omega)
    | succ k_2 ih_2 =>
      intro k  m1_2 m2_2 hle
      refine z_iload_n C dX3_same_2 rfl 0 rfl ?_
      refine z_aload_n C dX3_same_3 rfl 1 rfl ?_
      refine z_bget C 0 rfl (i := i) (by omega) 8 (by decide) (v := .ref (g (i))) rfl wf_X3_19 dX3_same_4 ?_
      refine z_alenG C 1 rfl (i := i) (by omega) dX3_same_7 ?_
      have hl_1 := hI.lnT (i := i) (by omega)
      refine z_icmp_geN C (tgt := 66) dX3_same_8 (by decide) (by omega) (by omega) (fun c_8 => ?_) (fun c_8 => ?_)
      · refine z_aload_n C dX3_same_66 rfl 1 rfl ?_
        refine z_bget C 0 rfl (i := i) (by omega) 8 (by decide) (v := .ref (g (i))) rfl wf_X3_19 dX3_same_67 ?_
        refine z_alenG C 1 rfl (i := i) (by omega) dX3_same_70 ?_
        have hl_2 := hI.lnT (i := i) (by omega)
        rw [hQ]; exact z_iret C hr dX3_same_71 ⟨congrArg (fun x => some (Value.int (nI x))) (by omega), rfl⟩
      · refine z_iload_n C dX3_same_11 rfl 0 rfl ?_
        refine z_aload_n C dX3_same_12 rfl 2 rfl ?_
        refine z_bget C 0 rfl (i := j) (by omega) 8 (by decide) (v := .ref (g (j))) rfl wf_X3_19 dX3_same_13 ?_
        refine z_alenG C 1 rfl (i := j) (by omega) dX3_same_16 ?_
        have hl_3 := hI.lnT (i := j) (by omega)
        refine z_icmp_geN C (tgt := 58) dX3_same_17 (by decide) (by omega) (by omega) (fun c_17 => ?_) (fun c_17 => ?_)
        · refine z_iload_n C dX3_same_58 rfl 0 rfl ?_
          rw [hQ]; exact z_iret C hr dX3_same_59 ⟨congrArg (fun x => some (Value.int (nI x))) (by omega), rfl⟩
        · refine z_aload_n C dX3_same_20 rfl 1 rfl ?_
          refine z_bget C 0 rfl (i := i) (by omega) 8 (by decide) (v := .ref (g (i))) rfl wf_X3_19 dX3_same_21 ?_
          refine z_iload_n C dX3_same_24 rfl 0 rfl ?_
          have hl_4 := hI.lnT (i := i) (by omega)
          refine z_aG C 1 rfl (i := i) (j := k) (by omega) (by omega) (by omega) dX3_same_25 ?_
          refine z_iconst C (v := nI (0)) (by decide) dX3_same_26 ?_
          refine z_iP0 C 2 rfl (hk (i) (by omega) (k) (by omega)) dX3_same_27 ?_
          refine z_aload_n C dX3_same_28 rfl 2 rfl ?_
          refine z_bget C 0 rfl (i := j) (by omega) 8 (by decide) (v := .ref (g (j))) rfl wf_X3_19 dX3_same_29 ?_
          refine z_iload_n C dX3_same_32 rfl 0 rfl ?_
          have hl_5 := hI.lnT (i := j) (by omega)
          refine z_aG C 1 rfl (i := j) (j := k) (by omega) (by omega) (by omega) dX3_same_33 ?_
          refine z_iconst C (v := nI (0)) (by decide) dX3_same_34 ?_
          refine z_iP0 C 2 rfl (hk (j) (by omega) (k) (by omega)) dX3_same_35 ?_
          refine z_icmp_ne C (tgt := 58) dX3_same_36 (by decide) (fun c_36 => ?_) (fun c_36 => ?_)
          · refine z_iload_n C dX3_same_58 rfl 0 rfl ?_
            rw [hQ]; exact z_iret C hr dX3_same_59 ⟨congrArg (fun x => some (Value.int (nI x))) (by exact Nat.le_antisymm hle (Nat.le_of_not_lt fun h => c_36 (agr_eq h).1)), rfl⟩
          · refine z_aload_n C dX3_same_39 rfl 1 rfl ?_
            refine z_bget C 0 rfl (i := i) (by omega) 8 (by decide) (v := .ref (g (i))) rfl wf_X3_19 dX3_same_40 ?_
            refine z_iload_n C dX3_same_43 rfl 0 rfl ?_
            have hl_6 := hI.lnT (i := i) (by omega)
            refine z_aG C 1 rfl (i := i) (j := k) (by omega) (by omega) (by omega) dX3_same_44 ?_
            refine z_iconst C (v := nI (1)) (by decide) dX3_same_45 ?_
            refine z_iP1 C 2 rfl (hk (i) (by omega) (k) (by omega)) dX3_same_46 ?_
            refine z_aload_n C dX3_same_47 rfl 2 rfl ?_
            refine z_bget C 0 rfl (i := j) (by omega) 8 (by decide) (v := .ref (g (j))) rfl wf_X3_19 dX3_same_48 ?_
            refine z_iload_n C dX3_same_51 rfl 0 rfl ?_
            have hl_7 := hI.lnT (i := j) (by omega)
            refine z_aG C 1 rfl (i := j) (j := k) (by omega) (by omega) (by omega) dX3_same_52 ?_
            refine z_iconst C (v := nI (1)) (by decide) dX3_same_53 ?_
            refine z_iP1 C 2 rfl (hk (j) (by omega) (k) (by omega)) dX3_same_54 ?_
            refine z_icmp_eq C (tgt := 60) dX3_same_55 (by decide) (fun c_55 => ?_) (fun c_55 => ?_)
            · refine z_iinc C (L' := [(2, .int (nI (k + 1))), (0, .ref (a (2 + (i)))), (1, .ref (a (2 + (j))))]) dX3_same_60 0 rfl (z_inc1 _) (by decide) rfl ?_
              refine z_goto C (tgt := 2) dX3_same_63 (by decide) ?_
              refine z_sub (L' := [(2, .int (nI (k + 1))), (0, .ref (a (2 + (i)))), (1, .ref (a (2 + (j))))]) [0, 1, 2] rfl ?_
              exact ih_2 (k + 1)  (by omega) (by omega) (same_step c_36 c_55 (by omega) (by omega) hle)
            · refine z_iload_n C dX3_same_58 rfl 0 rfl ?_
              rw [hQ]; exact z_iret C hr dX3_same_59 ⟨congrArg (fun x => some (Value.int (nI x))) (by exact Nat.le_antisymm hle (Nat.le_of_not_lt fun h => c_55 (agr_eq h).2)), rfl⟩
  refine z_sub (L' := [(2, .int (nI (0))), (0, .ref (a (2 + (i)))), (1, .ref (a (2 + (j))))]) [0, 1, 2] rfl ?_
  exact loop_2 (fl_ln σ i + 1) 0  (by omega) (by omega) (Nat.zero_le _)
set_option maxHeartbeats 4000000 in
set_option maxRecDepth 100000 in
theorem c_X3_isAsNew (l : Launch) (D : va_G) (cI cZ cB cE : ClassId) (n : Nat) (a g : Nat → Nat) (σ : zF) (en : Nat → Nat → Nat) (ps : List (Nat × Int32 × Int32)) (hI : fl_Iv n σ) (hk : smK n σ en ps) (hb : fl_Lb n σ) (i j : Nat) (hi : i < n) (hj : j < n) : zM l D (tyL cI cZ cB cE) yX3_isAsNew cX3_isAsNew 2 (some .boolean) (zR 1 20) [.ref (a (2 + (i))), .ref (a (2 + (j)))] [(smS cB a n g σ, zZ), (smG cE n g σ en, zZ), (smP cI ps, zZ)] 0 0 (fun r u => r = some (.int (zb (fl_nw σ i j))) ∧ u = [(smS cB a n g σ, zZ), (smG cE n g σ en, zZ), (smP cI ps, zZ)]) := by
  have hn3 := hI.n3
  have hn7 := hI.n7
  refine z_of (by decide) (Nat.le_of_ble_eq_true rfl) rfl ?_
  intro p e s m args below meth c A C hr hin
  obtain ⟨Q, hQ⟩ : ∃ Q, Q = MQ below (zQ (fun r u => r = some (.int (zb (fl_nw σ i j))) ∧ u = [(smS cB a n g σ, zZ), (smG cE n g σ en, zZ), (smP cI ps, zZ)]) D (tyL cI cZ cB cE) A) args s 0 0 A := ⟨_, rfl⟩
  rw [← hQ]
  refine z_bipush C (v := nI (100)) (by decide) dX3_isAsNew_0 ?_
  refine z_aload_n C dX3_isAsNew_2 rfl 0 rfl ?_
  refine z_cVR C (st' := [.int (fl_last σ (i)), .int (nI (100))]) (B' := [(smS cB a n g σ, zZ), (smG cE n g σ en, zZ), (smP cI ps, zZ)]) [true, true, true] rfl (c_X3_last l D cI cZ cB cE n a g σ en ps hI hk (i) (by omega)) wq_yX3_last wm_X3_44 ⟨wn_yX3_last, wo_yX3_last⟩ ⟨rfl, rfl, Nat.le_of_ble_eq_true rfl, Nat.le_of_ble_eq_true rfl⟩ 0 rfl (2 + (i)) (smS_b (by omega)) rfl rfl rfl (Nat.le_of_ble_eq_true rfl) dX3_isAsNew_3 ⟨Nat.le_of_ble_eq_true rfl, Nat.le_of_ble_eq_true rfl⟩ rfl rfl ?_
  refine z_imul C dX3_isAsNew_6 ?_
  refine z_aload_n C dX3_isAsNew_7 rfl 0 rfl ?_
  refine z_bget C 0 rfl (i := i) (by omega) 8 (by decide) (v := .ref (g (i))) rfl wf_X3_19 dX3_isAsNew_8 ?_
  refine z_alenG C 1 rfl (i := i) (by omega) dX3_isAsNew_11 ?_
  have hl_1 := hI.lnT (i := i) (by omega)
  refine z_iadd C dX3_isAsNew_12 ?_
  refine z_bipush C (v := nI (100)) (by decide) dX3_isAsNew_13 ?_
  refine z_aload_n C dX3_isAsNew_15 rfl 1 rfl ?_
  refine z_cVR C (st' := [.int (fl_last σ (j)), .int (nI (100)), .int (((nI (100)) * (fl_last σ (i))) + (nI (fl_ln σ (i))))]) (B' := [(smS cB a n g σ, zZ), (smG cE n g σ en, zZ), (smP cI ps, zZ)]) [true, true, true] rfl (c_X3_last l D cI cZ cB cE n a g σ en ps hI hk (j) (by omega)) wq_yX3_last wm_X3_44 ⟨wn_yX3_last, wo_yX3_last⟩ ⟨rfl, rfl, Nat.le_of_ble_eq_true rfl, Nat.le_of_ble_eq_true rfl⟩ 0 rfl (2 + (j)) (smS_b (by omega)) rfl rfl rfl (Nat.le_of_ble_eq_true rfl) dX3_isAsNew_16 ⟨Nat.le_of_ble_eq_true rfl, Nat.le_of_ble_eq_true rfl⟩ rfl rfl ?_
  refine z_imul C dX3_isAsNew_19 ?_
  refine z_aload_n C dX3_isAsNew_20 rfl 1 rfl ?_
  refine z_bget C 0 rfl (i := j) (by omega) 8 (by decide) (v := .ref (g (j))) rfl wf_X3_19 dX3_isAsNew_21 ?_
  refine z_alenG C 1 rfl (i := j) (by omega) dX3_isAsNew_24 ?_
  have hl_2 := hI.lnT (i := j) (by omega)
  refine z_iadd C dX3_isAsNew_25 ?_
  refine z_icmp_lt C (tgt := 33) dX3_isAsNew_26 (by decide) (fun c_26 => ?_) (fun c_26 => ?_)
  · refine z_iconst C (v := nI (0)) (by decide) dX3_isAsNew_33 ?_
    rw [hQ]; exact z_zret C hr nar_0 dX3_isAsNew_34 ⟨z_b0 (by exact (asnew_lt hI hb hi hj).mp c_26), rfl⟩
  · refine z_iconst C (v := nI (1)) (by decide) dX3_isAsNew_29 ?_
    refine z_goto C (tgt := 34) dX3_isAsNew_30 (by decide) ?_
    rw [hQ]; exact z_zret C hr nar_1 dX3_isAsNew_34 ⟨z_b1 (by exact Bool.not_eq_false _ ▸ (fun h => c_26 ((asnew_lt hI hb hi hj).mpr h) : ¬ fl_nw σ i j = false)), rfl⟩
set_option maxHeartbeats 4000000 in
set_option maxRecDepth 100000 in
theorem c_X3_meet (l : Launch) (D : va_G) (cI cZ cB cE : ClassId) (n : Nat) (a g : Nat → Nat) (σ : zF) (en : Nat → Nat → Nat) (ps : List (Nat × Int32 × Int32)) (hI : fl_Iv n σ) (hk : smK n σ en ps) (i : Nat) (x : Int32) (hi : i < n) : zM l D (tyL cI cZ cB cE) yX3_meet cX3_meet 2 none (zR 0 0) [.ref (a (2 + (i))), .int (x)] [(smS cB a n g σ, zZ), (smG cE n g σ en, zZ), (smP cI ps, zZ)] 0 0 (fun r u => r = none ∧ u = [(smS cB a n g ((fl_hof σ i x)), zZ), (smG cE n g ((fl_hof σ i x)) en, zZ), (smP cI ps, zZ)]) := by
  have hn3 := hI.n3
  have hn7 := hI.n7
  refine z_of (by decide) (Nat.le_of_ble_eq_true rfl) rfl ?_
  intro p e s m args below meth c A C hr hin
  obtain ⟨Q, hQ⟩ : ∃ Q, Q = MQ below (zQ (fun r u => r = none ∧ u = [(smS cB a n g ((fl_hof σ i x)), zZ), (smG cE n g ((fl_hof σ i x)) en, zZ), (smP cI ps, zZ)]) D (tyL cI cZ cB cE) A) args s 0 0 A := ⟨_, rfl⟩
  rw [← hQ]
  refine z_iload_n C dX3_meet_0 rfl 1 rfl ?_
  refine z_aload_n C dX3_meet_1 rfl 0 rfl ?_
  refine z_bget C 0 rfl (i := i) (by omega) 2 (by decide) (v := .int (σ 3 (i))) rfl wf_X3_32 dX3_meet_2 ?_
  refine z_icmp_gt C (tgt := 9) dX3_meet_5 (by decide) (fun c_5 => ?_) (fun c_5 => ?_)
  · refine z_aload_n C dX3_meet_9 rfl 0 rfl ?_
    refine z_iload_n C dX3_meet_10 rfl 1 rfl ?_
    refine z_bput C (B' := [(smS cB a n g ((zU σ 3 (i) (x))), zZ), (smG cE n g ((zU σ 3 (i) (x))) en, zZ), (smP cI ps, zZ)]) 0 rfl (i := i) (by omega) 2 3 (by decide) rfl rfl wf_X3_32 rfl dX3_meet_11 rfl ?_
    refine z_aload_n C dX3_meet_14 rfl 0 rfl ?_
    refine z_iconst C (v := -1) (by decide) dX3_meet_15 ?_
    refine z_bput C (B' := [(smS cB a n g ((zU (zU σ 3 (i) (x)) 4 (i) (-1))), zZ), (smG cE n g ((zU (zU σ 3 (i) (x)) 4 (i) (-1))) en, zZ), (smP cI ps, zZ)]) 0 rfl (i := i) (by omega) 3 4 (by decide) rfl rfl wf_X3_7 rfl dX3_meet_16 rfl ?_
    refine z_aload_n C dX3_meet_19 rfl 0 rfl ?_
    refine z_iconst C (v := nI (0)) (by decide) dX3_meet_20 ?_
    refine z_bput C (B' := [(smS cB a n g ((zU (zU (zU σ 3 (i) (x)) 4 (i) (-1)) 5 (i) (nI (0)))), zZ), (smG cE n g ((zU (zU (zU σ 3 (i) (x)) 4 (i) (-1)) 5 (i) (nI (0)))) en, zZ), (smP cI ps, zZ)]) 0 rfl (i := i) (by omega) 4 5 (by decide) rfl rfl wf_X3_35 rfl dX3_meet_21 rfl ?_
    rw [hQ]; exact z_vret C hr dX3_meet_24 ⟨rfl, (by rw [fl_hof, if_neg (Int32.not_le.mpr c_5)]; rfl)⟩
  · rw [hQ]; exact z_vret C hr dX3_meet_8 ⟨rfl, (by rw [fl_hof, if_pos (Int32.not_lt.mp c_5)])⟩
set_option maxHeartbeats 4000000 in
set_option maxRecDepth 100000 in
theorem c_X3_cut (l : Launch) (D : va_G) (cI cZ cB cE : ClassId) (n : Nat) (a g : Nat → Nat) (σ : zF) (en : Nat → Nat → Nat) (ps : List (Nat × Int32 × Int32)) (hI : fl_Iv n σ) (hk : smK n σ en ps) (i r : Nat) (hi : i < n) (h0 : 0 < fl_ln σ i) : zM l D (tyL cI cZ cB cE) yX3_relog cX3_relog 7 none ({ frames := 0, cells := 1, slots := 11, locals := 0 } : Room) [.ref (a (2 + (i))), .int (nI (fl_ln σ i - 1)), .ref (r), .int (-1)] [(smS cB a n g σ, zZ), (smG cE n g σ en, zZ), (smP cI ps, zZ)] 1 11 (fun r u => r = none ∧ ∃ q, u = [(smS cB a n (va_up g i q) ((zU σ 8 i (nI (fl_ln σ i - 1)))), zZ), (smG cE n (va_up g i q) ((zU σ 8 i (nI (fl_ln σ i - 1)))) (va_up en i (en i)), zZ), (smP cI ps, zZ)]) := by
  have hn3 := hI.n3
  have hn7 := hI.n7
  refine z_of (by decide) (Nat.le_of_ble_eq_true rfl) rfl ?_
  intro p e s m args below meth c A C hr hin
  obtain ⟨Q, hQ⟩ : ∃ Q, Q = MQ below (zQ (fun r u => r = none ∧ ∃ q, u = [(smS cB a n (va_up g i q) ((zU σ 8 i (nI (fl_ln σ i - 1)))), zZ), (smG cE n (va_up g i q) ((zU σ 8 i (nI (fl_ln σ i - 1)))) (va_up en i (en i)), zZ), (smP cI ps, zZ)]) D (tyL cI cZ cB cE) A) args s 1 11 A := ⟨_, rfl⟩
  rw [← hQ]
  have hl := hI.lnT hi
  refine z_iload_n C dX3_relog_0 rfl 3 rfl ?_
  refine z_if_lt C (tgt := 14) dX3_relog_1 (by decide) (fun c_1 => ?_) (fun c_1 => ?_)
  · refine z_iconst C (v := nI (0)) (by decide) dX3_relog_14 ?_
    refine z_istore C (L' := [(4, .int (nI (0))), (0, .ref (a (2 + (i)))), (1, .int (nI (fl_ln σ i - 1))), (2, .ref (r)), (3, .int (-1))]) dX3_relog_15 (by decide) rfl ?_
    refine z_iload_n C dX3_relog_17 rfl 2 rfl ?_
    refine z_iload C dX3_relog_18 0 rfl ?_
    refine z_if_eqN C (tgt := 27) dX3_relog_20 (by decide) (by omega) (fun c_20 => ?_) (fun c_20 => ?_)
    · refine z_iconst C (v := nI (0)) (by decide) dX3_relog_27 ?_
      refine z_iaddN C dX3_relog_28 ?_
      refine z_newA C (N := (fl_ln σ i - 1) + 0) (t := 3) (cA := cE) wl_X3_17 wa_over_I rfl (by omega) ⟨by show _ ≤ 1; omega, by show _ ≤ 11; omega⟩ dX3_relog_29 (fun q => ?_)
      refine z_eq (B' := [(smS cB a n g σ, zZ), (smG cE n g σ en, zZ), (smP cI ps, zZ), ([(q, zQr cE ((fl_ln σ i - 1) + 0) (fun _ => none))], zZ)]) rfl ?_
      refine z_astore C (L' := [(5, .ref (q)), (4, .int (nI (0))), (0, .ref (a (2 + (i)))), (1, .int (nI (fl_ln σ i - 1))), (2, .ref (r)), (3, .int (-1))]) dX3_relog_32 (by decide) rfl ?_
      refine z_iconst C (v := nI (0)) (by decide) dX3_relog_34 ?_
      refine z_istore C (L' := [(6, .int (nI (0))), (5, .ref (q)), (4, .int (nI (0))), (0, .ref (a (2 + (i)))), (1, .int (nI (fl_ln σ i - 1))), (2, .ref (r)), (3, .int (-1))]) dX3_relog_35 (by decide) rfl ?_
      refine z_eq (B' := [(smS cB a n g σ, zZ), (smG cE n g σ en, zZ), (smP cI ps, zZ), ([(q, zQr cE ((fl_ln σ i - 1) + 0) (rlf en i 0))], zZ)]) (by rw [rlf_0 en i]) ?_
      have loop_37 : ∀ (k_37 k : Nat), fl_ln σ i - 1 < k + k_37 → k ≤ fl_ln σ i - 1 → zK p l e ({ frames := 0, cells := 1, slots := 11, locals := 0 } : Room) s m args below meth c D A 7 Q (0 + 1) (0 + (fl_ln σ i - 1 + 0)) 37 [(6, .int (nI (k))), (5, .ref (q)), (0, .ref (a (2 + (i)))), (1, .int (nI (fl_ln σ i - 1))), (2, .ref (r)), (3, .int (-1)), (4, .int (nI (0)))] [] [(smS cB a n g σ, zZ), (smG cE n g σ en, zZ), (smP cI ps, zZ), ([(q, zQr cE (fl_ln σ i - 1 + 0) (rlf en i k))], zZ)] := by
        intro k_37
        induction k_37 with
        | zero => intro k  m1_37 m2_37; exact absurd m1_37 (by omega)
        | succ k_37 ih_37 =>
          intro k  m1_37 m2_37 
          refine z_iload C dX3_relog_37 0 rfl ?_
          refine z_iload_n C dX3_relog_39 rfl 3 rfl ?_
          refine z_icmp_geN C (tgt := 61) dX3_relog_40 (by decide) (by omega) (by omega) (fun c_40 => ?_) (fun c_40 => ?_)
          · refine z_iload C dX3_relog_61 6 rfl ?_
            refine z_if_eqN C (tgt := 73) dX3_relog_63 (by decide) (by omega) (fun c_63 => ?_) (fun c_63 => ?_)
            · refine z_aload_n C dX3_relog_73 rfl 2 rfl ?_
              refine z_aload C dX3_relog_74 1 rfl ?_
              refine z_bputG C (B' := [(smS cB a n (va_up g (i) q) σ, zZ), (smG cE n g σ en, zZ), (smP cI ps, zZ), ([(q, zQr cE (fl_ln σ i - 1 + 0) (rlf en i k))], zZ)]) 0 rfl (i := i) (by omega) wf_X3_19 dX3_relog_76 rfl ?_
              have hkm : k = fl_ln σ i - 1 := by omega
              refine z_acong 3 rfl 0 (f' := fun k => some ((en i) k)) rfl (fun k' hk' => ?_) (B' := [(smS cB a n (va_up g (i) q) σ, zZ), (smG cE n g σ en, zZ), (smP cI ps, zZ), ([(q, zQr cE (fl_ln σ i - 1 + 0) (fun k => some ((en i) k)))], zZ)]) rfl ?_
              · unfold rlf; rw [if_pos (by omega)]
              refine z_eq (B' := [(smS cB a n (va_up g (i) q) ((zU σ 8 i (nI (fl_ln σ i - 1)))), zZ), (smG cE n g σ en, zZ), (smP cI ps, zZ), ([(q, zQr cE (fl_ln σ i - 1 + 0) (fun k => some ((en i) k)))], zZ)]) (by rw [smS_8 i (nI (fl_ln σ i - 1))]) ?_
              obtain ⟨X, hX⟩ := smG_re (cE := cE) (n := n) (i := i) (q := q) (m := fl_ln σ i - 1 + 0) (g := g) (σ := σ) (σ' := (zU σ 8 i (nI (fl_ln σ i - 1)))) (τ := zZ) (en := en) (f := en i) hi (by rw [fl_ln_U8 σ i i _ (by omega), if_pos rfl, Nat.add_zero]) (fun j _ hji => by rw [fl_ln_U8 σ i j _ (by omega), if_neg hji]) [(smS cB a n (va_up g (i) q) ((zU σ 8 i (nI (fl_ln σ i - 1)))), zZ)] [(smP cI ps, zZ)]
              refine z_drop (B' := [(smS cB a n (va_up g (i) q) ((zU σ 8 i (nI (fl_ln σ i - 1)))), zZ), (smG cE n (va_up g (i) q) ((zU σ 8 i (nI (fl_ln σ i - 1)))) (va_up en i (en i)), zZ), (smP cI ps, zZ)]) (X := X) hX ?_
              refine z_widen (k := 1) (n := 11) (by omega) (by omega) ?_
              rw [hQ]; exact z_vret C hr dX3_relog_79 ⟨rfl, q, rfl⟩
            · exact absurd c_63 (by omega)
          · refine z_aload C dX3_relog_43 1 rfl ?_
            refine z_iload C dX3_relog_45 0 rfl ?_
            refine z_aload_n C dX3_relog_47 rfl 2 rfl ?_
            refine z_bget C 0 rfl (i := i) (by omega) 8 (by decide) (v := .ref (g (i))) rfl wf_X3_19 dX3_relog_48 ?_
            refine z_iload C dX3_relog_51 0 rfl ?_
            have hl_1 := hI.lnT (i := i) (by omega)
            refine z_aG C 1 rfl (i := i) (j := k) (by omega) (by omega) (by omega) dX3_relog_53 ?_
            obtain ⟨j9, hj9⟩ := smP_mem (cI := cI) (hk (i) (by omega) (k) (by omega))
            refine z_astA C (B' := [(smS cB a n g σ, zZ), (smG cE n g σ en, zZ), (smP cI ps, zZ), ([(q, zQr cE (fl_ln σ i - 1 + 0) (va_up (rlf en i k) (k) (some (en (i) (k)))))], zZ)]) 3 2 rfl rfl 0 j9 3 0 rfl (Or.inl hj9) rfl rfl wa_over_I dX3_relog_54 (by omega) (by omega) rfl ?_
            refine z_iinc C (L' := [(6, .int (nI (k + 1))), (5, .ref (q)), (0, .ref (a (2 + (i)))), (1, .int (nI (fl_ln σ i - 1))), (2, .ref (r)), (3, .int (-1)), (4, .int (nI (0)))]) dX3_relog_55 0 rfl (z_inc1 _) (by decide) rfl ?_
            refine z_goto C (tgt := 37) dX3_relog_58 (by decide) ?_
            refine z_eq (B' := [(smS cB a n g σ, zZ), (smG cE n g σ en, zZ), (smP cI ps, zZ), ([(q, zQr cE (fl_ln σ i - 1 + 0) (rlf en i (k + 1)))], zZ)]) (by rw [rlf_1]) ?_
            refine z_sub (L' := [(6, .int (nI (k + 1))), (5, .ref (q)), (0, .ref (a (2 + (i)))), (1, .int (nI (fl_ln σ i - 1))), (2, .ref (r)), (3, .int (-1)), (4, .int (nI (0)))]) [0, 1, 2, 3, 4, 5, 6] rfl ?_
            exact ih_37 (k + 1)  (by omega) (by omega) 
      refine z_sub (L' := [(6, .int (nI (0))), (5, .ref (q)), (0, .ref (a (2 + (i)))), (1, .int (nI (fl_ln σ i - 1))), (2, .ref (r)), (3, .int (-1)), (4, .int (nI (0)))]) [0, 1, 3, 4, 5, 6, 2] rfl ?_
      exact loop_37 (fl_ln σ i - 1 + 1) 0  (by omega) (by omega) 
    · exact absurd c_20 (by omega)
  · exact absurd (by decide) c_1
set_option maxHeartbeats 4000000 in
set_option maxRecDepth 100000 in
theorem c_X3_keep (l : Launch) (D : va_G) (cI cZ cB cE : ClassId) (n : Nat) (a g : Nat → Nat) (σ : zF) (en : Nat → Nat → Nat) (ps : List (Nat × Int32 × Int32)) (hI : fl_Iv n σ) (hk : smK n σ en ps) (i b : Nat) (k0 : Nat) (hi : i < n) (hb : b < n) (hk0 : k0 = fl_ln σ i) (hge : fl_ln σ b ≤ k0) : zM l D (tyL cI cZ cB cE) yX3_relog cX3_relog 7 none ({ frames := 0, cells := 1, slots := 11, locals := 0 } : Room) [.ref (a (2 + (i))), .int (nI (k0)), .ref (g b), .int (nI (k0))] [(smS cB a n g σ, zZ), (smG cE n g σ en, zZ), (smP cI ps, zZ)] 1 11 (fun r u => r = none ∧ ∃ q, u = [(smS cB a n (va_up g i q) σ, zZ), (smG cE n (va_up g i q) σ (va_up en i (en i)), zZ), (smP cI ps, zZ)]) := by
  have hn3 := hI.n3
  have hn7 := hI.n7
  refine z_of (by decide) (Nat.le_of_ble_eq_true rfl) rfl ?_
  intro p e s m args below meth c A C hr hin
  obtain ⟨Q, hQ⟩ : ∃ Q, Q = MQ below (zQ (fun r u => r = none ∧ ∃ q, u = [(smS cB a n (va_up g i q) σ, zZ), (smG cE n (va_up g i q) σ (va_up en i (en i)), zZ), (smP cI ps, zZ)]) D (tyL cI cZ cB cE) A) args s 1 11 A := ⟨_, rfl⟩
  rw [← hQ]
  have hl := hI.lnT hi
  refine z_iload_n C dX3_relog_0 rfl 3 rfl ?_
  refine z_if_ltN C (tgt := 14) dX3_relog_1 (by decide) (by omega) ?_
  refine z_iload_n C dX3_relog_4 rfl 3 rfl ?_
  refine z_aload_n C dX3_relog_5 rfl 2 rfl ?_
  refine z_alenG C 1 rfl (i := b) (by omega) dX3_relog_6 ?_
  have hl_1 := hI.lnT (i := b) (by omega)
  refine z_icmp_geN C (tgt := 14) dX3_relog_7 (by decide) (by omega) (by omega) (fun c_7 => ?_) (fun c_7 => ?_)
  · refine z_iconst C (v := nI (0)) (by decide) dX3_relog_14 ?_
    refine z_istore C (L' := [(4, .int (nI (0))), (0, .ref (a (2 + (i)))), (1, .int (nI (k0))), (2, .ref (g b)), (3, .int (nI (k0)))]) dX3_relog_15 (by decide) rfl ?_
    refine z_iload_n C dX3_relog_17 rfl 2 rfl ?_
    refine z_iload C dX3_relog_18 0 rfl ?_
    refine z_if_eqN C (tgt := 27) dX3_relog_20 (by decide) (by omega) (fun c_20 => ?_) (fun c_20 => ?_)
    · refine z_iconst C (v := nI (0)) (by decide) dX3_relog_27 ?_
      refine z_iaddN C dX3_relog_28 ?_
      refine z_newA C (N := k0 + 0) (t := 3) (cA := cE) wl_X3_17 wa_over_I rfl (by omega) ⟨by show _ ≤ 1; omega, by show _ ≤ 11; omega⟩ dX3_relog_29 (fun q => ?_)
      refine z_eq (B' := [(smS cB a n g σ, zZ), (smG cE n g σ en, zZ), (smP cI ps, zZ), ([(q, zQr cE (k0 + 0) (fun _ => none))], zZ)]) rfl ?_
      refine z_astore C (L' := [(5, .ref (q)), (4, .int (nI (0))), (0, .ref (a (2 + (i)))), (1, .int (nI (k0))), (2, .ref (g b)), (3, .int (nI (k0)))]) dX3_relog_32 (by decide) rfl ?_
      refine z_iconst C (v := nI (0)) (by decide) dX3_relog_34 ?_
      refine z_istore C (L' := [(6, .int (nI (0))), (5, .ref (q)), (4, .int (nI (0))), (0, .ref (a (2 + (i)))), (1, .int (nI (k0))), (2, .ref (g b)), (3, .int (nI (k0)))]) dX3_relog_35 (by decide) rfl ?_
      refine z_eq (B' := [(smS cB a n g σ, zZ), (smG cE n g σ en, zZ), (smP cI ps, zZ), ([(q, zQr cE (k0 + 0) (rlf en i 0))], zZ)]) (by rw [rlf_0 en i]) ?_
      have loop_37 : ∀ (k_37 k : Nat), k0 < k + k_37 → k ≤ k0 → zK p l e ({ frames := 0, cells := 1, slots := 11, locals := 0 } : Room) s m args below meth c D A 7 Q (0 + 1) (0 + (k0 + 0)) 37 [(6, .int (nI (k))), (5, .ref (q)), (0, .ref (a (2 + (i)))), (1, .int (nI (k0))), (2, .ref (g b)), (3, .int (nI (k0))), (4, .int (nI (0)))] [] [(smS cB a n g σ, zZ), (smG cE n g σ en, zZ), (smP cI ps, zZ), ([(q, zQr cE (k0 + 0) (rlf en i k))], zZ)] := by
        intro k_37
        induction k_37 with
        | zero => intro k  m1_37 m2_37; exact absurd m1_37 (by omega)
        | succ k_37 ih_37 =>
          intro k  m1_37 m2_37 
          refine z_iload C dX3_relog_37 0 rfl ?_
          refine z_iload_n C dX3_relog_39 rfl 3 rfl ?_
          refine z_icmp_geN C (tgt := 61) dX3_relog_40 (by decide) (by omega) (by omega) (fun c_40 => ?_) (fun c_40 => ?_)
          · refine z_iload C dX3_relog_61 6 rfl ?_
            refine z_if_eqN C (tgt := 73) dX3_relog_63 (by decide) (by omega) (fun c_63 => ?_) (fun c_63 => ?_)
            · refine z_aload_n C dX3_relog_73 rfl 2 rfl ?_
              refine z_aload C dX3_relog_74 1 rfl ?_
              refine z_bputG C (B' := [(smS cB a n (va_up g (i) q) σ, zZ), (smG cE n g σ en, zZ), (smP cI ps, zZ), ([(q, zQr cE (k0 + 0) (rlf en i k))], zZ)]) 0 rfl (i := i) (by omega) wf_X3_19 dX3_relog_76 rfl ?_
              have hkm : k = k0 := by omega
              refine z_acong 3 rfl 0 (f' := fun k => some ((en i) k)) rfl (fun k' hk' => ?_) (B' := [(smS cB a n (va_up g (i) q) σ, zZ), (smG cE n g σ en, zZ), (smP cI ps, zZ), ([(q, zQr cE (k0 + 0) (fun k => some ((en i) k)))], zZ)]) rfl ?_
              · unfold rlf; rw [if_pos (by omega)]
              obtain ⟨X, hX⟩ := smG_re (cE := cE) (n := n) (i := i) (q := q) (m := k0 + 0) (g := g) (σ := σ) (σ' := σ) (τ := zZ) (en := en) (f := en i) hi (by omega) (fun _ _ _ => rfl) [(smS cB a n (va_up g (i) q) σ, zZ)] [(smP cI ps, zZ)]
              refine z_drop (B' := [(smS cB a n (va_up g (i) q) σ, zZ), (smG cE n (va_up g (i) q) σ (va_up en i (en i)), zZ), (smP cI ps, zZ)]) (X := X) hX ?_
              refine z_widen (k := 1) (n := 11) (by omega) (by omega) ?_
              rw [hQ]; exact z_vret C hr dX3_relog_79 ⟨rfl, q, rfl⟩
            · exact absurd c_63 (by omega)
          · refine z_aload C dX3_relog_43 1 rfl ?_
            refine z_iload C dX3_relog_45 0 rfl ?_
            refine z_aload_n C dX3_relog_47 rfl 2 rfl ?_
            refine z_bget C 0 rfl (i := i) (by omega) 8 (by decide) (v := .ref (g (i))) rfl wf_X3_19 dX3_relog_48 ?_
            refine z_iload C dX3_relog_51 0 rfl ?_
            have hl_2 := hI.lnT (i := i) (by omega)
            refine z_aG C 1 rfl (i := i) (j := k) (by omega) (by omega) (by omega) dX3_relog_53 ?_
            obtain ⟨j9, hj9⟩ := smP_mem (cI := cI) (hk (i) (by omega) (k) (by omega))
            refine z_astA C (B' := [(smS cB a n g σ, zZ), (smG cE n g σ en, zZ), (smP cI ps, zZ), ([(q, zQr cE (k0 + 0) (va_up (rlf en i k) (k) (some (en (i) (k)))))], zZ)]) 3 2 rfl rfl 0 j9 3 0 rfl (Or.inl hj9) rfl rfl wa_over_I dX3_relog_54 (by omega) (by omega) rfl ?_
            refine z_iinc C (L' := [(6, .int (nI (k + 1))), (5, .ref (q)), (0, .ref (a (2 + (i)))), (1, .int (nI (k0))), (2, .ref (g b)), (3, .int (nI (k0))), (4, .int (nI (0)))]) dX3_relog_55 0 rfl (z_inc1 _) (by decide) rfl ?_
            refine z_goto C (tgt := 37) dX3_relog_58 (by decide) ?_
            refine z_eq (B' := [(smS cB a n g σ, zZ), (smG cE n g σ en, zZ), (smP cI ps, zZ), ([(q, zQr cE (k0 + 0) (rlf en i (k + 1)))], zZ)]) (by rw [rlf_1]) ?_
            refine z_sub (L' := [(6, .int (nI (k + 1))), (5, .ref (q)), (0, .ref (a (2 + (i)))), (1, .int (nI (k0))), (2, .ref (g b)), (3, .int (nI (k0))), (4, .int (nI (0)))]) [0, 1, 2, 3, 4, 5, 6] rfl ?_
            exact ih_37 (k + 1)  (by omega) (by omega) 
      refine z_sub (L' := [(6, .int (nI (0))), (5, .ref (q)), (0, .ref (a (2 + (i)))), (1, .int (nI (k0))), (2, .ref (g b)), (3, .int (nI (k0))), (4, .int (nI (0)))]) [0, 1, 3, 4, 5, 6, 2] rfl ?_
      exact loop_37 (k0 + 1) 0  (by omega) (by omega) 
    · exact absurd c_20 (by omega)
  · exact absurd c_7 (by omega)
set_option maxHeartbeats 4000000 in
set_option maxRecDepth 100000 in
theorem c_X3_add (l : Launch) (D : va_G) (cI cZ cB cE : ClassId) (n : Nat) (a g : Nat → Nat) (σ : zF) (en : Nat → Nat → Nat) (ps : List (Nat × Int32 × Int32)) (hI : fl_Iv n σ) (hk : smK n σ en ps) (i b : Nat) (k0 : Nat) (hi : i < n) (hb : b < n) (hk0 : k0 = fl_ln σ i) (hlt : k0 < fl_ln σ b) : zM l D (tyL cI cZ cB cE) yX3_relog cX3_relog 7 none ({ frames := 0, cells := 1, slots := 11, locals := 0 } : Room) [.ref (a (2 + (i))), .int (nI (k0)), .ref (g b), .int (nI (k0))] [(smS cB a n g σ, zZ), (smG cE n g σ en, zZ), (smP cI ps, zZ)] 1 11 (fun r u => r = none ∧ ∃ q, u = [(smS cB a n (va_up g i q) ((fl_app σ i (σ 10 (b * 10 + k0)) (σ 11 (b * 10 + k0)))), zZ), (smG cE n (va_up g i q) ((fl_app σ i (σ 10 (b * 10 + k0)) (σ 11 (b * 10 + k0)))) (va_up en i (va_up (en i) (fl_ln σ i) (en b k0))), zZ), (smP cI ps, zZ)]) := by
  have hn3 := hI.n3
  have hn7 := hI.n7
  refine z_of (by decide) (Nat.le_of_ble_eq_true rfl) rfl ?_
  intro p e s m args below meth c A C hr hin
  obtain ⟨Q, hQ⟩ : ∃ Q, Q = MQ below (zQ (fun r u => r = none ∧ ∃ q, u = [(smS cB a n (va_up g i q) ((fl_app σ i (σ 10 (b * 10 + k0)) (σ 11 (b * 10 + k0)))), zZ), (smG cE n (va_up g i q) ((fl_app σ i (σ 10 (b * 10 + k0)) (σ 11 (b * 10 + k0)))) (va_up en i (va_up (en i) (fl_ln σ i) (en b k0))), zZ), (smP cI ps, zZ)]) D (tyL cI cZ cB cE) A) args s 1 11 A := ⟨_, rfl⟩
  rw [← hQ]
  have hl := hI.lnT hi
  have hl2 := hI.lnT hb
  refine z_iload_n C dX3_relog_0 rfl 3 rfl ?_
  refine z_if_ltN C (tgt := 14) dX3_relog_1 (by decide) (by omega) ?_
  refine z_iload_n C dX3_relog_4 rfl 3 rfl ?_
  refine z_aload_n C dX3_relog_5 rfl 2 rfl ?_
  refine z_alenG C 1 rfl (i := b) (by omega) dX3_relog_6 ?_
  have hl_1 := hI.lnT (i := b) (by omega)
  refine z_icmp_geN C (tgt := 14) dX3_relog_7 (by decide) (by omega) (by omega) (fun c_7 => ?_) (fun c_7 => ?_)
  · exact absurd c_7 (by omega)
  · refine z_iconst C (v := nI (1)) (by decide) dX3_relog_10 ?_
    refine z_goto C (tgt := 15) dX3_relog_11 (by decide) ?_
    refine z_istore C (L' := [(4, .int (nI (1))), (0, .ref (a (2 + (i)))), (1, .int (nI (k0))), (2, .ref (g b)), (3, .int (nI (k0)))]) dX3_relog_15 (by decide) rfl ?_
    refine z_iload_n C dX3_relog_17 rfl 2 rfl ?_
    refine z_iload C dX3_relog_18 0 rfl ?_
    refine z_if_eqN C (tgt := 27) dX3_relog_20 (by decide) (by omega) (fun c_20 => ?_) (fun c_20 => ?_)
    · exact absurd c_20 (by omega)
    · refine z_iconst C (v := nI (1)) (by decide) dX3_relog_23 ?_
      refine z_goto C (tgt := 28) dX3_relog_24 (by decide) ?_
      refine z_iaddN C dX3_relog_28 ?_
      refine z_newA C (N := k0 + 1) (t := 3) (cA := cE) wl_X3_17 wa_over_I rfl (by omega) ⟨by show _ ≤ 1; omega, by show _ ≤ 11; omega⟩ dX3_relog_29 (fun q => ?_)
      refine z_eq (B' := [(smS cB a n g σ, zZ), (smG cE n g σ en, zZ), (smP cI ps, zZ), ([(q, zQr cE (k0 + 1) (fun _ => none))], zZ)]) rfl ?_
      refine z_astore C (L' := [(5, .ref (q)), (4, .int (nI (1))), (0, .ref (a (2 + (i)))), (1, .int (nI (k0))), (2, .ref (g b)), (3, .int (nI (k0)))]) dX3_relog_32 (by decide) rfl ?_
      refine z_iconst C (v := nI (0)) (by decide) dX3_relog_34 ?_
      refine z_istore C (L' := [(6, .int (nI (0))), (5, .ref (q)), (4, .int (nI (1))), (0, .ref (a (2 + (i)))), (1, .int (nI (k0))), (2, .ref (g b)), (3, .int (nI (k0)))]) dX3_relog_35 (by decide) rfl ?_
      refine z_eq (B' := [(smS cB a n g σ, zZ), (smG cE n g σ en, zZ), (smP cI ps, zZ), ([(q, zQr cE (k0 + 1) (rlf en i 0))], zZ)]) (by rw [rlf_0 en i]) ?_
      have loop_37 : ∀ (k_37 k : Nat), k0 < k + k_37 → k ≤ k0 → zK p l e ({ frames := 0, cells := 1, slots := 11, locals := 0 } : Room) s m args below meth c D A 7 Q (0 + 1) (0 + (k0 + 1)) 37 [(6, .int (nI (k))), (5, .ref (q)), (0, .ref (a (2 + (i)))), (1, .int (nI (k0))), (2, .ref (g b)), (3, .int (nI (k0))), (4, .int (nI (1)))] [] [(smS cB a n g σ, zZ), (smG cE n g σ en, zZ), (smP cI ps, zZ), ([(q, zQr cE (k0 + 1) (rlf en i k))], zZ)] := by
        intro k_37
        induction k_37 with
        | zero => intro k  m1_37 m2_37; exact absurd m1_37 (by omega)
        | succ k_37 ih_37 =>
          intro k  m1_37 m2_37 
          refine z_iload C dX3_relog_37 0 rfl ?_
          refine z_iload_n C dX3_relog_39 rfl 3 rfl ?_
          refine z_icmp_geN C (tgt := 61) dX3_relog_40 (by decide) (by omega) (by omega) (fun c_40 => ?_) (fun c_40 => ?_)
          · refine z_iload C dX3_relog_61 6 rfl ?_
            refine z_if_eqN C (tgt := 73) dX3_relog_63 (by decide) (by omega) (fun c_63 => ?_) (fun c_63 => ?_)
            · exact absurd c_63 (by omega)
            · refine z_aload C dX3_relog_66 1 rfl ?_
              refine z_iload_n C dX3_relog_68 rfl 3 rfl ?_
              refine z_aload_n C dX3_relog_69 rfl 4 rfl ?_
              refine z_iload_n C dX3_relog_70 rfl 5 rfl ?_
              have hl_2 := hI.lnT (i := b) (by omega)
              refine z_aG C 1 rfl (i := b) (j := k0) (by omega) (by omega) (by omega) dX3_relog_71 ?_
              obtain ⟨j9, hj9⟩ := smP_mem (cI := cI) (hk (b) (by omega) (k0) (by omega))
              refine z_astA C (B' := [(smS cB a n g σ, zZ), (smG cE n g σ en, zZ), (smP cI ps, zZ), ([(q, zQr cE (k0 + 1) (va_up (rlf en i k) (k0) (some (en (b) (k0)))))], zZ)]) 3 2 rfl rfl 0 j9 3 0 rfl (Or.inl hj9) rfl rfl wa_over_I dX3_relog_72 (by omega) (by omega) rfl ?_
              refine z_aload_n C dX3_relog_73 rfl 2 rfl ?_
              refine z_aload C dX3_relog_74 1 rfl ?_
              refine z_bputG C (B' := [(smS cB a n (va_up g (i) q) σ, zZ), (smG cE n g σ en, zZ), (smP cI ps, zZ), ([(q, zQr cE (k0 + 1) (va_up (rlf en i k) (k0) (some (en (b) (k0)))))], zZ)]) 0 rfl (i := i) (by omega) wf_X3_19 dX3_relog_76 rfl ?_
              have hkm : k = k0 := by omega
              refine z_acong 3 rfl 0 (f' := fun k => some ((va_up (en i) (fl_ln σ i) (en b k0)) k)) rfl (fun k' hk' => ?_) (B' := [(smS cB a n (va_up g (i) q) σ, zZ), (smG cE n g σ en, zZ), (smP cI ps, zZ), ([(q, zQr cE (k0 + 1) (fun k => some ((va_up (en i) (fl_ln σ i) (en b k0)) k)))], zZ)]) rfl ?_
              · rw [← hk0]; unfold va_up rlf; by_cases e9 : k' = k0 <;> simp [e9]; omega
              refine z_eq (B' := [(smS cB a n (va_up g (i) q) ((fl_app σ i (σ 10 (b * 10 + k0)) (σ 11 (b * 10 + k0)))), zZ), (smG cE n g σ en, zZ), (smP cI ps, zZ), ([(q, zQr cE (k0 + 1) (fun k => some ((va_up (en i) (fl_ln σ i) (en b k0)) k)))], zZ)]) (by rw [smS_app i (σ 10 (b * 10 + k0)) (σ 11 (b * 10 + k0))]) ?_
              obtain ⟨X, hX⟩ := smG_re (cE := cE) (n := n) (i := i) (q := q) (m := k0 + 1) (g := g) (σ := σ) (σ' := (fl_app σ i (σ 10 (b * 10 + k0)) (σ 11 (b * 10 + k0)))) (τ := zZ) (en := en) (f := va_up (en i) (fl_ln σ i) (en b k0)) hi (by rw [fl_app_lnJ σ i _ _ (by omega) i, if_pos rfl, hk0]) (fun j _ hji => by rw [fl_app_lnJ σ i _ _ (by omega) j, if_neg hji]) [(smS cB a n (va_up g (i) q) ((fl_app σ i (σ 10 (b * 10 + k0)) (σ 11 (b * 10 + k0)))), zZ)] [(smP cI ps, zZ)]
              refine z_drop (B' := [(smS cB a n (va_up g (i) q) ((fl_app σ i (σ 10 (b * 10 + k0)) (σ 11 (b * 10 + k0)))), zZ), (smG cE n (va_up g (i) q) ((fl_app σ i (σ 10 (b * 10 + k0)) (σ 11 (b * 10 + k0)))) (va_up en i (va_up (en i) (fl_ln σ i) (en b k0))), zZ), (smP cI ps, zZ)]) (X := X) hX ?_
              refine z_widen (k := 1) (n := 11) (by omega) (by omega) ?_
              rw [hQ]; exact z_vret C hr dX3_relog_79 ⟨rfl, q, rfl⟩
          · refine z_aload C dX3_relog_43 1 rfl ?_
            refine z_iload C dX3_relog_45 0 rfl ?_
            refine z_aload_n C dX3_relog_47 rfl 2 rfl ?_
            refine z_bget C 0 rfl (i := i) (by omega) 8 (by decide) (v := .ref (g (i))) rfl wf_X3_19 dX3_relog_48 ?_
            refine z_iload C dX3_relog_51 0 rfl ?_
            have hl_3 := hI.lnT (i := i) (by omega)
            refine z_aG C 1 rfl (i := i) (j := k) (by omega) (by omega) (by omega) dX3_relog_53 ?_
            obtain ⟨j9, hj9⟩ := smP_mem (cI := cI) (hk (i) (by omega) (k) (by omega))
            refine z_astA C (B' := [(smS cB a n g σ, zZ), (smG cE n g σ en, zZ), (smP cI ps, zZ), ([(q, zQr cE (k0 + 1) (va_up (rlf en i k) (k) (some (en (i) (k)))))], zZ)]) 3 2 rfl rfl 0 j9 3 0 rfl (Or.inl hj9) rfl rfl wa_over_I dX3_relog_54 (by omega) (by omega) rfl ?_
            refine z_iinc C (L' := [(6, .int (nI (k + 1))), (5, .ref (q)), (0, .ref (a (2 + (i)))), (1, .int (nI (k0))), (2, .ref (g b)), (3, .int (nI (k0))), (4, .int (nI (1)))]) dX3_relog_55 0 rfl (z_inc1 _) (by decide) rfl ?_
            refine z_goto C (tgt := 37) dX3_relog_58 (by decide) ?_
            refine z_eq (B' := [(smS cB a n g σ, zZ), (smG cE n g σ en, zZ), (smP cI ps, zZ), ([(q, zQr cE (k0 + 1) (rlf en i (k + 1)))], zZ)]) (by rw [rlf_1]) ?_
            refine z_sub (L' := [(6, .int (nI (k + 1))), (5, .ref (q)), (0, .ref (a (2 + (i)))), (1, .int (nI (k0))), (2, .ref (g b)), (3, .int (nI (k0))), (4, .int (nI (1)))]) [0, 1, 2, 3, 4, 5, 6] rfl ?_
            exact ih_37 (k + 1)  (by omega) (by omega) 
      refine z_sub (L' := [(6, .int (nI (0))), (5, .ref (q)), (0, .ref (a (2 + (i)))), (1, .int (nI (k0))), (2, .ref (g b)), (3, .int (nI (k0))), (4, .int (nI (1)))]) [0, 1, 3, 4, 5, 6, 2] rfl ?_
      exact loop_37 (k0 + 1) 0  (by omega) (by omega) 
set_option maxHeartbeats 4000000 in
set_option maxRecDepth 100000 in
theorem c_X3_new (l : Launch) (D : va_G) (cI cZ cB cE : ClassId) (n : Nat) (a g : Nat → Nat) (σ : zF) (en : Nat → Nat → Nat) (ps : List (Nat × Int32 × Int32)) (hI : fl_Iv n σ) (hk : smK n σ en ps) (i : Nat) (k0 : Nat) (r0 e0 : Nat) (fo : Nat → Option Nat) (x y : Int32) (hi : i < n) (hk0 : k0 = fl_ln σ i) (hlt : k0 < 10) (hfo : fo 0 = some e0) (hr9 : (e0, x, y) ∈ ps) : zM l D (tyL cI cZ cB cE) yX3_relog cX3_relog 7 none ({ frames := 0, cells := 1, slots := 11, locals := 0 } : Room) [.ref (a (2 + (i))), .int (nI (k0)), .ref (r0), .int (nI (0))] [(smS cB a n g σ, zZ), (smG cE n g σ en, zZ), (smP cI ps, zZ), ([(r0, zQr cE (1) (fo))], zZ)] 1 11 (fun r u => r = none ∧ ∃ q, u = [(smS cB a n (va_up g i q) ((fl_app σ i x y)), zZ), (smG cE n (va_up g i q) ((fl_app σ i x y)) (va_up en i (va_up (en i) (fl_ln σ i) e0)), zZ), (smP cI ps, zZ), ([(r0, zQr cE (1) (fo))], zZ)]) := by
  have hn3 := hI.n3
  have hn7 := hI.n7
  refine z_of (by decide) (Nat.le_of_ble_eq_true rfl) rfl ?_
  intro p e s m args below meth c A C hr hin
  obtain ⟨Q, hQ⟩ : ∃ Q, Q = MQ below (zQ (fun r u => r = none ∧ ∃ q, u = [(smS cB a n (va_up g i q) ((fl_app σ i x y)), zZ), (smG cE n (va_up g i q) ((fl_app σ i x y)) (va_up en i (va_up (en i) (fl_ln σ i) e0)), zZ), (smP cI ps, zZ), ([(r0, zQr cE (1) (fo))], zZ)]) D (tyL cI cZ cB cE) A) args s 1 11 A := ⟨_, rfl⟩
  rw [← hQ]
  have hl := hI.lnT hi
  refine z_iload_n C dX3_relog_0 rfl 3 rfl ?_
  refine z_if_ltN C (tgt := 14) dX3_relog_1 (by decide) (by omega) ?_
  refine z_iload_n C dX3_relog_4 rfl 3 rfl ?_
  refine z_aload_n C dX3_relog_5 rfl 2 rfl ?_
  refine z_alenQ C 3 rfl 0 rfl 3 rfl dX3_relog_6 ?_
  refine z_icmp_geN C (tgt := 14) dX3_relog_7 (by decide) (by omega) (by omega) (fun c_7 => ?_) (fun c_7 => ?_)
  · exact absurd c_7 (by omega)
  · refine z_iconst C (v := nI (1)) (by decide) dX3_relog_10 ?_
    refine z_goto C (tgt := 15) dX3_relog_11 (by decide) ?_
    refine z_istore C (L' := [(4, .int (nI (1))), (0, .ref (a (2 + (i)))), (1, .int (nI (k0))), (2, .ref (r0)), (3, .int (nI (0)))]) dX3_relog_15 (by decide) rfl ?_
    refine z_iload_n C dX3_relog_17 rfl 2 rfl ?_
    refine z_iload C dX3_relog_18 0 rfl ?_
    refine z_if_eqN C (tgt := 27) dX3_relog_20 (by decide) (by omega) (fun c_20 => ?_) (fun c_20 => ?_)
    · exact absurd c_20 (by omega)
    · refine z_iconst C (v := nI (1)) (by decide) dX3_relog_23 ?_
      refine z_goto C (tgt := 28) dX3_relog_24 (by decide) ?_
      refine z_iaddN C dX3_relog_28 ?_
      refine z_newA C (N := k0 + 1) (t := 3) (cA := cE) wl_X3_17 wa_over_I rfl (by omega) ⟨by show _ ≤ 1; omega, by show _ ≤ 11; omega⟩ dX3_relog_29 (fun q => ?_)
      refine z_eq (B' := [(smS cB a n g σ, zZ), (smG cE n g σ en, zZ), (smP cI ps, zZ), ([(r0, zQr cE (1) (fo))], zZ), ([(q, zQr cE (k0 + 1) (fun _ => none))], zZ)]) rfl ?_
      refine z_astore C (L' := [(5, .ref (q)), (4, .int (nI (1))), (0, .ref (a (2 + (i)))), (1, .int (nI (k0))), (2, .ref (r0)), (3, .int (nI (0)))]) dX3_relog_32 (by decide) rfl ?_
      refine z_iconst C (v := nI (0)) (by decide) dX3_relog_34 ?_
      refine z_istore C (L' := [(6, .int (nI (0))), (5, .ref (q)), (4, .int (nI (1))), (0, .ref (a (2 + (i)))), (1, .int (nI (k0))), (2, .ref (r0)), (3, .int (nI (0)))]) dX3_relog_35 (by decide) rfl ?_
      refine z_eq (B' := [(smS cB a n g σ, zZ), (smG cE n g σ en, zZ), (smP cI ps, zZ), ([(r0, zQr cE (1) (fo))], zZ), ([(q, zQr cE (k0 + 1) (rlf en i 0))], zZ)]) (by rw [rlf_0 en i]) ?_
      have loop_37 : ∀ (k_37 k : Nat), k0 < k + k_37 → k ≤ k0 → zK p l e ({ frames := 0, cells := 1, slots := 11, locals := 0 } : Room) s m args below meth c D A 7 Q (0 + 1) (0 + (k0 + 1)) 37 [(6, .int (nI (k))), (5, .ref (q)), (0, .ref (a (2 + (i)))), (1, .int (nI (k0))), (2, .ref (r0)), (3, .int (nI (0))), (4, .int (nI (1)))] [] [(smS cB a n g σ, zZ), (smG cE n g σ en, zZ), (smP cI ps, zZ), ([(r0, zQr cE (1) (fo))], zZ), ([(q, zQr cE (k0 + 1) (rlf en i k))], zZ)] := by
        intro k_37
        induction k_37 with
        | zero => intro k  m1_37 m2_37; exact absurd m1_37 (by omega)
        | succ k_37 ih_37 =>
          intro k  m1_37 m2_37 
          refine z_iload C dX3_relog_37 0 rfl ?_
          refine z_iload_n C dX3_relog_39 rfl 3 rfl ?_
          refine z_icmp_geN C (tgt := 61) dX3_relog_40 (by decide) (by omega) (by omega) (fun c_40 => ?_) (fun c_40 => ?_)
          · refine z_iload C dX3_relog_61 6 rfl ?_
            refine z_if_eqN C (tgt := 73) dX3_relog_63 (by decide) (by omega) (fun c_63 => ?_) (fun c_63 => ?_)
            · exact absurd c_63 (by omega)
            · refine z_aload C dX3_relog_66 1 rfl ?_
              refine z_iload_n C dX3_relog_68 rfl 3 rfl ?_
              refine z_aload_n C dX3_relog_69 rfl 4 rfl ?_
              refine z_iload_n C dX3_relog_70 rfl 5 rfl ?_
              refine z_aldA C 3 rfl 0 3 rfl rfl dX3_relog_71 (by decide) (by decide) hfo ?_
              obtain ⟨j9, hj9⟩ := smP_mem (cI := cI) hr9
              refine z_astA C (B' := [(smS cB a n g σ, zZ), (smG cE n g σ en, zZ), (smP cI ps, zZ), ([(r0, zQr cE (1) (fo))], zZ), ([(q, zQr cE (k0 + 1) (va_up (rlf en i k) (k0) (some (e0))))], zZ)]) 4 2 rfl rfl 0 j9 3 0 rfl (Or.inl hj9) rfl rfl wa_over_I dX3_relog_72 (by omega) (by omega) rfl ?_
              refine z_aload_n C dX3_relog_73 rfl 2 rfl ?_
              refine z_aload C dX3_relog_74 1 rfl ?_
              refine z_bputG C (B' := [(smS cB a n (va_up g (i) q) σ, zZ), (smG cE n g σ en, zZ), (smP cI ps, zZ), ([(r0, zQr cE (1) (fo))], zZ), ([(q, zQr cE (k0 + 1) (va_up (rlf en i k) (k0) (some (e0))))], zZ)]) 0 rfl (i := i) (by omega) wf_X3_19 dX3_relog_76 rfl ?_
              have hkm : k = k0 := by omega
              refine z_acong 4 rfl 0 (f' := fun k => some ((va_up (en i) (fl_ln σ i) e0) k)) rfl (fun k' hk' => ?_) (B' := [(smS cB a n (va_up g (i) q) σ, zZ), (smG cE n g σ en, zZ), (smP cI ps, zZ), ([(r0, zQr cE (1) (fo))], zZ), ([(q, zQr cE (k0 + 1) (fun k => some ((va_up (en i) (fl_ln σ i) e0) k)))], zZ)]) rfl ?_
              · rw [← hk0]; unfold va_up rlf; by_cases e9 : k' = k0 <;> simp [e9]; omega
              refine z_eq (B' := [(smS cB a n (va_up g (i) q) ((fl_app σ i x y)), zZ), (smG cE n g σ en, zZ), (smP cI ps, zZ), ([(r0, zQr cE (1) (fo))], zZ), ([(q, zQr cE (k0 + 1) (fun k => some ((va_up (en i) (fl_ln σ i) e0) k)))], zZ)]) (by rw [smS_app i x y]) ?_
              obtain ⟨X, hX⟩ := smG_re (cE := cE) (n := n) (i := i) (q := q) (m := k0 + 1) (g := g) (σ := σ) (σ' := (fl_app σ i x y)) (τ := zZ) (en := en) (f := va_up (en i) (fl_ln σ i) e0) hi (by rw [fl_app_lnJ σ i _ _ (by omega) i, if_pos rfl, hk0]) (fun j _ hji => by rw [fl_app_lnJ σ i _ _ (by omega) j, if_neg hji]) [(smS cB a n (va_up g (i) q) ((fl_app σ i x y)), zZ)] [(smP cI ps, zZ), ([(r0, zQr cE (1) (fo))], zZ)]
              refine z_drop (B' := [(smS cB a n (va_up g (i) q) ((fl_app σ i x y)), zZ), (smG cE n (va_up g (i) q) ((fl_app σ i x y)) (va_up en i (va_up (en i) (fl_ln σ i) e0)), zZ), (smP cI ps, zZ), ([(r0, zQr cE (1) (fo))], zZ)]) (X := X) hX ?_
              refine z_widen (k := 1) (n := 11) (by omega) (by omega) ?_
              rw [hQ]; exact z_vret C hr dX3_relog_79 ⟨rfl, q, rfl⟩
          · refine z_aload C dX3_relog_43 1 rfl ?_
            refine z_iload C dX3_relog_45 0 rfl ?_
            refine z_aload_n C dX3_relog_47 rfl 2 rfl ?_
            refine z_bget C 0 rfl (i := i) (by omega) 8 (by decide) (v := .ref (g (i))) rfl wf_X3_19 dX3_relog_48 ?_
            refine z_iload C dX3_relog_51 0 rfl ?_
            have hl_1 := hI.lnT (i := i) (by omega)
            refine z_aG C 1 rfl (i := i) (j := k) (by omega) (by omega) (by omega) dX3_relog_53 ?_
            obtain ⟨j9, hj9⟩ := smP_mem (cI := cI) (hk (i) (by omega) (k) (by omega))
            refine z_astA C (B' := [(smS cB a n g σ, zZ), (smG cE n g σ en, zZ), (smP cI ps, zZ), ([(r0, zQr cE (1) (fo))], zZ), ([(q, zQr cE (k0 + 1) (va_up (rlf en i k) (k) (some (en (i) (k)))))], zZ)]) 4 2 rfl rfl 0 j9 3 0 rfl (Or.inl hj9) rfl rfl wa_over_I dX3_relog_54 (by omega) (by omega) rfl ?_
            refine z_iinc C (L' := [(6, .int (nI (k + 1))), (5, .ref (q)), (0, .ref (a (2 + (i)))), (1, .int (nI (k0))), (2, .ref (r0)), (3, .int (nI (0))), (4, .int (nI (1)))]) dX3_relog_55 0 rfl (z_inc1 _) (by decide) rfl ?_
            refine z_goto C (tgt := 37) dX3_relog_58 (by decide) ?_
            refine z_eq (B' := [(smS cB a n g σ, zZ), (smG cE n g σ en, zZ), (smP cI ps, zZ), ([(r0, zQr cE (1) (fo))], zZ), ([(q, zQr cE (k0 + 1) (rlf en i (k + 1)))], zZ)]) (by rw [rlf_1]) ?_
            refine z_sub (L' := [(6, .int (nI (k + 1))), (5, .ref (q)), (0, .ref (a (2 + (i)))), (1, .int (nI (k0))), (2, .ref (r0)), (3, .int (nI (0))), (4, .int (nI (1)))]) [0, 1, 2, 3, 4, 5, 6] rfl ?_
            exact ih_37 (k + 1)  (by omega) (by omega) 
      refine z_sub (L' := [(6, .int (nI (0))), (5, .ref (q)), (0, .ref (a (2 + (i)))), (1, .int (nI (k0))), (2, .ref (r0)), (3, .int (nI (0))), (4, .int (nI (1)))]) [0, 1, 3, 4, 5, 6, 2] rfl ?_
      exact loop_37 (k0 + 1) 0  (by omega) (by omega) 
