theorem fl_agrL_le (σ : zF) (x y : Nat) : ∀ (f k : Nat), fl_agrL σ x y f k ≤ k + f
  | 0, k => Nat.le_refl _
  | f + 1, k => by
    unfold fl_agrL
    have h := fl_agrL_le σ x y f (k + 1)
    split <;> omega
theorem fl_agr_m (σ : zF) (x y : Nat) : fl_agr σ x y ≤ min (fl_ln σ x) (fl_ln σ y) := by
  have h := fl_agrL_le σ x y (min (fl_ln σ x) (fl_ln σ y)) 0
  unfold fl_agr
  omega
theorem fl_agr_go (σ : zF) (x y m k : Nat) (h : k < m) : fl_agrL σ x y (m - k) k = if σ 10 (x * 10 + k) = σ 10 (y * 10 + k) ∧ σ 11 (x * 10 + k) = σ 11 (y * 10 + k) then fl_agrL σ x y (m - (k + 1)) (k + 1) else k := by
  rw [show m - k = (m - (k + 1)) + 1 by omega]
  rfl
theorem fl_agr_end (σ : zF) (x y m k : Nat) (h : m ≤ k) : fl_agrL σ x y (m - k) k = k := by
  rw [show m - k = 0 by omega]
  rfl
set_option maxHeartbeats 4000000 in
set_option maxRecDepth 100000 in
theorem c_X1_termAt (l : Launch) (D : va_G) (cI cZ cB cE : ClassId) (a : Nat → Nat) (σ : zF) (n : Nat) (hI : fl_Iv n σ) (b : Nat) (k : Nat) (hb : b < n) (hk : k < 10) : zM l D (tyL cI cZ cB cE) yX1_termAt cX1_termAt 3 (some .int) (zR 0 0) [.ref (a 12), .int (nI (b)), .int (nI (k))] [(shF a cI cZ, σ)] 0 0 (fun r u => r = some (.int (σ 10 ((b * 10) + k))) ∧ u = [(shF a cI cZ, σ)]) := by
  have hn3 := hI.n3
  have hn7 := hI.n7
  refine z_of (by decide) (Nat.le_of_ble_eq_true rfl) rfl ?_
  intro p e s m args below meth c A C hr hin
  obtain ⟨Q, hQ⟩ : ∃ Q, Q = MQ below (zQ (fun r u => r = some (.int (σ 10 ((b * 10) + k))) ∧ u = [(shF a cI cZ, σ)]) D (tyL cI cZ cB cE) A) args s 0 0 A := ⟨_, rfl⟩
  rw [← hQ]
  refine z_aload_n C dX1_termAt_0 rfl 0 rfl ?_
  refine z_getR C wu_X1 0 rfl 12 rfl rfl 2 (by decide) rfl wf_X1_18 dX1_termAt_1 ?_
  refine z_iload_n C dX1_termAt_4 rfl 1 rfl ?_
  refine z_bipush C (v := nI (10)) (by decide) dX1_termAt_5 ?_
  refine z_imulN C dX1_termAt_7 ?_
  refine z_iload_n C dX1_termAt_8 rfl 2 rfl ?_
  refine z_iaddN C dX1_termAt_9 ?_
  refine z_iald C 0 rfl 10 0 rfl rfl dX1_termAt_10 (by omega) (by decide) ?_
  rw [hQ]; exact z_iret C hr dX1_termAt_11 ⟨rfl, rfl⟩
set_option maxHeartbeats 4000000 in
set_option maxRecDepth 100000 in
theorem c_X1_fishAt (l : Launch) (D : va_G) (cI cZ cB cE : ClassId) (a : Nat → Nat) (σ : zF) (n : Nat) (hI : fl_Iv n σ) (b : Nat) (k : Nat) (hb : b < n) (hk : k < 10) : zM l D (tyL cI cZ cB cE) yX1_fishAt cX1_fishAt 3 (some .int) (zR 0 0) [.ref (a 12), .int (nI (b)), .int (nI (k))] [(shF a cI cZ, σ)] 0 0 (fun r u => r = some (.int (σ 11 ((b * 10) + k))) ∧ u = [(shF a cI cZ, σ)]) := by
  have hn3 := hI.n3
  have hn7 := hI.n7
  refine z_of (by decide) (Nat.le_of_ble_eq_true rfl) rfl ?_
  intro p e s m args below meth c A C hr hin
  obtain ⟨Q, hQ⟩ : ∃ Q, Q = MQ below (zQ (fun r u => r = some (.int (σ 11 ((b * 10) + k))) ∧ u = [(shF a cI cZ, σ)]) D (tyL cI cZ cB cE) A) args s 0 0 A := ⟨_, rfl⟩
  rw [← hQ]
  refine z_aload_n C dX1_fishAt_0 rfl 0 rfl ?_
  refine z_getR C wu_X1 0 rfl 12 rfl rfl 3 (by decide) rfl wf_X1_21 dX1_fishAt_1 ?_
  refine z_iload_n C dX1_fishAt_4 rfl 1 rfl ?_
  refine z_bipush C (v := nI (10)) (by decide) dX1_fishAt_5 ?_
  refine z_imulN C dX1_fishAt_7 ?_
  refine z_iload_n C dX1_fishAt_8 rfl 2 rfl ?_
  refine z_iaddN C dX1_fishAt_9 ?_
  refine z_iald C 0 rfl 11 0 rfl rfl dX1_fishAt_10 (by omega) (by decide) ?_
  rw [hQ]; exact z_iret C hr dX1_fishAt_11 ⟨rfl, rfl⟩
set_option maxHeartbeats 4000000 in
set_option maxRecDepth 100000 in
theorem c_X1_lastTerm (l : Launch) (D : va_G) (cI cZ cB cE : ClassId) (a : Nat → Nat) (σ : zF) (n : Nat) (hI : fl_Iv n σ) (b : Nat) (hb : b < n) : zM l D (tyL cI cZ cB cE) yX1_lastTerm cX1_lastTerm 2 (some .int) (zR 0 0) [.ref (a 12), .int (nI (b))] [(shF a cI cZ, σ)] 0 0 (fun r u => r = some (.int (fl_last σ b)) ∧ u = [(shF a cI cZ, σ)]) := by
  have hn3 := hI.n3
  have hn7 := hI.n7
  refine z_of (by decide) (Nat.le_of_ble_eq_true rfl) rfl ?_
  intro p e s m args below meth c A C hr hin
  obtain ⟨Q, hQ⟩ : ∃ Q, Q = MQ below (zQ (fun r u => r = some (.int (fl_last σ b)) ∧ u = [(shF a cI cZ, σ)]) D (tyL cI cZ cB cE) A) args s 0 0 A := ⟨_, rfl⟩
  rw [← hQ]
  refine z_aload_n C dX1_lastTerm_0 rfl 0 rfl ?_
  refine z_getR C wu_X1 0 rfl 12 rfl rfl 0 (by decide) rfl wf_X1_9 dX1_lastTerm_1 ?_
  refine z_iload_n C dX1_lastTerm_4 rfl 1 rfl ?_
  refine z_iald C 0 rfl 8 0 rfl rfl dX1_lastTerm_5 (by omega) (by decide) ?_
  refine z_top (y := nI (fl_ln σ b)) (hI.ln (by omega)) ?_
  have hb_1 := hI.lnT (i := b) (by omega)
  refine z_if_leN C (tgt := 30) dX1_lastTerm_6 (by decide) (by omega) (fun c_6 => ?_) (fun c_6 => ?_)
  · refine z_iconst C (v := -1) (by decide) dX1_lastTerm_30 ?_
    rw [hQ]; exact z_iret C hr dX1_lastTerm_31 ⟨congrArg (fun x => some (Value.int x)) (by unfold fl_last; first | rw [if_pos (by omega)] | rw [if_neg (by omega)]), rfl⟩
  · refine z_aload_n C dX1_lastTerm_9 rfl 0 rfl ?_
    refine z_getR C wu_X1 0 rfl 12 rfl rfl 2 (by decide) rfl wf_X1_18 dX1_lastTerm_10 ?_
    refine z_iload_n C dX1_lastTerm_13 rfl 1 rfl ?_
    refine z_bipush C (v := nI (10)) (by decide) dX1_lastTerm_14 ?_
    refine z_imulN C dX1_lastTerm_16 ?_
    refine z_aload_n C dX1_lastTerm_17 rfl 0 rfl ?_
    refine z_getR C wu_X1 0 rfl 12 rfl rfl 0 (by decide) rfl wf_X1_9 dX1_lastTerm_18 ?_
    refine z_iload_n C dX1_lastTerm_21 rfl 1 rfl ?_
    refine z_iald C 0 rfl 8 0 rfl rfl dX1_lastTerm_22 (by omega) (by decide) ?_
    refine z_top (y := nI (fl_ln σ b)) (hI.ln (by omega)) ?_
    have hb_2 := hI.lnT (i := b) (by omega)
    refine z_iaddN C dX1_lastTerm_23 ?_
    refine z_iconst C (v := nI (1)) (by decide) dX1_lastTerm_24 ?_
    refine z_isubN C dX1_lastTerm_25 (by omega) ?_
    refine z_iald C 0 rfl 10 0 rfl rfl dX1_lastTerm_26 (by omega) (by decide) ?_
    refine z_goto C (tgt := 31) dX1_lastTerm_27 (by decide) ?_
    rw [hQ]; exact z_iret C hr dX1_lastTerm_31 ⟨congrArg (fun x => some (Value.int x)) (by unfold fl_last; first | rw [if_pos (by omega)] | rw [if_neg (by omega)]), rfl⟩
set_option maxHeartbeats 4000000 in
set_option maxRecDepth 100000 in
theorem c_X1_append (l : Launch) (D : va_G) (cI cZ cB cE : ClassId) (a : Nat → Nat) (σ : zF) (n : Nat) (hI : fl_Iv n σ) (b : Nat) (x : Int32) (y : Int32) (hb : b < n) (hk : fl_ln σ b < 10) : zM l D (tyL cI cZ cB cE) yX1_append cX1_append 5 none (zR 0 0) [.ref (a 12), .int (nI (b)), .int (x), .int (y)] [(shF a cI cZ, σ)] 0 0 (fun r u => r = none ∧ u = [(shF a cI cZ, (fl_app σ b x y))]) := by
  have hn3 := hI.n3
  have hn7 := hI.n7
  refine z_of (by decide) (Nat.le_of_ble_eq_true rfl) rfl ?_
  intro p e s m args below meth c A C hr hin
  obtain ⟨Q, hQ⟩ : ∃ Q, Q = MQ below (zQ (fun r u => r = none ∧ u = [(shF a cI cZ, (fl_app σ b x y))]) D (tyL cI cZ cB cE) A) args s 0 0 A := ⟨_, rfl⟩
  rw [← hQ]
  refine z_aload_n C dX1_append_0 rfl 0 rfl ?_
  refine z_getR C wu_X1 0 rfl 12 rfl rfl 0 (by decide) rfl wf_X1_9 dX1_append_1 ?_
  refine z_iload_n C dX1_append_4 rfl 1 rfl ?_
  refine z_iald C 0 rfl 8 0 rfl rfl dX1_append_5 (by omega) (by decide) ?_
  refine z_top (y := nI (fl_ln σ b)) (hI.ln (by omega)) ?_
  have hb_1 := hI.lnT (i := b) (by omega)
  refine z_bipush C (v := nI (10)) (by decide) dX1_append_6 ?_
  refine z_icmp_ltN C (tgt := 12) dX1_append_8 (by decide) (by omega) (by omega) (fun c_8 => ?_) (fun c_8 => ?_)
  · refine z_iload_n C dX1_append_12 rfl 1 rfl ?_
    refine z_bipush C (v := nI (10)) (by decide) dX1_append_13 ?_
    refine z_imulN C dX1_append_15 ?_
    refine z_aload_n C dX1_append_16 rfl 0 rfl ?_
    refine z_getR C wu_X1 0 rfl 12 rfl rfl 0 (by decide) rfl wf_X1_9 dX1_append_17 ?_
    refine z_iload_n C dX1_append_20 rfl 1 rfl ?_
    refine z_iald C 0 rfl 8 0 rfl rfl dX1_append_21 (by omega) (by decide) ?_
    refine z_top (y := nI (fl_ln σ b)) (hI.ln (by omega)) ?_
    have hb_2 := hI.lnT (i := b) (by omega)
    refine z_iaddN C dX1_append_22 ?_
    refine z_istore C (L' := [(4, .int (nI ((b * 10) + (fl_ln σ b)))), (0, .ref (a 12)), (1, .int (nI (b))), (2, .int (x)), (3, .int (y))]) dX1_append_23 (by decide) rfl ?_
    refine z_aload_n C dX1_append_25 rfl 1 rfl ?_
    refine z_getR C wu_X1 0 rfl 12 rfl rfl 2 (by decide) rfl wf_X1_18 dX1_append_26 ?_
    refine z_iload C dX1_append_29 0 rfl ?_
    refine z_iload_n C dX1_append_31 rfl 3 rfl ?_
    refine z_iast C (B' := [(shF a cI cZ, (zU σ 10 ((b * 10) + (fl_ln σ b)) (x)))]) 0 rfl 10 0 rfl rfl dX1_append_32 (by omega) (by decide) rfl ?_
    refine z_aload_n C dX1_append_33 rfl 1 rfl ?_
    refine z_getR C wu_X1 0 rfl 12 rfl rfl 3 (by decide) rfl wf_X1_21 dX1_append_34 ?_
    refine z_iload C dX1_append_37 0 rfl ?_
    refine z_iload_n C dX1_append_39 rfl 4 rfl ?_
    refine z_iast C (B' := [(shF a cI cZ, (zU (zU σ 10 ((b * 10) + (fl_ln σ b)) (x)) 11 ((b * 10) + (fl_ln σ b)) (y)))]) 0 rfl 11 0 rfl rfl dX1_append_40 (by omega) (by decide) rfl ?_
    refine z_aload_n C dX1_append_41 rfl 1 rfl ?_
    refine z_getR C wu_X1 0 rfl 12 rfl rfl 0 (by decide) rfl wf_X1_9 dX1_append_42 ?_
    refine z_iload_n C dX1_append_45 rfl 2 rfl ?_
    refine z_dup2 C rfl rfl dX1_append_46 ?_
    refine z_iald C 0 rfl 8 0 rfl rfl dX1_append_47 (by omega) (by decide) ?_
    refine z_top (y := nI (fl_ln σ b)) (hI.ln (by omega)) ?_
    have hb_3 := hI.lnT (i := b) (by omega)
    refine z_iconst C (v := nI (1)) (by decide) dX1_append_48 ?_
    refine z_iaddN C dX1_append_49 ?_
    refine z_iast C (B' := [(shF a cI cZ, (zU (zU (zU σ 10 ((b * 10) + (fl_ln σ b)) (x)) 11 ((b * 10) + (fl_ln σ b)) (y)) 8 (b) (nI ((fl_ln σ b) + 1))))]) 0 rfl 8 0 rfl rfl dX1_append_50 (by omega) (by decide) rfl ?_
    rw [hQ]; exact z_vret C hr dX1_append_51 ⟨rfl, congrArg (fun x => [(shF a cI cZ, x)]) (by rfl)⟩
  · exact absurd hk (by omega)
set_option maxHeartbeats 4000000 in
set_option maxRecDepth 100000 in
theorem c_X1_loseLast (l : Launch) (D : va_G) (cI cZ cB cE : ClassId) (a : Nat → Nat) (σ : zF) (n : Nat) (hI : fl_Iv n σ) (b : Nat) (hb : b < n) (hk : 0 < fl_ln σ b) : zM l D (tyL cI cZ cB cE) yX1_loseLast cX1_loseLast 2 none (zR 0 0) [.ref (a 12), .int (nI (b))] [(shF a cI cZ, σ)] 0 0 (fun r u => r = none ∧ u = [(shF a cI cZ, (zU σ 8 b (nI (fl_ln σ b - 1))))]) := by
  have hn3 := hI.n3
  have hn7 := hI.n7
  refine z_of (by decide) (Nat.le_of_ble_eq_true rfl) rfl ?_
  intro p e s m args below meth c A C hr hin
  obtain ⟨Q, hQ⟩ : ∃ Q, Q = MQ below (zQ (fun r u => r = none ∧ u = [(shF a cI cZ, (zU σ 8 b (nI (fl_ln σ b - 1))))]) D (tyL cI cZ cB cE) A) args s 0 0 A := ⟨_, rfl⟩
  rw [← hQ]
  refine z_aload_n C dX1_loseLast_0 rfl 0 rfl ?_
  refine z_getR C wu_X1 0 rfl 12 rfl rfl 0 (by decide) rfl wf_X1_9 dX1_loseLast_1 ?_
  refine z_iload_n C dX1_loseLast_4 rfl 1 rfl ?_
  refine z_iald C 0 rfl 8 0 rfl rfl dX1_loseLast_5 (by omega) (by decide) ?_
  refine z_top (y := nI (fl_ln σ b)) (hI.ln (by omega)) ?_
  have hb_1 := hI.lnT (i := b) (by omega)
  refine z_if_leN C (tgt := 19) dX1_loseLast_6 (by decide) (by omega) (fun c_6 => ?_) (fun c_6 => ?_)
  · exact absurd hk (by omega)
  · refine z_aload_n C dX1_loseLast_9 rfl 0 rfl ?_
    refine z_getR C wu_X1 0 rfl 12 rfl rfl 0 (by decide) rfl wf_X1_9 dX1_loseLast_10 ?_
    refine z_iload_n C dX1_loseLast_13 rfl 1 rfl ?_
    refine z_dup2 C rfl rfl dX1_loseLast_14 ?_
    refine z_iald C 0 rfl 8 0 rfl rfl dX1_loseLast_15 (by omega) (by decide) ?_
    refine z_top (y := nI (fl_ln σ b)) (hI.ln (by omega)) ?_
    have hb_2 := hI.lnT (i := b) (by omega)
    refine z_iconst C (v := nI (1)) (by decide) dX1_loseLast_16 ?_
    refine z_isubN C dX1_loseLast_17 (by omega) ?_
    refine z_iast C (B' := [(shF a cI cZ, (zU σ 8 (b) (nI ((fl_ln σ b) - 1))))]) 0 rfl 8 0 rfl rfl dX1_loseLast_18 (by omega) (by decide) rfl ?_
    rw [hQ]; exact z_vret C hr dX1_loseLast_19 ⟨rfl, congrArg (fun x => [(shF a cI cZ, x)]) (by rfl)⟩
set_option maxHeartbeats 4000000 in
set_option maxRecDepth 100000 in
theorem c_X1_agreement (l : Launch) (D : va_G) (cI cZ cB cE : ClassId) (a : Nat → Nat) (σ : zF) (n : Nat) (hI : fl_Iv n σ) (x : Nat) (y : Nat) (hx : x < n) (hy : y < n) : zM l D (tyL cI cZ cB cE) yX1_agreement cX1_agreement 7 (some .int) (zR 1 21) [.ref (a 12), .int (nI (x)), .int (nI (y))] [(shF a cI cZ, σ)] 0 0 (fun r u => r = some (.int (nI (fl_agr σ x y))) ∧ u = [(shF a cI cZ, σ)]) := by
  have hn3 := hI.n3
  have hn7 := hI.n7
  refine z_of (by decide) (Nat.le_of_ble_eq_true rfl) rfl ?_
  intro p e s m args below meth c A C hr hin
  obtain ⟨Q, hQ⟩ : ∃ Q, Q = MQ below (zQ (fun r u => r = some (.int (nI (fl_agr σ x y))) ∧ u = [(shF a cI cZ, σ)]) D (tyL cI cZ cB cE) A) args s 0 0 A := ⟨_, rfl⟩
  rw [← hQ]
  refine z_iload_n C dX1_agreement_0 rfl 1 rfl ?_
  refine z_bipush C (v := nI (10)) (by decide) dX1_agreement_1 ?_
  refine z_imulN C dX1_agreement_3 ?_
  refine z_istore_n C (L' := [(3, .int (nI (x * 10))), (0, .ref (a 12)), (1, .int (nI (x))), (2, .int (nI (y)))]) dX1_agreement_4 rfl (by decide) rfl ?_
  refine z_iload_n C dX1_agreement_5 rfl 3 rfl ?_
  refine z_bipush C (v := nI (10)) (by decide) dX1_agreement_6 ?_
  refine z_imulN C dX1_agreement_8 ?_
  refine z_istore C (L' := [(4, .int (nI (y * 10))), (3, .int (nI (x * 10))), (0, .ref (a 12)), (1, .int (nI (x))), (2, .int (nI (y)))]) dX1_agreement_9 (by decide) rfl ?_
  refine z_aload_n C dX1_agreement_11 rfl 2 rfl ?_
  refine z_getR C wu_X1 0 rfl 12 rfl rfl 0 (by decide) rfl wf_X1_9 dX1_agreement_12 ?_
  refine z_iload_n C dX1_agreement_15 rfl 3 rfl ?_
  refine z_iald C 0 rfl 8 0 rfl rfl dX1_agreement_16 (by omega) (by decide) ?_
  refine z_top (y := nI (fl_ln σ x)) (hI.ln (by omega)) ?_
  have hb_1 := hI.lnT (i := x) (by omega)
  refine z_aload_n C dX1_agreement_17 rfl 2 rfl ?_
  refine z_getR C wu_X1 0 rfl 12 rfl rfl 0 (by decide) rfl wf_X1_9 dX1_agreement_18 ?_
  refine z_iload_n C dX1_agreement_21 rfl 4 rfl ?_
  refine z_iald C 0 rfl 8 0 rfl rfl dX1_agreement_22 (by omega) (by decide) ?_
  refine z_top (y := nI (fl_ln σ y)) (hI.ln (by omega)) ?_
  have hb_2 := hI.lnT (i := y) (by omega)
  refine z_mminN C wm_X1_30 ws_min wi_J9 wk_min ⟨(Nat.le_of_ble_eq_true rfl), (Nat.le_of_ble_eq_true rfl), (Nat.le_of_ble_eq_true rfl), (Nat.le_of_ble_eq_true rfl)⟩ dX1_agreement_23 (by omega) (by omega) ?_
  refine z_istore C (L' := [(5, .int (nI (min (fl_ln σ x) (fl_ln σ y)))), (4, .int (nI (y * 10))), (3, .int (nI (x * 10))), (0, .ref (a 12)), (1, .int (nI (x))), (2, .int (nI (y)))]) dX1_agreement_26 (by decide) rfl ?_
  refine z_iconst C (v := nI (0)) (by decide) dX1_agreement_28 ?_
  refine z_istore C (L' := [(6, .int (nI (0))), (5, .int (nI (min (fl_ln σ x) (fl_ln σ y)))), (4, .int (nI (y * 10))), (3, .int (nI (x * 10))), (0, .ref (a 12)), (1, .int (nI (x))), (2, .int (nI (y)))]) dX1_agreement_29 (by decide) rfl ?_
  have loop_31 : ∀ (k_31 k : Nat), (min (fl_ln σ x) (fl_ln σ y)) < k + k_31 → k ≤ (min (fl_ln σ x) (fl_ln σ y)) → (hres : fl_agrL σ x y ((min (fl_ln σ x) (fl_ln σ y)) - k) k = fl_agr σ x y) → zK p l e (zR 1 21) s m args below meth c D A 7 Q 0 0 31 [(6, .int (nI (k))), (5, .int (nI (min (fl_ln σ x) (fl_ln σ y)))), (4, .int (nI (y * 10))), (3, .int (nI (x * 10))), (2, .int (nI (y))), (1, .int (nI (x))), (0, .ref (a 12))] [] [(shF a cI cZ, σ)] := by
    intro k_31
    induction k_31 with
    | zero => intro k  m1_31 m2_31; exact absurd m1_31 (by omega)
    | succ k_31 ih_31 =>
      intro k  m1_31 m2_31 hres
      refine z_iload C dX1_agreement_31 0 rfl ?_
      refine z_iload C dX1_agreement_33 1 rfl ?_
      refine z_icmp_geN C (tgt := 88) dX1_agreement_35 (by decide) (by omega) (by omega) (fun c_35 => ?_) (fun c_35 => ?_)
      · refine z_iload C dX1_agreement_88 0 rfl ?_
        rw [hQ]; exact z_iret C hr dX1_agreement_90 ⟨congrArg (fun x => some (Value.int (nI x))) (by have h := hres; rw [fl_agr_end _ _ _ _ _ (by omega)] at h; exact h), rfl⟩
      · refine z_aload_n C dX1_agreement_38 rfl 6 rfl ?_
        refine z_getR C wu_X1 0 rfl 12 rfl rfl 2 (by decide) rfl wf_X1_18 dX1_agreement_39 ?_
        refine z_iload_n C dX1_agreement_42 rfl 3 rfl ?_
        refine z_iload C dX1_agreement_43 0 rfl ?_
        refine z_iaddN C dX1_agreement_45 ?_
        refine z_iald C 0 rfl 10 0 rfl rfl dX1_agreement_46 (by omega) (by decide) ?_
        refine z_aload_n C dX1_agreement_47 rfl 6 rfl ?_
        refine z_getR C wu_X1 0 rfl 12 rfl rfl 2 (by decide) rfl wf_X1_18 dX1_agreement_48 ?_
        refine z_iload C dX1_agreement_51 2 rfl ?_
        refine z_iload C dX1_agreement_53 0 rfl ?_
        refine z_iaddN C dX1_agreement_55 ?_
        refine z_iald C 0 rfl 10 0 rfl rfl dX1_agreement_56 (by omega) (by decide) ?_
        refine z_icmp_ne C (tgt := 88) dX1_agreement_57 (by decide) (fun c_57 => ?_) (fun c_57 => ?_)
        · refine z_iload C dX1_agreement_88 0 rfl ?_
          rw [hQ]; exact z_iret C hr dX1_agreement_90 ⟨congrArg (fun x => some (Value.int (nI x))) (by have h := hres; rw [fl_agr_go _ _ _ _ _ (by omega), if_neg (fun q => c_57 q.1)] at h; exact h), rfl⟩
        · refine z_aload_n C dX1_agreement_60 rfl 6 rfl ?_
          refine z_getR C wu_X1 0 rfl 12 rfl rfl 3 (by decide) rfl wf_X1_21 dX1_agreement_61 ?_
          refine z_iload_n C dX1_agreement_64 rfl 3 rfl ?_
          refine z_iload C dX1_agreement_65 0 rfl ?_
          refine z_iaddN C dX1_agreement_67 ?_
          refine z_iald C 0 rfl 11 0 rfl rfl dX1_agreement_68 (by omega) (by decide) ?_
          refine z_aload_n C dX1_agreement_69 rfl 6 rfl ?_
          refine z_getR C wu_X1 0 rfl 12 rfl rfl 3 (by decide) rfl wf_X1_21 dX1_agreement_70 ?_
          refine z_iload C dX1_agreement_73 2 rfl ?_
          refine z_iload C dX1_agreement_75 0 rfl ?_
          refine z_iaddN C dX1_agreement_77 ?_
          refine z_iald C 0 rfl 11 0 rfl rfl dX1_agreement_78 (by omega) (by decide) ?_
          refine z_icmp_ne C (tgt := 88) dX1_agreement_79 (by decide) (fun c_79 => ?_) (fun c_79 => ?_)
          · refine z_iload C dX1_agreement_88 0 rfl ?_
            rw [hQ]; exact z_iret C hr dX1_agreement_90 ⟨congrArg (fun x => some (Value.int (nI x))) (by have h := hres; rw [fl_agr_go _ _ _ _ _ (by omega), if_neg (fun q => c_79 q.2)] at h; exact h), rfl⟩
          · refine z_iinc C (L' := [(6, .int (nI (k + 1))), (5, .int (nI (min (fl_ln σ x) (fl_ln σ y)))), (4, .int (nI (y * 10))), (3, .int (nI (x * 10))), (2, .int (nI (y))), (1, .int (nI (x))), (0, .ref (a 12))]) dX1_agreement_82 0 rfl (z_inc1 _) (by decide) rfl ?_
            refine z_goto C (tgt := 31) dX1_agreement_85 (by decide) ?_
            refine z_sub (L' := [(6, .int (nI (k + 1))), (5, .int (nI (min (fl_ln σ x) (fl_ln σ y)))), (4, .int (nI (y * 10))), (3, .int (nI (x * 10))), (2, .int (nI (y))), (1, .int (nI (x))), (0, .ref (a 12))]) [0, 1, 2, 3, 4, 5, 6] rfl ?_
            exact ih_31 (k + 1)  (by omega) (by omega) (by have h := hres; rw [fl_agr_go _ _ _ _ _ (by omega), if_pos ⟨c_57, c_79⟩] at h; exact h)
  refine z_sub (L' := [(6, .int (nI (0))), (5, .int (nI (min (fl_ln σ x) (fl_ln σ y)))), (4, .int (nI (y * 10))), (3, .int (nI (x * 10))), (2, .int (nI (y))), (1, .int (nI (x))), (0, .ref (a 12))]) [0, 1, 2, 3, 6, 5, 4] rfl ?_
  exact loop_31 ((min (fl_ln σ x) (fl_ln σ y)) + 1) 0  (by omega) (by omega) rfl
set_option maxHeartbeats 4000000 in
set_option maxRecDepth 100000 in
theorem c_X1_asNew (l : Launch) (D : va_G) (cI cZ cB cE : ClassId) (a : Nat → Nat) (σ : zF) (n : Nat) (hI : fl_Iv n σ) (x : Nat) (y : Nat) (hx : x < n) (hy : y < n) : zM l D (tyL cI cZ cB cE) yX1_asNew cX1_asNew 5 (some .boolean) (zR 1 21) [.ref (a 12), .int (nI (x)), .int (nI (y))] [(shF a cI cZ, σ)] 0 0 (fun r u => r = some (.int (zb (fl_nw σ x y))) ∧ u = [(shF a cI cZ, σ)]) := by
  have hn3 := hI.n3
  have hn7 := hI.n7
  refine z_of (by decide) (Nat.le_of_ble_eq_true rfl) rfl ?_
  intro p e s m args below meth c A C hr hin
  obtain ⟨Q, hQ⟩ : ∃ Q, Q = MQ below (zQ (fun r u => r = some (.int (zb (fl_nw σ x y))) ∧ u = [(shF a cI cZ, σ)]) D (tyL cI cZ cB cE) A) args s 0 0 A := ⟨_, rfl⟩
  rw [← hQ]
  refine z_aload_n C dX1_asNew_0 rfl 0 rfl ?_
  refine z_iload_n C dX1_asNew_1 rfl 1 rfl ?_
  refine z_cV C (st' := [.int (fl_last σ x)]) (B' := [(shF a cI cZ, σ)]) [true] rfl (c_X1_lastTerm l D cI cZ cB cE a σ n hI x (by omega)) wq_yX1_lastTerm wm_X1_36 ⟨wn_yX1_lastTerm, wo_yX1_lastTerm⟩ ⟨rfl, rfl, Nat.le_of_ble_eq_true rfl, Nat.le_of_ble_eq_true rfl⟩ 0 rfl 12 rfl rfl rfl rfl (Nat.le_of_ble_eq_true rfl) dX1_asNew_2 ⟨Nat.le_of_ble_eq_true rfl, Nat.le_of_ble_eq_true rfl⟩ rfl rfl ?_
  refine z_istore_n C (L' := [(3, .int (fl_last σ x)), (0, .ref (a 12)), (1, .int (nI (x))), (2, .int (nI (y)))]) dX1_asNew_5 rfl (by decide) rfl ?_
  refine z_aload_n C dX1_asNew_6 rfl 1 rfl ?_
  refine z_iload_n C dX1_asNew_7 rfl 3 rfl ?_
  refine z_cV C (st' := [.int (fl_last σ y)]) (B' := [(shF a cI cZ, σ)]) [true] rfl (c_X1_lastTerm l D cI cZ cB cE a σ n hI y (by omega)) wq_yX1_lastTerm wm_X1_36 ⟨wn_yX1_lastTerm, wo_yX1_lastTerm⟩ ⟨rfl, rfl, Nat.le_of_ble_eq_true rfl, Nat.le_of_ble_eq_true rfl⟩ 0 rfl 12 rfl rfl rfl rfl (Nat.le_of_ble_eq_true rfl) dX1_asNew_8 ⟨Nat.le_of_ble_eq_true rfl, Nat.le_of_ble_eq_true rfl⟩ rfl rfl ?_
  refine z_istore C (L' := [(4, .int (fl_last σ y)), (3, .int (fl_last σ x)), (0, .ref (a 12)), (1, .int (nI (x))), (2, .int (nI (y)))]) dX1_asNew_11 (by decide) rfl ?_
  refine z_iload_n C dX1_asNew_13 rfl 1 rfl ?_
  refine z_iload C dX1_asNew_14 0 rfl ?_
  refine z_icmp_gt C (tgt := 40) dX1_asNew_16 (by decide) (fun c_16 => ?_) (fun c_16 => ?_)
  · refine z_iconst C (v := nI (1)) (by decide) dX1_asNew_40 ?_
    refine z_goto C (tgt := 45) dX1_asNew_41 (by decide) ?_
    rw [hQ]; exact z_zret C hr (by decide) dX1_asNew_45 ⟨z_b1 (by first | (simp [fl_nw, c_16]; done) | (simp [fl_nw, c_16]; omega)), rfl⟩
  · refine z_iload_n C dX1_asNew_19 rfl 1 rfl ?_
    refine z_iload C dX1_asNew_20 0 rfl ?_
    refine z_icmp_ne C (tgt := 44) dX1_asNew_22 (by decide) (fun c_22 => ?_) (fun c_22 => ?_)
    · refine z_iconst C (v := nI (0)) (by decide) dX1_asNew_44 ?_
      rw [hQ]; exact z_zret C hr (by decide) dX1_asNew_45 ⟨z_b0 (by first | (simp [fl_nw, c_16, c_22]; done) | (simp [fl_nw, c_16, c_22]; omega)), rfl⟩
    · refine z_aload_n C dX1_asNew_25 rfl 2 rfl ?_
      refine z_getR C wu_X1 0 rfl 12 rfl rfl 0 (by decide) rfl wf_X1_9 dX1_asNew_26 ?_
      refine z_iload_n C dX1_asNew_29 rfl 3 rfl ?_
      refine z_iald C 0 rfl 8 0 rfl rfl dX1_asNew_30 (by omega) (by decide) ?_
      refine z_top (y := nI (fl_ln σ x)) (hI.ln (by omega)) ?_
      have hb_1 := hI.lnT (i := x) (by omega)
      refine z_aload_n C dX1_asNew_31 rfl 2 rfl ?_
      refine z_getR C wu_X1 0 rfl 12 rfl rfl 0 (by decide) rfl wf_X1_9 dX1_asNew_32 ?_
      refine z_iload_n C dX1_asNew_35 rfl 4 rfl ?_
      refine z_iald C 0 rfl 8 0 rfl rfl dX1_asNew_36 (by omega) (by decide) ?_
      refine z_top (y := nI (fl_ln σ y)) (hI.ln (by omega)) ?_
      have hb_2 := hI.lnT (i := y) (by omega)
      refine z_icmp_ltN C (tgt := 44) dX1_asNew_37 (by decide) (by omega) (by omega) (fun c_37 => ?_) (fun c_37 => ?_)
      · refine z_iconst C (v := nI (0)) (by decide) dX1_asNew_44 ?_
        rw [hQ]; exact z_zret C hr (by decide) dX1_asNew_45 ⟨z_b0 (by first | (simp [fl_nw, c_16, c_22, c_37]; done) | (simp [fl_nw, c_16, c_22, c_37]; omega)), rfl⟩
      · refine z_iconst C (v := nI (1)) (by decide) dX1_asNew_40 ?_
        refine z_goto C (tgt := 45) dX1_asNew_41 (by decide) ?_
        rw [hQ]; exact z_zret C hr (by decide) dX1_asNew_45 ⟨z_b1 (by first | (simp [fl_nw, c_16, c_22, c_37]; done) | (simp [fl_nw, c_16, c_22, c_37]; omega)), rfl⟩
set_option maxHeartbeats 4000000 in
set_option maxRecDepth 100000 in
theorem c_X1_mend (l : Launch) (D : va_G) (cI cZ cB cE : ClassId) (a : Nat → Nat) (σ : zF) (n : Nat) (hI : fl_Iv n σ) (x : Nat) (y : Nat) (hx : x < n) (hy : y < n) : zM l D (tyL cI cZ cB cE) yX1_mend cX1_mend 4 (some .boolean) (zR 2 47) [.ref (a 12), .int (nI (x)), .int (nI (y))] [(shF a cI cZ, σ)] 0 0 (fun r u => r = some (.int (zb (fl_cut σ x y))) ∧ u = [(shF a cI cZ, (fl_mend σ x y))]) := by
  have hn3 := hI.n3
  have hn7 := hI.n7
  refine z_of (by decide) (Nat.le_of_ble_eq_true rfl) rfl ?_
  intro p e s m args below meth c A C hr hin
  obtain ⟨Q, hQ⟩ : ∃ Q, Q = MQ below (zQ (fun r u => r = some (.int (zb (fl_cut σ x y))) ∧ u = [(shF a cI cZ, (fl_mend σ x y))]) D (tyL cI cZ cB cE) A) args s 0 0 A := ⟨_, rfl⟩
  rw [← hQ]
  have hxy := hI.lnT hx
  refine z_aload_n C dX1_mend_0 rfl 0 rfl ?_
  refine z_iload_n C dX1_mend_1 rfl 1 rfl ?_
  refine z_iload_n C dX1_mend_2 rfl 2 rfl ?_
  have hf_1 := fl_agr_m σ x y
  have hf_2 := hI.lnT (i := x) (by omega)
  have hf_3 := hI.lnT (i := y) (by omega)
  refine z_cV C (st' := [.int (nI (fl_agr σ x y))]) (B' := [(shF a cI cZ, σ)]) [true] rfl (c_X1_agreement l D cI cZ cB cE a σ n hI x y (by omega) (by omega)) wq_yX1_agreement wm_X1_40 ⟨wn_yX1_agreement, wo_yX1_agreement⟩ ⟨rfl, rfl, Nat.le_of_ble_eq_true rfl, Nat.le_of_ble_eq_true rfl⟩ 0 rfl 12 rfl rfl rfl rfl (Nat.le_of_ble_eq_true rfl) dX1_mend_3 ⟨Nat.le_of_ble_eq_true rfl, Nat.le_of_ble_eq_true rfl⟩ rfl rfl ?_
  refine z_istore_n C (L' := [(3, .int (nI (fl_agr σ x y))), (0, .ref (a 12)), (1, .int (nI (x))), (2, .int (nI (y)))]) dX1_mend_6 rfl (by decide) rfl ?_
  refine z_aload_n C dX1_mend_7 rfl 1 rfl ?_
  refine z_getR C wu_X1 0 rfl 12 rfl rfl 0 (by decide) rfl wf_X1_9 dX1_mend_8 ?_
  refine z_iload_n C dX1_mend_11 rfl 3 rfl ?_
  refine z_iald C 0 rfl 8 0 rfl rfl dX1_mend_12 (by omega) (by decide) ?_
  refine z_top (y := nI (fl_ln σ y)) (hI.ln (by omega)) ?_
  have hb_4 := hI.lnT (i := y) (by omega)
  refine z_iload_n C dX1_mend_13 rfl 0 rfl ?_
  refine z_icmp_leN C (tgt := 24) dX1_mend_14 (by decide) (by omega) (by omega) (fun c_14 => ?_) (fun c_14 => ?_)
  · refine z_iload_n C dX1_mend_24 rfl 0 rfl ?_
    refine z_aload_n C dX1_mend_25 rfl 1 rfl ?_
    refine z_getR C wu_X1 0 rfl 12 rfl rfl 0 (by decide) rfl wf_X1_9 dX1_mend_26 ?_
    refine z_iload_n C dX1_mend_29 rfl 2 rfl ?_
    refine z_iald C 0 rfl 8 0 rfl rfl dX1_mend_30 (by omega) (by decide) ?_
    refine z_top (y := nI (fl_ln σ x)) (hI.ln (by omega)) ?_
    have hb_5 := hI.lnT (i := x) (by omega)
    refine z_icmp_geN C (tgt := 51) dX1_mend_31 (by decide) (by omega) (by omega) (fun c_31 => ?_) (fun c_31 => ?_)
    · refine z_iconst C (v := nI (0)) (by decide) dX1_mend_51 ?_
      rw [hQ]; exact z_zret C hr (by decide) dX1_mend_52 ⟨z_b0 (by simp [fl_cut]; omega), congrArg (fun x => [(shF a cI cZ, x)]) (by unfold fl_mend; (first | rw [if_pos (by omega)] | (rw [if_neg (by omega)]; first | rw [if_pos (by omega)] | rw [if_neg (by omega)])))⟩
    · refine z_aload_n C dX1_mend_34 rfl 1 rfl ?_
      refine z_iload_n C dX1_mend_35 rfl 3 rfl ?_
      refine z_aload_n C dX1_mend_36 rfl 1 rfl ?_
      refine z_iload_n C dX1_mend_37 rfl 2 rfl ?_
      refine z_iload_n C dX1_mend_38 rfl 0 rfl ?_
      refine z_cV C (st' := [.int (σ 10 ((x * 10) + (fl_agr σ x y))), .int (nI (y)), .ref (a 12)]) (B' := [(shF a cI cZ, σ)]) [true] rfl (c_X1_termAt l D cI cZ cB cE a σ n hI x (fl_agr σ x y) (by omega) (by omega)) wq_yX1_termAt wm_X1_47 ⟨wn_yX1_termAt, wo_yX1_termAt⟩ ⟨rfl, rfl, Nat.le_of_ble_eq_true rfl, Nat.le_of_ble_eq_true rfl⟩ 0 rfl 12 rfl rfl rfl rfl (Nat.le_of_ble_eq_true rfl) dX1_mend_39 ⟨Nat.le_of_ble_eq_true rfl, Nat.le_of_ble_eq_true rfl⟩ rfl rfl ?_
      refine z_aload_n C dX1_mend_42 rfl 1 rfl ?_
      refine z_iload_n C dX1_mend_43 rfl 2 rfl ?_
      refine z_iload_n C dX1_mend_44 rfl 0 rfl ?_
      refine z_cV C (st' := [.int (σ 11 ((x * 10) + (fl_agr σ x y))), .int (σ 10 ((x * 10) + (fl_agr σ x y))), .int (nI (y)), .ref (a 12)]) (B' := [(shF a cI cZ, σ)]) [true] rfl (c_X1_fishAt l D cI cZ cB cE a σ n hI x (fl_agr σ x y) (by omega) (by omega)) wq_yX1_fishAt wm_X1_50 ⟨wn_yX1_fishAt, wo_yX1_fishAt⟩ ⟨rfl, rfl, Nat.le_of_ble_eq_true rfl, Nat.le_of_ble_eq_true rfl⟩ 0 rfl 12 rfl rfl rfl rfl (Nat.le_of_ble_eq_true rfl) dX1_mend_45 ⟨Nat.le_of_ble_eq_true rfl, Nat.le_of_ble_eq_true rfl⟩ rfl rfl ?_
      have hi_6 : fl_Iv n (fl_app σ y (σ 10 ((x * 10) + (fl_agr σ x y))) (σ 11 ((x * 10) + (fl_agr σ x y)))) := (((hI.U 10 _ _ (by decide) (by decide) (by decide) (by decide)).U 11 _ _ (by decide) (by decide) (by decide) (by decide)).U8 _ _ (by omega))
      refine z_cV C (st' := []) (B' := [(shF a cI cZ, (fl_app σ y (σ 10 ((x * 10) + (fl_agr σ x y))) (σ 11 ((x * 10) + (fl_agr σ x y)))))]) [true] rfl (c_X1_append l D cI cZ cB cE a σ n hI y (σ 10 ((x * 10) + (fl_agr σ x y))) (σ 11 ((x * 10) + (fl_agr σ x y))) (by omega) (by omega)) wq_yX1_append wm_X1_53 ⟨wn_yX1_append, wo_yX1_append⟩ ⟨rfl, rfl, Nat.le_of_ble_eq_true rfl, Nat.le_of_ble_eq_true rfl⟩ 0 rfl 12 rfl rfl rfl rfl (Nat.le_of_ble_eq_true rfl) dX1_mend_48 ⟨Nat.le_of_ble_eq_true rfl, Nat.le_of_ble_eq_true rfl⟩ rfl rfl ?_
      refine z_iconst C (v := nI (0)) (by decide) dX1_mend_51 ?_
      rw [hQ]; exact z_zret C hr (by decide) dX1_mend_52 ⟨z_b0 (by simp [fl_cut]; omega), congrArg (fun x => [(shF a cI cZ, x)]) (by unfold fl_mend; (first | rw [if_pos (by omega)] | (rw [if_neg (by omega)]; first | rw [if_pos (by omega)] | rw [if_neg (by omega)])))⟩
  · refine z_aload_n C dX1_mend_17 rfl 1 rfl ?_
    refine z_iload_n C dX1_mend_18 rfl 3 rfl ?_
    have hi_7 : fl_Iv n (zU σ 8 y (nI (fl_ln σ y - 1))) := (hI.U8 _ _ (by omega))
    refine z_cV C (st' := []) (B' := [(shF a cI cZ, (zU σ 8 y (nI (fl_ln σ y - 1))))]) [true] rfl (c_X1_loseLast l D cI cZ cB cE a σ n hI y (by omega) (by omega)) wq_yX1_loseLast wm_X1_43 ⟨wn_yX1_loseLast, wo_yX1_loseLast⟩ ⟨rfl, rfl, Nat.le_of_ble_eq_true rfl, Nat.le_of_ble_eq_true rfl⟩ 0 rfl 12 rfl rfl rfl rfl (Nat.le_of_ble_eq_true rfl) dX1_mend_19 ⟨Nat.le_of_ble_eq_true rfl, Nat.le_of_ble_eq_true rfl⟩ rfl rfl ?_
    refine z_iconst C (v := nI (1)) (by decide) dX1_mend_22 ?_
    rw [hQ]; exact z_zret C hr (by decide) dX1_mend_23 ⟨z_b1 (by simp [fl_cut]; omega), congrArg (fun x => [(shF a cI cZ, x)]) (by unfold fl_mend; (first | rw [if_pos (by omega)] | (rw [if_neg (by omega)]; first | rw [if_pos (by omega)] | rw [if_neg (by omega)])))⟩
set_option maxHeartbeats 4000000 in
set_option maxRecDepth 100000 in
theorem c_X1_learnCommitted (l : Launch) (D : va_G) (cI cZ cB cE : ClassId) (a : Nat → Nat) (σ : zF) (n : Nat) (hI : fl_Iv n σ) (x : Nat) (y : Nat) (hx : x < n) (hy : y < n) : zM l D (tyL cI cZ cB cE) yX1_learnCommitted cX1_learnCommitted 4 none (zR 2 47) [.ref (a 12), .int (nI (x)), .int (nI (y))] [(shF a cI cZ, σ)] 0 0 (fun r u => r = none ∧ u = [(shF a cI cZ, (fl_lrn σ x y))]) := by
  have hn3 := hI.n3
  have hn7 := hI.n7
  refine z_of (by decide) (Nat.le_of_ble_eq_true rfl) rfl ?_
  intro p e s m args below meth c A C hr hin
  obtain ⟨Q, hQ⟩ : ∃ Q, Q = MQ below (zQ (fun r u => r = none ∧ u = [(shF a cI cZ, (fl_lrn σ x y))]) D (tyL cI cZ cB cE) A) args s 0 0 A := ⟨_, rfl⟩
  rw [← hQ]
  refine z_aload_n C dX1_learnCommitted_0 rfl 0 rfl ?_
  refine z_getR C wu_X1 0 rfl 12 rfl rfl 1 (by decide) rfl wf_X1_15 dX1_learnCommitted_1 ?_
  refine z_iload_n C dX1_learnCommitted_4 rfl 1 rfl ?_
  refine z_iald C 0 rfl 9 0 rfl rfl dX1_learnCommitted_5 (by omega) (by decide) ?_
  refine z_top (y := nI (fl_kn σ x)) (hI.kn (by omega)) ?_
  have hb_1 := hI.knT (i := x) (by omega)
  refine z_aload_n C dX1_learnCommitted_6 rfl 0 rfl ?_
  refine z_iload_n C dX1_learnCommitted_7 rfl 1 rfl ?_
  refine z_iload_n C dX1_learnCommitted_8 rfl 2 rfl ?_
  have hf_2 := fl_agr_m σ x y
  have hf_3 := hI.lnT (i := x) (by omega)
  have hf_4 := hI.lnT (i := y) (by omega)
  refine z_cV C (st' := [.int (nI (fl_agr σ x y)), .int (nI (fl_kn σ x))]) (B' := [(shF a cI cZ, σ)]) [true] rfl (c_X1_agreement l D cI cZ cB cE a σ n hI x y (by omega) (by omega)) wq_yX1_agreement wm_X1_40 ⟨wn_yX1_agreement, wo_yX1_agreement⟩ ⟨rfl, rfl, Nat.le_of_ble_eq_true rfl, Nat.le_of_ble_eq_true rfl⟩ 0 rfl 12 rfl rfl rfl rfl (Nat.le_of_ble_eq_true rfl) dX1_learnCommitted_9 ⟨Nat.le_of_ble_eq_true rfl, Nat.le_of_ble_eq_true rfl⟩ rfl rfl ?_
  refine z_mminN C wm_X1_30 ws_min wi_J9 wk_min ⟨(Nat.le_of_ble_eq_true rfl), (Nat.le_of_ble_eq_true rfl), (Nat.le_of_ble_eq_true rfl), (Nat.le_of_ble_eq_true rfl)⟩ dX1_learnCommitted_12 (by omega) (by omega) ?_
  refine z_istore_n C (L' := [(3, .int (nI (min (fl_kn σ x) (fl_agr σ x y)))), (0, .ref (a 12)), (1, .int (nI (x))), (2, .int (nI (y)))]) dX1_learnCommitted_15 rfl (by decide) rfl ?_
  refine z_aload_n C dX1_learnCommitted_16 rfl 1 rfl ?_
  refine z_getR C wu_X1 0 rfl 12 rfl rfl 1 (by decide) rfl wf_X1_15 dX1_learnCommitted_17 ?_
  refine z_iload_n C dX1_learnCommitted_20 rfl 3 rfl ?_
  refine z_aload_n C dX1_learnCommitted_21 rfl 1 rfl ?_
  refine z_getR C wu_X1 0 rfl 12 rfl rfl 1 (by decide) rfl wf_X1_15 dX1_learnCommitted_22 ?_
  refine z_iload_n C dX1_learnCommitted_25 rfl 3 rfl ?_
  refine z_iald C 0 rfl 9 0 rfl rfl dX1_learnCommitted_26 (by omega) (by decide) ?_
  refine z_top (y := nI (fl_kn σ y)) (hI.kn (by omega)) ?_
  have hb_5 := hI.knT (i := y) (by omega)
  refine z_iload_n C dX1_learnCommitted_27 rfl 0 rfl ?_
  refine z_mmaxN C wm_X1_57 ws_max wi_J9 wk_max ⟨(Nat.le_of_ble_eq_true rfl), (Nat.le_of_ble_eq_true rfl), (Nat.le_of_ble_eq_true rfl), (Nat.le_of_ble_eq_true rfl)⟩ dX1_learnCommitted_28 (by omega) (by omega) ?_
  refine z_iast C (B' := [(shF a cI cZ, (zU σ 9 (y) (nI (max (fl_kn σ y) (min (fl_kn σ x) (fl_agr σ x y))))))]) 0 rfl 9 0 rfl rfl dX1_learnCommitted_31 (by omega) (by decide) rfl ?_
  rw [hQ]; exact z_vret C hr dX1_learnCommitted_32 ⟨rfl, congrArg (fun x => [(shF a cI cZ, x)]) (by rfl)⟩
