set_option maxHeartbeats 4000000 in
set_option maxRecDepth 100000 in
theorem c_X1_init (l : Launch) (D : va_G) (cI cZ cB cE : ClassId) (h0 : Nat) : zM l D (tyL cI cZ cB cE) yX1_init cX1_init 1 none ({ frames := 1, cells := 4, slots := 154, locals := 12 } : Room) [.ref h0] [([(h0, .inr (.inr (.inr (1, [.null, .null, .null, .null]))))], zZ)] 4 154 (fun r u => r = none ∧ ∃ q1 q2 q3 q4 : Nat, u = [([(h0, .inr (.inl (1, [some q1, some q2, some q3, some q4]))), (q1, .inl (cI, 7)), (q2, .inl (cI, 7)), (q3, .inl (cI, 70)), (q4, .inl (cI, 70))], zZ)]) := by
  refine z_of (by decide) (Nat.le_of_ble_eq_true rfl) rfl ?_
  intro p e s m args below meth c A C hr hin
  obtain ⟨Q, hQ⟩ : ∃ Q, Q = MQ below (zQ (fun r u => r = none ∧ ∃ q1 q2 q3 q4 : Nat, u = [([(h0, .inr (.inl (1, [some q1, some q2, some q3, some q4]))), (q1, .inl (cI, 7)), (q2, .inl (cI, 7)), (q3, .inl (cI, 70)), (q4, .inl (cI, 70))], zZ)]) D (tyL cI cZ cB cE) A) args s 4 154 A := ⟨_, rfl⟩
  rw [← hQ]
  refine z_aload_n C dX1_init_0 rfl 0 rfl ?_
  refine z_oinit C wm_X1_3 ⟨Nat.le_of_ble_eq_true rfl, Nat.le_of_ble_eq_true rfl⟩ dX1_init_1 ?_
  refine z_aload_n C dX1_init_4 rfl 0 rfl ?_
  refine z_bipush C (v := nI (7)) (by decide) dX1_init_5 ?_
  refine z_newa C (atype := .int) (cA := cI) (ty := .int) 0 wa_int rfl rfl rfl (C.2.2.2.2.2.1.2 0 _ rfl).2 (Nat.le_of_ble_eq_true rfl) (Nat.le_of_ble_eq_true rfl) ⟨Nat.le_of_ble_eq_true rfl, Nat.le_of_ble_eq_true rfl⟩ dX1_init_7 (fun q1 => ?_)
  refine z_eq (B' := [([(h0, .inr (.inr (.inr (1, [.null, .null, .null, .null]))))], zZ), ([(q1, .inl (cI, 7))], zZ)]) rfl ?_
  refine z_putF C (B' := [([(h0, .inr (.inr (.inr (1, [.ref (q1), .null, .null, .null]))))], zZ), ([(q1, .inl (cI, 7))], zZ)]) wu_X1 tyX1_ok nmX1 0 rfl 0 rfl rfl 0 (by decide) wf_X1_9 rfl (hin rfl) rfl (ty := .array .int) (by decide +kernel) rfl rfl (Nat.le_of_ble_eq_true rfl) dX1_init_9 rfl ?_
  refine z_aload_n C dX1_init_12 rfl 0 rfl ?_
  refine z_bipush C (v := nI (7)) (by decide) dX1_init_13 ?_
  refine z_newa C (atype := .int) (cA := cI) (ty := .int) 0 wa_int rfl rfl rfl (C.2.2.2.2.2.1.2 0 _ rfl).2 (Nat.le_of_ble_eq_true rfl) (Nat.le_of_ble_eq_true rfl) ⟨Nat.le_of_ble_eq_true rfl, Nat.le_of_ble_eq_true rfl⟩ dX1_init_15 (fun q2 => ?_)
  refine z_eq (B' := [([(h0, .inr (.inr (.inr (1, [.ref (q1), .null, .null, .null]))))], zZ), ([(q1, .inl (cI, 7))], zZ), ([(q2, .inl (cI, 7))], zZ)]) rfl ?_
  refine z_putF C (B' := [([(h0, .inr (.inr (.inr (1, [.ref (q1), .ref (q2), .null, .null]))))], zZ), ([(q1, .inl (cI, 7))], zZ), ([(q2, .inl (cI, 7))], zZ)]) wu_X1 tyX1_ok nmX1 0 rfl 0 rfl rfl 1 (by decide) wf_X1_15 rfl (hin rfl) rfl (ty := .array .int) (by decide +kernel) rfl rfl (Nat.le_of_ble_eq_true rfl) dX1_init_17 rfl ?_
  refine z_aload_n C dX1_init_20 rfl 0 rfl ?_
  refine z_bipush C (v := nI (70)) (by decide) dX1_init_21 ?_
  refine z_newa C (atype := .int) (cA := cI) (ty := .int) 0 wa_int rfl rfl rfl (C.2.2.2.2.2.1.2 0 _ rfl).2 (Nat.le_of_ble_eq_true rfl) (Nat.le_of_ble_eq_true rfl) ⟨Nat.le_of_ble_eq_true rfl, Nat.le_of_ble_eq_true rfl⟩ dX1_init_23 (fun q3 => ?_)
  refine z_eq (B' := [([(h0, .inr (.inr (.inr (1, [.ref (q1), .ref (q2), .null, .null]))))], zZ), ([(q1, .inl (cI, 7))], zZ), ([(q2, .inl (cI, 7))], zZ), ([(q3, .inl (cI, 70))], zZ)]) rfl ?_
  refine z_putF C (B' := [([(h0, .inr (.inr (.inr (1, [.ref (q1), .ref (q2), .ref (q3), .null]))))], zZ), ([(q1, .inl (cI, 7))], zZ), ([(q2, .inl (cI, 7))], zZ), ([(q3, .inl (cI, 70))], zZ)]) wu_X1 tyX1_ok nmX1 0 rfl 0 rfl rfl 2 (by decide) wf_X1_18 rfl (hin rfl) rfl (ty := .array .int) (by decide +kernel) rfl rfl (Nat.le_of_ble_eq_true rfl) dX1_init_25 rfl ?_
  refine z_aload_n C dX1_init_28 rfl 0 rfl ?_
  refine z_bipush C (v := nI (70)) (by decide) dX1_init_29 ?_
  refine z_newa C (atype := .int) (cA := cI) (ty := .int) 0 wa_int rfl rfl rfl (C.2.2.2.2.2.1.2 0 _ rfl).2 (Nat.le_of_ble_eq_true rfl) (Nat.le_of_ble_eq_true rfl) ⟨Nat.le_of_ble_eq_true rfl, Nat.le_of_ble_eq_true rfl⟩ dX1_init_31 (fun q4 => ?_)
  refine z_eq (B' := [([(h0, .inr (.inr (.inr (1, [.ref (q1), .ref (q2), .ref (q3), .null]))))], zZ), ([(q1, .inl (cI, 7))], zZ), ([(q2, .inl (cI, 7))], zZ), ([(q3, .inl (cI, 70))], zZ), ([(q4, .inl (cI, 70))], zZ)]) rfl ?_
  refine z_putF C (B' := [([(h0, .inr (.inr (.inr (1, [.ref (q1), .ref (q2), .ref (q3), .ref (q4)]))))], zZ), ([(q1, .inl (cI, 7))], zZ), ([(q2, .inl (cI, 7))], zZ), ([(q3, .inl (cI, 70))], zZ), ([(q4, .inl (cI, 70))], zZ)]) wu_X1 tyX1_ok nmX1 0 rfl 0 rfl rfl 3 (by decide) wf_X1_21 rfl (hin rfl) rfl (ty := .array .int) (by decide +kernel) rfl rfl (Nat.le_of_ble_eq_true rfl) dX1_init_33 rfl ?_
  refine z_weq (B' := [([(h0, .inr (.inl (1, [some q1, some q2, some q3, some q4]))), (q1, .inl (cI, 7)), (q2, .inl (cI, 7)), (q3, .inl (cI, 70)), (q4, .inl (cI, 70))], zZ)]) rfl ?_
  refine z_widen (k := 4) (n := 154) (Nat.le_of_ble_eq_true rfl) (Nat.le_of_ble_eq_true rfl) ?_
  rw [hQ]; exact z_vret C hr dX1_init_36 ⟨rfl, q1, q2, q3, q4, rfl⟩
set_option maxHeartbeats 4000000 in
set_option maxRecDepth 100000 in
theorem c_X0_init (l : Launch) (D : va_G) (cI cZ cB cE : ClassId) (h0 : Nat) : zM l D (tyL cI cZ cB cE) yX0_init cX0_init 1 none ({ frames := 2, cells := 12, slots := 207, locals := 32 } : Room) [.ref h0] [([(h0, .inr (.inr (.inr (0, [.int 0, .int 0, .int 0, .int 0, .int 0, .null, .null, .null, .null, .null, .null, .null, .null]))))], zZ)] 12 207 (fun r u => r = none ∧ ∃ a : Nat → Nat, h0 = a 0 ∧ u = [(shF a cI cZ, zZ)]) := by
  refine z_of (by decide) (Nat.le_of_ble_eq_true rfl) rfl ?_
  intro p e s m args below meth c A C hr hin
  obtain ⟨Q, hQ⟩ : ∃ Q, Q = MQ below (zQ (fun r u => r = none ∧ ∃ a : Nat → Nat, h0 = a 0 ∧ u = [(shF a cI cZ, zZ)]) D (tyL cI cZ cB cE) A) args s 12 207 A := ⟨_, rfl⟩
  rw [← hQ]
  refine z_aload_n C dX0_init_0 rfl 0 rfl ?_
  refine z_oinit C wm_X0_3 ⟨Nat.le_of_ble_eq_true rfl, Nat.le_of_ble_eq_true rfl⟩ dX0_init_1 ?_
  refine z_aload_n C dX0_init_4 rfl 0 rfl ?_
  refine z_bipush C (v := nI (7)) (by decide) dX0_init_5 ?_
  refine z_newa C (atype := .int) (cA := cI) (ty := .int) 0 wa_int rfl rfl rfl (C.2.2.2.2.2.1.2 0 _ rfl).2 (Nat.le_of_ble_eq_true rfl) (Nat.le_of_ble_eq_true rfl) ⟨Nat.le_of_ble_eq_true rfl, Nat.le_of_ble_eq_true rfl⟩ dX0_init_7 (fun q1 => ?_)
  refine z_eq (B' := [([(h0, .inr (.inr (.inr (0, [.int 0, .int 0, .int 0, .int 0, .int 0, .null, .null, .null, .null, .null, .null, .null, .null]))))], zZ), ([(q1, .inl (cI, 7))], zZ)]) rfl ?_
  refine z_putF C (B' := [([(h0, .inr (.inr (.inr (0, [.int 0, .int 0, .int 0, .int 0, .int 0, .ref (q1), .null, .null, .null, .null, .null, .null, .null]))))], zZ), ([(q1, .inl (cI, 7))], zZ)]) wu_X0 tyX0_ok nmX0 0 rfl 0 rfl rfl 5 (by decide) wf_X0_9 rfl (hin rfl) rfl (ty := .array .int) (by decide +kernel) rfl rfl (Nat.le_of_ble_eq_true rfl) dX0_init_9 rfl ?_
  refine z_aload_n C dX0_init_12 rfl 0 rfl ?_
  refine z_bipush C (v := nI (7)) (by decide) dX0_init_13 ?_
  refine z_newa C (atype := .int) (cA := cI) (ty := .int) 0 wa_int rfl rfl rfl (C.2.2.2.2.2.1.2 0 _ rfl).2 (Nat.le_of_ble_eq_true rfl) (Nat.le_of_ble_eq_true rfl) ⟨Nat.le_of_ble_eq_true rfl, Nat.le_of_ble_eq_true rfl⟩ dX0_init_15 (fun q2 => ?_)
  refine z_eq (B' := [([(h0, .inr (.inr (.inr (0, [.int 0, .int 0, .int 0, .int 0, .int 0, .ref (q1), .null, .null, .null, .null, .null, .null, .null]))))], zZ), ([(q1, .inl (cI, 7))], zZ), ([(q2, .inl (cI, 7))], zZ)]) rfl ?_
  refine z_putF C (B' := [([(h0, .inr (.inr (.inr (0, [.int 0, .int 0, .int 0, .int 0, .int 0, .ref (q1), .ref (q2), .null, .null, .null, .null, .null, .null]))))], zZ), ([(q1, .inl (cI, 7))], zZ), ([(q2, .inl (cI, 7))], zZ)]) wu_X0 tyX0_ok nmX0 0 rfl 0 rfl rfl 6 (by decide) wf_X0_15 rfl (hin rfl) rfl (ty := .array .int) (by decide +kernel) rfl rfl (Nat.le_of_ble_eq_true rfl) dX0_init_17 rfl ?_
  refine z_aload_n C dX0_init_20 rfl 0 rfl ?_
  refine z_bipush C (v := nI (7)) (by decide) dX0_init_21 ?_
  refine z_newa C (atype := .int) (cA := cI) (ty := .int) 0 wa_int rfl rfl rfl (C.2.2.2.2.2.1.2 0 _ rfl).2 (Nat.le_of_ble_eq_true rfl) (Nat.le_of_ble_eq_true rfl) ⟨Nat.le_of_ble_eq_true rfl, Nat.le_of_ble_eq_true rfl⟩ dX0_init_23 (fun q3 => ?_)
  refine z_eq (B' := [([(h0, .inr (.inr (.inr (0, [.int 0, .int 0, .int 0, .int 0, .int 0, .ref (q1), .ref (q2), .null, .null, .null, .null, .null, .null]))))], zZ), ([(q1, .inl (cI, 7))], zZ), ([(q2, .inl (cI, 7))], zZ), ([(q3, .inl (cI, 7))], zZ)]) rfl ?_
  refine z_putF C (B' := [([(h0, .inr (.inr (.inr (0, [.int 0, .int 0, .int 0, .int 0, .int 0, .ref (q1), .ref (q2), .ref (q3), .null, .null, .null, .null, .null]))))], zZ), ([(q1, .inl (cI, 7))], zZ), ([(q2, .inl (cI, 7))], zZ), ([(q3, .inl (cI, 7))], zZ)]) wu_X0 tyX0_ok nmX0 0 rfl 0 rfl rfl 7 (by decide) wf_X0_18 rfl (hin rfl) rfl (ty := .array .int) (by decide +kernel) rfl rfl (Nat.le_of_ble_eq_true rfl) dX0_init_25 rfl ?_
  refine z_aload_n C dX0_init_28 rfl 0 rfl ?_
  refine z_bipush C (v := nI (7)) (by decide) dX0_init_29 ?_
  refine z_newa C (atype := .int) (cA := cI) (ty := .int) 0 wa_int rfl rfl rfl (C.2.2.2.2.2.1.2 0 _ rfl).2 (Nat.le_of_ble_eq_true rfl) (Nat.le_of_ble_eq_true rfl) ⟨Nat.le_of_ble_eq_true rfl, Nat.le_of_ble_eq_true rfl⟩ dX0_init_31 (fun q4 => ?_)
  refine z_eq (B' := [([(h0, .inr (.inr (.inr (0, [.int 0, .int 0, .int 0, .int 0, .int 0, .ref (q1), .ref (q2), .ref (q3), .null, .null, .null, .null, .null]))))], zZ), ([(q1, .inl (cI, 7))], zZ), ([(q2, .inl (cI, 7))], zZ), ([(q3, .inl (cI, 7))], zZ), ([(q4, .inl (cI, 7))], zZ)]) rfl ?_
  refine z_putF C (B' := [([(h0, .inr (.inr (.inr (0, [.int 0, .int 0, .int 0, .int 0, .int 0, .ref (q1), .ref (q2), .ref (q3), .ref (q4), .null, .null, .null, .null]))))], zZ), ([(q1, .inl (cI, 7))], zZ), ([(q2, .inl (cI, 7))], zZ), ([(q3, .inl (cI, 7))], zZ), ([(q4, .inl (cI, 7))], zZ)]) wu_X0 tyX0_ok nmX0 0 rfl 0 rfl rfl 8 (by decide) wf_X0_21 rfl (hin rfl) rfl (ty := .array .int) (by decide +kernel) rfl rfl (Nat.le_of_ble_eq_true rfl) dX0_init_33 rfl ?_
  refine z_aload_n C dX0_init_36 rfl 0 rfl ?_
  refine z_bipush C (v := nI (7)) (by decide) dX0_init_37 ?_
  refine z_newa C (atype := .int) (cA := cI) (ty := .int) 0 wa_int rfl rfl rfl (C.2.2.2.2.2.1.2 0 _ rfl).2 (Nat.le_of_ble_eq_true rfl) (Nat.le_of_ble_eq_true rfl) ⟨Nat.le_of_ble_eq_true rfl, Nat.le_of_ble_eq_true rfl⟩ dX0_init_39 (fun q5 => ?_)
  refine z_eq (B' := [([(h0, .inr (.inr (.inr (0, [.int 0, .int 0, .int 0, .int 0, .int 0, .ref (q1), .ref (q2), .ref (q3), .ref (q4), .null, .null, .null, .null]))))], zZ), ([(q1, .inl (cI, 7))], zZ), ([(q2, .inl (cI, 7))], zZ), ([(q3, .inl (cI, 7))], zZ), ([(q4, .inl (cI, 7))], zZ), ([(q5, .inl (cI, 7))], zZ)]) rfl ?_
  refine z_putF C (B' := [([(h0, .inr (.inr (.inr (0, [.int 0, .int 0, .int 0, .int 0, .int 0, .ref (q1), .ref (q2), .ref (q3), .ref (q4), .ref (q5), .null, .null, .null]))))], zZ), ([(q1, .inl (cI, 7))], zZ), ([(q2, .inl (cI, 7))], zZ), ([(q3, .inl (cI, 7))], zZ), ([(q4, .inl (cI, 7))], zZ), ([(q5, .inl (cI, 7))], zZ)]) wu_X0 tyX0_ok nmX0 0 rfl 0 rfl rfl 9 (by decide) wf_X0_24 rfl (hin rfl) rfl (ty := .array .int) (by decide +kernel) rfl rfl (Nat.le_of_ble_eq_true rfl) dX0_init_41 rfl ?_
  refine z_aload_n C dX0_init_44 rfl 0 rfl ?_
  refine z_bipush C (v := nI (7)) (by decide) dX0_init_45 ?_
  refine z_newa C (atype := .int) (cA := cI) (ty := .int) 0 wa_int rfl rfl rfl (C.2.2.2.2.2.1.2 0 _ rfl).2 (Nat.le_of_ble_eq_true rfl) (Nat.le_of_ble_eq_true rfl) ⟨Nat.le_of_ble_eq_true rfl, Nat.le_of_ble_eq_true rfl⟩ dX0_init_47 (fun q6 => ?_)
  refine z_eq (B' := [([(h0, .inr (.inr (.inr (0, [.int 0, .int 0, .int 0, .int 0, .int 0, .ref (q1), .ref (q2), .ref (q3), .ref (q4), .ref (q5), .null, .null, .null]))))], zZ), ([(q1, .inl (cI, 7))], zZ), ([(q2, .inl (cI, 7))], zZ), ([(q3, .inl (cI, 7))], zZ), ([(q4, .inl (cI, 7))], zZ), ([(q5, .inl (cI, 7))], zZ), ([(q6, .inl (cI, 7))], zZ)]) rfl ?_
  refine z_putF C (B' := [([(h0, .inr (.inr (.inr (0, [.int 0, .int 0, .int 0, .int 0, .int 0, .ref (q1), .ref (q2), .ref (q3), .ref (q4), .ref (q5), .ref (q6), .null, .null]))))], zZ), ([(q1, .inl (cI, 7))], zZ), ([(q2, .inl (cI, 7))], zZ), ([(q3, .inl (cI, 7))], zZ), ([(q4, .inl (cI, 7))], zZ), ([(q5, .inl (cI, 7))], zZ), ([(q6, .inl (cI, 7))], zZ)]) wu_X0 tyX0_ok nmX0 0 rfl 0 rfl rfl 10 (by decide) wf_X0_27 rfl (hin rfl) rfl (ty := .array .int) (by decide +kernel) rfl rfl (Nat.le_of_ble_eq_true rfl) dX0_init_49 rfl ?_
  refine z_aload_n C dX0_init_52 rfl 0 rfl ?_
  refine z_bipush C (v := nI (7)) (by decide) dX0_init_53 ?_
  refine z_newa C (atype := .boolean) (cA := cZ) (ty := .boolean) 1 wa_boolean rfl rfl rfl (C.2.2.2.2.2.1.2 1 _ rfl).2 (Nat.le_of_ble_eq_true rfl) (Nat.le_of_ble_eq_true rfl) ⟨Nat.le_of_ble_eq_true rfl, Nat.le_of_ble_eq_true rfl⟩ dX0_init_55 (fun q7 => ?_)
  refine z_eq (B' := [([(h0, .inr (.inr (.inr (0, [.int 0, .int 0, .int 0, .int 0, .int 0, .ref (q1), .ref (q2), .ref (q3), .ref (q4), .ref (q5), .ref (q6), .null, .null]))))], zZ), ([(q1, .inl (cI, 7))], zZ), ([(q2, .inl (cI, 7))], zZ), ([(q3, .inl (cI, 7))], zZ), ([(q4, .inl (cI, 7))], zZ), ([(q5, .inl (cI, 7))], zZ), ([(q6, .inl (cI, 7))], zZ), ([(q7, .inl (cZ, 7))], zZ)]) rfl ?_
  refine z_putF C (B' := [([(h0, .inr (.inr (.inr (0, [.int 0, .int 0, .int 0, .int 0, .int 0, .ref (q1), .ref (q2), .ref (q3), .ref (q4), .ref (q5), .ref (q6), .ref (q7), .null]))))], zZ), ([(q1, .inl (cI, 7))], zZ), ([(q2, .inl (cI, 7))], zZ), ([(q3, .inl (cI, 7))], zZ), ([(q4, .inl (cI, 7))], zZ), ([(q5, .inl (cI, 7))], zZ), ([(q6, .inl (cI, 7))], zZ), ([(q7, .inl (cZ, 7))], zZ)]) wu_X0 tyX0_ok nmX0 0 rfl 0 rfl rfl 11 (by decide) wf_X0_30 rfl (hin rfl) rfl (ty := .array .boolean) (by decide +kernel) rfl rfl (Nat.le_of_ble_eq_true rfl) dX0_init_57 rfl ?_
  refine z_aload_n C dX0_init_60 rfl 0 rfl ?_
  refine z_new C (ci := 1) (fs := [.null, .null, .null, .null]) wu_X1 tyX1_ok wl_X0_34 wz_X1 wi_X1 rfl (fun j hj => by rcases (show j = 0 ∨ j = 1 ∨ j = 2 ∨ j = 3 by omega) with rfl | rfl | rfl | rfl <;> rfl) ⟨Nat.le_of_ble_eq_true rfl, Nat.le_of_ble_eq_true rfl⟩ dX0_init_61 (fun h61 => ?_)
  refine z_eq (B' := [([(h0, .inr (.inr (.inr (0, [.int 0, .int 0, .int 0, .int 0, .int 0, .ref (q1), .ref (q2), .ref (q3), .ref (q4), .ref (q5), .ref (q6), .ref (q7), .null]))))], zZ), ([(q1, .inl (cI, 7))], zZ), ([(q2, .inl (cI, 7))], zZ), ([(q3, .inl (cI, 7))], zZ), ([(q4, .inl (cI, 7))], zZ), ([(q5, .inl (cI, 7))], zZ), ([(q6, .inl (cI, 7))], zZ), ([(q7, .inl (cZ, 7))], zZ), ([(h61, .inr (.inr (.inr (1, [.null, .null, .null, .null]))))], zZ)]) rfl ?_
  refine z_dup C rfl dX0_init_64 ?_
  refine z_callIN C [false, false, false, false, false, false, false, false, true] rfl (c_X1_init l D cI cZ cB cE h61) wq_yX1_init wm_X0_36 ⟨rfl, wn_yX1_init⟩ ⟨rfl, rfl, Nat.le_of_ble_eq_true rfl, Nat.le_of_ble_eq_true rfl⟩ rfl rfl (Nat.le_of_ble_eq_true rfl) dX0_init_65 ⟨Nat.le_of_ble_eq_true rfl, Nat.le_of_ble_eq_true rfl⟩ ?_
  rintro r u ⟨rfl, q8, q9, q10, q11, rfl⟩
  refine z_eq (B' := [([(h0, .inr (.inr (.inr (0, [.int 0, .int 0, .int 0, .int 0, .int 0, .ref (q1), .ref (q2), .ref (q3), .ref (q4), .ref (q5), .ref (q6), .ref (q7), .null]))))], zZ), ([(q1, .inl (cI, 7))], zZ), ([(q2, .inl (cI, 7))], zZ), ([(q3, .inl (cI, 7))], zZ), ([(q4, .inl (cI, 7))], zZ), ([(q5, .inl (cI, 7))], zZ), ([(q6, .inl (cI, 7))], zZ), ([(q7, .inl (cZ, 7))], zZ), ([(h61, .inr (.inl (1, [some q8, some q9, some q10, some q11]))), (q8, .inl (cI, 7)), (q9, .inl (cI, 7)), (q10, .inl (cI, 70)), (q11, .inl (cI, 70))], zZ)]) rfl ?_
  refine z_putF C (B' := [([(h0, .inr (.inr (.inr (0, [.int 0, .int 0, .int 0, .int 0, .int 0, .ref (q1), .ref (q2), .ref (q3), .ref (q4), .ref (q5), .ref (q6), .ref (q7), .ref (h61)]))))], zZ), ([(q1, .inl (cI, 7))], zZ), ([(q2, .inl (cI, 7))], zZ), ([(q3, .inl (cI, 7))], zZ), ([(q4, .inl (cI, 7))], zZ), ([(q5, .inl (cI, 7))], zZ), ([(q6, .inl (cI, 7))], zZ), ([(q7, .inl (cZ, 7))], zZ), ([(h61, .inr (.inl (1, [some q8, some q9, some q10, some q11]))), (q8, .inl (cI, 7)), (q9, .inl (cI, 7)), (q10, .inl (cI, 70)), (q11, .inl (cI, 70))], zZ)]) wu_X0 tyX0_ok nmX0 0 rfl 0 rfl rfl 12 (by decide) wf_X0_37 rfl (hin rfl) rfl (ty := .object "FleetTerms$Logs") (by decide +kernel) rfl rfl (Nat.le_of_ble_eq_true rfl) dX0_init_68 rfl ?_
  refine z_wperm (B' := [(shF (zAd [h0, q1, q2, q3, q4, q5, q6, q7, q8, q9, q10, q11, h61]) cI cZ, zZ)]) ?_ ?_
  · exact List.Perm.append_left [_, _, _, _, _, _, _, _] (List.perm_append_comm (l₁ := [_]) (l₂ := [_, _, _, _]))
  refine z_widen (k := 12) (n := 207) (Nat.le_of_ble_eq_true rfl) (Nat.le_of_ble_eq_true rfl) ?_
  rw [hQ]; exact z_vret C hr dX0_init_71 ⟨rfl, (zAd [h0, q1, q2, q3, q4, q5, q6, q7, q8, q9, q10, q11, h61]), rfl, rfl⟩
set_option maxHeartbeats 4000000 in
set_option maxRecDepth 100000 in
theorem c_X2_init (l : Launch) (D : va_G) (cI cZ cB cE : ClassId) (h0 : Nat) : zM l D (tyL cI cZ cB cE) yX2_init cX2_init 1 none ({ frames := 3, cells := 26, slots := 440, locals := 120 } : Room) [.ref h0] [([(h0, .inr (.inr (.inr (2, [.null, .null]))))], zZ)] 26 440 (fun r u => r = none ∧ ∃ a b : Nat → Nat, u = [(shT h0 a b, zZ), (shF a cI cZ, fl_begP 5 5 zZ), (shF b cI cZ, zZ)]) := by
  refine z_of (by decide) (Nat.le_of_ble_eq_true rfl) rfl ?_
  intro p e s m args below meth c A C hr hin
  obtain ⟨Q, hQ⟩ : ∃ Q, Q = MQ below (zQ (fun r u => r = none ∧ ∃ a b : Nat → Nat, u = [(shT h0 a b, zZ), (shF a cI cZ, fl_begP 5 5 zZ), (shF b cI cZ, zZ)]) D (tyL cI cZ cB cE) A) args s 26 440 A := ⟨_, rfl⟩
  rw [← hQ]
  refine z_aload_n C dX2_init_0 rfl 0 rfl ?_
  refine z_oinit C wm_X2_1 ⟨Nat.le_of_ble_eq_true rfl, Nat.le_of_ble_eq_true rfl⟩ dX2_init_1 ?_
  refine z_aload_n C dX2_init_4 rfl 0 rfl ?_
  refine z_new C (ci := 0) (fs := [.int 0, .int 0, .int 0, .int 0, .int 0, .null, .null, .null, .null, .null, .null, .null, .null]) wu_X0 tyX0_ok wl_X2_7 wz_X0 wi_X0 rfl (fun j hj => by rcases (show j = 0 ∨ j = 1 ∨ j = 2 ∨ j = 3 ∨ j = 4 ∨ j = 5 ∨ j = 6 ∨ j = 7 ∨ j = 8 ∨ j = 9 ∨ j = 10 ∨ j = 11 ∨ j = 12 by omega) with rfl | rfl | rfl | rfl | rfl | rfl | rfl | rfl | rfl | rfl | rfl | rfl | rfl <;> rfl) ⟨Nat.le_of_ble_eq_true rfl, Nat.le_of_ble_eq_true rfl⟩ dX2_init_5 (fun h5 => ?_)
  refine z_eq (B' := [([(h0, .inr (.inr (.inr (2, [.null, .null]))))], zZ), ([(h5, .inr (.inr (.inr (0, [.int 0, .int 0, .int 0, .int 0, .int 0, .null, .null, .null, .null, .null, .null, .null, .null]))))], zZ)]) rfl ?_
  refine z_dup C rfl dX2_init_8 ?_
  refine z_callIN C [false, true] rfl (c_X0_init l D cI cZ cB cE h5) wq_yX0_init wm_X2_9 ⟨rfl, wn_yX0_init⟩ ⟨rfl, rfl, Nat.le_of_ble_eq_true rfl, Nat.le_of_ble_eq_true rfl⟩ rfl rfl (Nat.le_of_ble_eq_true rfl) dX2_init_9 ⟨Nat.le_of_ble_eq_true rfl, Nat.le_of_ble_eq_true rfl⟩ ?_
  rintro r u ⟨rfl, a, rfl, rfl⟩
  refine z_eq (B' := [([(h0, .inr (.inr (.inr (2, [.null, .null]))))], zZ), (shF a cI cZ, zZ)]) rfl ?_
  refine z_putF C (B' := [([(h0, .inr (.inr (.inr (2, [.ref (a 0), .null]))))], zZ), (shF a cI cZ, zZ)]) wu_X2 tyX2_ok nmX2 0 rfl 0 rfl rfl 0 (by decide) wf_X2_10 rfl (hin rfl) rfl (ty := .object "FleetTerms$Fleet") (by decide +kernel) rfl rfl (Nat.le_of_ble_eq_true rfl) dX2_init_12 rfl ?_
  refine z_aload_n C dX2_init_15 rfl 0 rfl ?_
  refine z_new C (ci := 0) (fs := [.int 0, .int 0, .int 0, .int 0, .int 0, .null, .null, .null, .null, .null, .null, .null, .null]) wu_X0 tyX0_ok wl_X2_7 wz_X0 wi_X0 rfl (fun j hj => by rcases (show j = 0 ∨ j = 1 ∨ j = 2 ∨ j = 3 ∨ j = 4 ∨ j = 5 ∨ j = 6 ∨ j = 7 ∨ j = 8 ∨ j = 9 ∨ j = 10 ∨ j = 11 ∨ j = 12 by omega) with rfl | rfl | rfl | rfl | rfl | rfl | rfl | rfl | rfl | rfl | rfl | rfl | rfl <;> rfl) ⟨Nat.le_of_ble_eq_true rfl, Nat.le_of_ble_eq_true rfl⟩ dX2_init_16 (fun h16 => ?_)
  refine z_eq (B' := [([(h0, .inr (.inr (.inr (2, [.ref (a 0), .null]))))], zZ), (shF a cI cZ, zZ), ([(h16, .inr (.inr (.inr (0, [.int 0, .int 0, .int 0, .int 0, .int 0, .null, .null, .null, .null, .null, .null, .null, .null]))))], zZ)]) rfl ?_
  refine z_dup C rfl dX2_init_19 ?_
  refine z_callIN C [false, false, true] rfl (c_X0_init l D cI cZ cB cE h16) wq_yX0_init wm_X2_9 ⟨rfl, wn_yX0_init⟩ ⟨rfl, rfl, Nat.le_of_ble_eq_true rfl, Nat.le_of_ble_eq_true rfl⟩ rfl rfl (Nat.le_of_ble_eq_true rfl) dX2_init_20 ⟨Nat.le_of_ble_eq_true rfl, Nat.le_of_ble_eq_true rfl⟩ ?_
  rintro r u ⟨rfl, b, rfl, rfl⟩
  refine z_eq (B' := [([(h0, .inr (.inr (.inr (2, [.ref (a 0), .null]))))], zZ), (shF a cI cZ, zZ), (shF b cI cZ, zZ)]) rfl ?_
  refine z_putF C (B' := [([(h0, .inr (.inr (.inr (2, [.ref (a 0), .ref (b 0)]))))], zZ), (shF a cI cZ, zZ), (shF b cI cZ, zZ)]) wu_X2 tyX2_ok nmX2 0 rfl 0 rfl rfl 1 (by decide) wf_X2_16 rfl (hin rfl) rfl (ty := .object "FleetTerms$Fleet") (by decide +kernel) rfl rfl (Nat.le_of_ble_eq_true rfl) dX2_init_23 rfl ?_
  refine z_aload_n C dX2_init_26 rfl 0 rfl ?_
  refine z_weq (B' := [(shT h0 a b, zZ), (shF a cI cZ, zZ), (shF b cI cZ, zZ)]) rfl ?_
  refine z_getR C wu_X2 0 rfl 0 rfl rfl 0 (by decide) rfl wf_X2_10 dX2_init_27 ?_
  refine z_iconst C (v := nI (5)) (by decide) dX2_init_30 ?_
  refine z_cV C (st' := []) (B' := [(shT h0 a b, zZ), (shF a cI cZ, fl_begP 5 5 zZ), (shF b cI cZ, zZ)]) [false, true, false] rfl (c_X0_begin l D cI cZ cB cE a zZ 5 (by omega) (by omega)) wq_yX0_begin wm_X2_19 ⟨wn_yX0_begin, wo_yX0_begin⟩ ⟨rfl, rfl, Nat.le_of_ble_eq_true rfl, Nat.le_of_ble_eq_true rfl⟩ 1 rfl 0 rfl rfl rfl rfl (Nat.le_of_ble_eq_true rfl) dX2_init_31 ⟨Nat.le_of_ble_eq_true rfl, Nat.le_of_ble_eq_true rfl⟩ rfl rfl ?_
  refine z_widen (k := 26) (n := 440) (Nat.le_of_ble_eq_true rfl) (Nat.le_of_ble_eq_true rfl) ?_
  rw [hQ]; exact z_vret C hr dX2_init_34 ⟨rfl, a, b, rfl⟩
