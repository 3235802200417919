theorem zU_tw (κ : zF) (k i : Nat) (u v : Int32) : zU (zU κ k i u) k i v = zU κ k i v := by
  funext k2 i2
  simp only [zU_at]
  by_cases h : k2 = k ∧ i2 = i
  · rw [if_pos h, if_pos h]
  · rw [if_neg h, if_neg h, if_neg h]
theorem nI_le2 {a b : Nat} (h : a ≤ b) (hb : b < 2 ^ 31) : nI a ≤ nI b := (nI_leI (by omega) hb).mpr h
theorem gt_of_succ {x : Int32} {k : Nat} (h : nI (k + 1) ≤ x) (hk : k + 1 < 2 ^ 31) : nI k < x := by
  rw [Int32.le_iff_toInt_le, nI_toInt hk] at h
  rw [Int32.lt_iff_toInt_lt, nI_toInt (by omega)]
  omega
theorem lo_hi {x : Int32} (k : Nat) (h : x < 0 ∨ nI (k + 1) ≤ x) (hk : k + 1 < 2 ^ 31) : x < nI 0 ∨ nI k < x := h.imp id (fun q => gt_of_succ q hk)
theorem lo_up {x : Int32} (a k : Nat) (h : x < nI a ∨ nI (k + 1) ≤ x) (hk : k + 1 < 2 ^ 31) : x < nI a ∨ nI k < x := h.imp id (fun q => gt_of_succ q hk)
theorem lo_dec {x : Int32} : ∀ {k : Nat}, k ≤ 10 → (x < 0 ∨ nI k ≤ x) → x < nI 0 ∨ nI k - nI 1 < x := by
  intro k hk h
  rcases h with h | h
  · exact Or.inl h
  · right
    have h2 : nI k - nI 1 < nI k := (by decide : ∀ k, k < 11 → nI k - nI 1 < nI k) k (by omega)
    rw [Int32.lt_iff_toInt_lt] at h2 ⊢
    rw [Int32.le_iff_toInt_le] at h
    omega
theorem not_in {x y z : Int32} (h : x < y ∨ z < x) (h1 : ¬ x < y) (h2 : ¬ z < x) : False := h.elim h1 h2
set_option maxHeartbeats 4000000 in
set_option maxRecDepth 100000 in
theorem c_X4_isIn_ok (l : Launch) (D : va_G) (cI cZ cJ : ClassId)  (x : Int32) (y : Int32) (z : Int32) (h1 : y ≤ x) (h2 : x ≤ z) : zM l D (tyL cI cZ cJ) yX4_isIn cX4_isIn 3 (some .boolean) (zR 0 0) [.int (x), .int (y), .int (z)] [] 0 0 (fun r u => r = some (.int (nI (1))) ∧ u = []) := by
  refine z_of (by decide) (Nat.le_of_ble_eq_true rfl) rfl ?_
  intro p e s m args below meth c A C hr hin
  obtain ⟨Q, hQ⟩ : ∃ Q, Q = MQ below (zQ (fun r u => r = some (.int (nI (1))) ∧ u = []) D (tyL cI cZ cJ) A) args s 0 0 A := ⟨_, rfl⟩
  rw [← hQ]
  refine z_iload_n C dX4_isIn_0 rfl 0 rfl ?_
  refine z_iload_n C dX4_isIn_1 rfl 1 rfl ?_
  refine z_icmp_lt C (tgt := 14) dX4_isIn_2 (by decide) (fun c_2 => ?_) (fun c_2 => ?_)
  · exact absurd c_2 (Int32.not_lt.mpr h1)
  · refine z_iload_n C dX4_isIn_5 rfl 0 rfl ?_
    refine z_iload_n C dX4_isIn_6 rfl 2 rfl ?_
    refine z_icmp_gt C (tgt := 14) dX4_isIn_7 (by decide) (fun c_7 => ?_) (fun c_7 => ?_)
    · exact absurd c_7 (Int32.not_lt.mpr h2)
    · refine z_iconst C (v := nI (1)) (by decide) dX4_isIn_10 ?_
      refine z_goto C (tgt := 15) dX4_isIn_11 (by decide) ?_
      rw [hQ]; exact z_zret C hr (by decide) dX4_isIn_15 ⟨rfl, rfl⟩
set_option maxHeartbeats 4000000 in
set_option maxRecDepth 100000 in
theorem c_X4_isIn_no (l : Launch) (D : va_G) (cI cZ cJ : ClassId)  (x : Int32) (y : Int32) (z : Int32) (h : x < y ∨ z < x) : zM l D (tyL cI cZ cJ) yX4_isIn cX4_isIn 3 (some .boolean) (zR 0 0) [.int (x), .int (y), .int (z)] [] 0 0 (fun r u => r = some (.int (nI (0))) ∧ u = []) := by
  refine z_of (by decide) (Nat.le_of_ble_eq_true rfl) rfl ?_
  intro p e s m args below meth c A C hr hin
  obtain ⟨Q, hQ⟩ : ∃ Q, Q = MQ below (zQ (fun r u => r = some (.int (nI (0))) ∧ u = []) D (tyL cI cZ cJ) A) args s 0 0 A := ⟨_, rfl⟩
  rw [← hQ]
  refine z_iload_n C dX4_isIn_0 rfl 0 rfl ?_
  refine z_iload_n C dX4_isIn_1 rfl 1 rfl ?_
  refine z_icmp_lt C (tgt := 14) dX4_isIn_2 (by decide) (fun c_2 => ?_) (fun c_2 => ?_)
  · refine z_iconst C (v := nI (0)) (by decide) dX4_isIn_14 ?_
    rw [hQ]; exact z_zret C hr (by decide) dX4_isIn_15 ⟨rfl, rfl⟩
  · refine z_iload_n C dX4_isIn_5 rfl 0 rfl ?_
    refine z_iload_n C dX4_isIn_6 rfl 2 rfl ?_
    refine z_icmp_gt C (tgt := 14) dX4_isIn_7 (by decide) (fun c_7 => ?_) (fun c_7 => ?_)
    · refine z_iconst C (v := nI (0)) (by decide) dX4_isIn_14 ?_
      rw [hQ]; exact z_zret C hr (by decide) dX4_isIn_15 ⟨rfl, rfl⟩
    · exact (not_in h c_2 c_7).elim
set_option maxHeartbeats 4000000 in
set_option maxRecDepth 100000 in
theorem c_X4_isBoat_ok (l : Launch) (D : va_G) (cI cZ cJ : ClassId) (t : Nat) (a ta : Nat → Nat) (κ σ τ : zF) (n : Nat) (hI : fl_Iv n σ) (b : Nat) (hb : b < n) : zM l D (tyL cI cZ cJ) yX4_isBoat cX4_isBoat 2 (some .boolean) (zR 1 22) [.ref (t), .int (nI (b))] [(shM t a ta, κ), (shS a cI, σ), (shS ta cI, τ)] 0 0 (fun r u => r = some (.int (nI (1))) ∧ u = [(shM t a ta, κ), (shS a cI, σ), (shS ta cI, τ)]) := by
  have hn3 := hI.n3
  have hn7 := hI.n7
  refine z_of (by decide) (Nat.le_of_ble_eq_true rfl) rfl ?_
  intro p e s m args below meth c A C hr hin
  obtain ⟨Q, hQ⟩ : ∃ Q, Q = MQ below (zQ (fun r u => r = some (.int (nI (1))) ∧ u = [(shM t a ta, κ), (shS a cI, σ), (shS ta cI, τ)]) D (tyL cI cZ cJ) A) args s 0 0 A := ⟨_, rfl⟩
  rw [← hQ]
  refine z_iload_n C dX4_isBoat_0 rfl 1 rfl ?_
  refine z_iconst C (v := nI (0)) (by decide) dX4_isBoat_1 ?_
  refine z_aload_n C dX4_isBoat_2 rfl 0 rfl ?_
  refine z_getR C wu_X4 0 rfl 0 rfl rfl 1 (by decide) rfl wf_X4_10 dX4_isBoat_3 ?_
  refine z_getIN C wu_X3 1 rfl 0 rfl rfl 0 (by decide) rfl wf_X4_23 dX4_isBoat_6 ?_
  refine z_top (hI.n0 : _ = nI n) ?_
  refine z_iconst C (v := nI (1)) (by decide) dX4_isBoat_9 ?_
  refine z_isubN C dX4_isBoat_10 (by omega) ?_
  refine z_cS C (st' := [.int (nI (1))]) (B' := [(shM t a ta, κ), (shS a cI, σ), (shS ta cI, τ)]) [false, false, false] rfl (c_X4_isIn_ok l D cI cZ cJ (nI (b)) (nI (0)) (nI (n - 1)) (nI_le2 (by omega) (by omega)) (nI_le2 (by omega) (by omega))) wq_yX4_isIn wm_X4_26 ws_yX4_isIn ⟨rfl, rfl, Nat.le_of_ble_eq_true rfl, Nat.le_of_ble_eq_true rfl⟩ rfl rfl (Nat.le_of_ble_eq_true rfl) dX4_isBoat_11 ⟨Nat.le_of_ble_eq_true rfl, Nat.le_of_ble_eq_true rfl⟩ rfl rfl ?_
  rw [hQ]; exact z_zret C hr (by decide) dX4_isBoat_14 ⟨rfl, rfl⟩
set_option maxHeartbeats 4000000 in
set_option maxRecDepth 100000 in
theorem c_X4_isBoat_no (l : Launch) (D : va_G) (cI cZ cJ : ClassId) (t : Nat) (a ta : Nat → Nat) (κ σ τ : zF) (n : Nat) (hI : fl_Iv n σ) (x : Int32) (hx : x < 0 ∨ nI n ≤ x) : zM l D (tyL cI cZ cJ) yX4_isBoat cX4_isBoat 2 (some .boolean) (zR 1 22) [.ref (t), .int (x)] [(shM t a ta, κ), (shS a cI, σ), (shS ta cI, τ)] 0 0 (fun r u => r = some (.int (nI (0))) ∧ u = [(shM t a ta, κ), (shS a cI, σ), (shS ta cI, τ)]) := by
  have hn3 := hI.n3
  have hn7 := hI.n7
  refine z_of (by decide) (Nat.le_of_ble_eq_true rfl) rfl ?_
  intro p e s m args below meth c A C hr hin
  obtain ⟨Q, hQ⟩ : ∃ Q, Q = MQ below (zQ (fun r u => r = some (.int (nI (0))) ∧ u = [(shM t a ta, κ), (shS a cI, σ), (shS ta cI, τ)]) D (tyL cI cZ cJ) A) args s 0 0 A := ⟨_, rfl⟩
  rw [← hQ]
  refine z_iload_n C dX4_isBoat_0 rfl 1 rfl ?_
  refine z_iconst C (v := nI (0)) (by decide) dX4_isBoat_1 ?_
  refine z_aload_n C dX4_isBoat_2 rfl 0 rfl ?_
  refine z_getR C wu_X4 0 rfl 0 rfl rfl 1 (by decide) rfl wf_X4_10 dX4_isBoat_3 ?_
  refine z_getIN C wu_X3 1 rfl 0 rfl rfl 0 (by decide) rfl wf_X4_23 dX4_isBoat_6 ?_
  refine z_top (hI.n0 : _ = nI n) ?_
  refine z_iconst C (v := nI (1)) (by decide) dX4_isBoat_9 ?_
  refine z_isubN C dX4_isBoat_10 (by omega) ?_
  refine z_cS C (st' := [.int (nI (0))]) (B' := [(shM t a ta, κ), (shS a cI, σ), (shS ta cI, τ)]) [false, false, false] rfl (c_X4_isIn_no l D cI cZ cJ x (nI (0)) (nI (n - 1)) (lo_hi (n - 1) (by rw [show n - 1 + 1 = n by omega]; exact hx) (by omega))) wq_yX4_isIn wm_X4_26 ws_yX4_isIn ⟨rfl, rfl, Nat.le_of_ble_eq_true rfl, Nat.le_of_ble_eq_true rfl⟩ rfl rfl (Nat.le_of_ble_eq_true rfl) dX4_isBoat_11 ⟨Nat.le_of_ble_eq_true rfl, Nat.le_of_ble_eq_true rfl⟩ rfl rfl ?_
  rw [hQ]; exact z_zret C hr (by decide) dX4_isBoat_14 ⟨rfl, rfl⟩
set_option maxHeartbeats 4000000 in
set_option maxRecDepth 100000 in
theorem c_X4_thrown (l : Launch) (D : va_G) (cI cZ cJ : ClassId) (t : Nat) (a ta : Nat → Nat) (κ σ τ : zF) (n : Nat) (hI : fl_Iv n σ) : zM l D (tyL cI cZ cJ) yX4_thrown cX4_thrown 1 (some .int) (zR 0 0) [.ref (t)] [(shM t a ta, κ), (shS a cI, σ), (shS ta cI, τ)] 0 0 (fun r u => r = some (.int (κ 0 (0))) ∧ u = [(shM t a ta, κ), (shS a cI, σ), (shS ta cI, τ)]) := by
  have hn3 := hI.n3
  have hn7 := hI.n7
  refine z_of (by decide) (Nat.le_of_ble_eq_true rfl) rfl ?_
  intro p e s m args below meth c A C hr hin
  obtain ⟨Q, hQ⟩ : ∃ Q, Q = MQ below (zQ (fun r u => r = some (.int (κ 0 (0))) ∧ u = [(shM t a ta, κ), (shS a cI, σ), (shS ta cI, τ)]) D (tyL cI cZ cJ) A) args s 0 0 A := ⟨_, rfl⟩
  rw [← hQ]
  refine z_aload_n C dX4_thrown_0 rfl 0 rfl ?_
  refine z_getI C wu_X4 0 rfl 0 rfl rfl 0 (by decide) rfl wf_X4_19 dX4_thrown_1 ?_
  rw [hQ]; exact z_iret C hr dX4_thrown_4 ⟨rfl, rfl⟩
set_option maxHeartbeats 4000000 in
set_option maxRecDepth 100000 in
theorem c_X4_no (l : Launch) (D : va_G) (cI cZ cJ : ClassId) (t : Nat) (a ta : Nat → Nat) (κ σ τ : zF) (n : Nat) (hI : fl_Iv n σ) (k : Nat) : zM l D (tyL cI cZ cJ) yX4_no cX4_no 2 (some .int) (zR 0 0) [.ref (t), .int (nI (k))] [(shM t a ta, κ), (shS a cI, σ), (shS ta cI, τ)] 0 0 (fun r u => r = some (.int (nI (0))) ∧ u = [(shM t a ta, (zU κ 0 (0) (nI (k)))), (shS a cI, σ), (shS ta cI, τ)]) := by
  have hn3 := hI.n3
  have hn7 := hI.n7
  refine z_of (by decide) (Nat.le_of_ble_eq_true rfl) rfl ?_
  intro p e s m args below meth c A C hr hin
  obtain ⟨Q, hQ⟩ : ∃ Q, Q = MQ below (zQ (fun r u => r = some (.int (nI (0))) ∧ u = [(shM t a ta, (zU κ 0 (0) (nI (k)))), (shS a cI, σ), (shS ta cI, τ)]) D (tyL cI cZ cJ) A) args s 0 0 A := ⟨_, rfl⟩
  rw [← hQ]
  refine z_aload_n C dX4_no_0 rfl 0 rfl ?_
  refine z_iload_n C dX4_no_1 rfl 1 rfl ?_
  refine z_putI C (B' := [(shM t a ta, (zU κ 0 (0) (nI (k)))), (shS a cI, σ), (shS ta cI, τ)]) wu_X4 tyX4_ok nmX4 0 rfl 0 rfl rfl 0 (by decide) rfl wf_X4_19 rfl (by decide +kernel) dX4_no_2 rfl ?_
  refine z_iconst C (v := nI (0)) (by decide) dX4_no_5 ?_
  rw [hQ]; exact z_iret C hr dX4_no_6 ⟨rfl, rfl⟩
set_option maxHeartbeats 4000000 in
set_option maxRecDepth 100000 in
theorem c_X4_fleet (l : Launch) (D : va_G) (cI cZ cJ : ClassId) (t : Nat) (a ta : Nat → Nat) (κ σ τ : zF) (n : Nat) (hI : fl_Iv n σ) (k : Nat) (h3 : 3 ≤ k) (h7 : k ≤ 7) : zM l D (tyL cI cZ cJ) yX4_fleet cX4_fleet 2 (some .int) (zR 1 22) [.ref (t), .int (nI (k))] [(shM t a ta, κ), (shS a cI, σ), (shS ta cI, τ)] 0 0 (fun r u => r = some (.int (nI ((k / 2) + 1))) ∧ u = [(shM t a ta, (zU κ 0 (0) (nI (0)))), (shS a cI, (fl_begP k 7 σ)), (shS ta cI, τ)]) := by
  have hn3 := hI.n3
  have hn7 := hI.n7
  refine z_of (by decide) (Nat.le_of_ble_eq_true rfl) rfl ?_
  intro p e s m args below meth c A C hr hin
  obtain ⟨Q, hQ⟩ : ∃ Q, Q = MQ below (zQ (fun r u => r = some (.int (nI ((k / 2) + 1))) ∧ u = [(shM t a ta, (zU κ 0 (0) (nI (0)))), (shS a cI, (fl_begP k 7 σ)), (shS ta cI, τ)]) D (tyL cI cZ cJ) A) args s 0 0 A := ⟨_, rfl⟩
  rw [← hQ]
  refine z_aload_n C dX4_fleet_0 rfl 0 rfl ?_
  refine z_iconst C (v := nI (0)) (by decide) dX4_fleet_1 ?_
  refine z_putI C (B' := [(shM t a ta, (zU κ 0 (0) (nI (0)))), (shS a cI, σ), (shS ta cI, τ)]) wu_X4 tyX4_ok nmX4 0 rfl 0 rfl rfl 0 (by decide) rfl wf_X4_19 rfl (by decide +kernel) dX4_fleet_2 rfl ?_
  refine z_iload_n C dX4_fleet_5 rfl 1 rfl ?_
  refine z_iconst C (v := nI (3)) (by decide) dX4_fleet_6 ?_
  refine z_bipush C (v := nI (7)) (by decide) dX4_fleet_7 ?_
  refine z_cS C (st' := [.int (nI (1))]) (B' := [(shM t a ta, (zU κ 0 (0) (nI (0)))), (shS a cI, σ), (shS ta cI, τ)]) [false, false, false] rfl (c_X4_isIn_ok l D cI cZ cJ (nI (k)) (nI (3)) (nI (7)) (nI_le2 (by omega) (by omega)) (nI_le2 (by omega) (by omega))) wq_yX4_isIn wm_X4_26 ws_yX4_isIn ⟨rfl, rfl, Nat.le_of_ble_eq_true rfl, Nat.le_of_ble_eq_true rfl⟩ rfl rfl (Nat.le_of_ble_eq_true rfl) dX4_fleet_9 ⟨Nat.le_of_ble_eq_true rfl, Nat.le_of_ble_eq_true rfl⟩ rfl rfl ?_
  refine z_if_neN C (tgt := 21) dX4_fleet_12 (by decide) (by omega) (fun c_12 => ?_) (fun c_12 => ?_)
  · refine z_aload_n C dX4_fleet_21 rfl 0 rfl ?_
    refine z_getR C wu_X4 0 rfl 0 rfl rfl 1 (by decide) rfl wf_X4_10 dX4_fleet_22 ?_
    refine z_iload_n C dX4_fleet_25 rfl 1 rfl ?_
    refine z_cV C (st' := []) (B' := [(shM t a ta, (zU κ 0 (0) (nI (0)))), (shS a cI, (fl_begP k 7 σ)), (shS ta cI, τ)]) [false, true, false] rfl (c_X3_begin l D cI cZ cJ a σ k (by omega) (by omega)) wq_yX3_begin wm_X4_34 ⟨wn_yX3_begin, wo_yX3_begin⟩ ⟨rfl, rfl, Nat.le_of_ble_eq_true rfl, Nat.le_of_ble_eq_true rfl⟩ 1 rfl 0 rfl rfl rfl rfl (Nat.le_of_ble_eq_true rfl) dX4_fleet_26 ⟨Nat.le_of_ble_eq_true rfl, Nat.le_of_ble_eq_true rfl⟩ rfl rfl ?_
    refine z_iload_n C dX4_fleet_29 rfl 1 rfl ?_
    refine z_iconst C (v := nI (2)) (by decide) dX4_fleet_30 ?_
    refine z_idivN C dX4_fleet_31 (by omega) (by omega) (by omega) ?_
    refine z_iconst C (v := nI (1)) (by decide) dX4_fleet_32 ?_
    refine z_iaddN C dX4_fleet_33 ?_
    rw [hQ]; exact z_iret C hr dX4_fleet_34 ⟨rfl, rfl⟩
  · exact absurd c_12 (by omega)
set_option maxHeartbeats 4000000 in
set_option maxRecDepth 100000 in
theorem c_X4_fleet_b1 (l : Launch) (D : va_G) (cI cZ cJ : ClassId) (t : Nat) (a ta : Nat → Nat) (κ σ τ : zF) (n : Nat) (hI : fl_Iv n σ) (x : Int32) (hx : x < nI 3 ∨ nI 7 < x) : zM l D (tyL cI cZ cJ) yX4_fleet cX4_fleet 2 (some .int) (zR 1 22) [.ref (t), .int (x)] [(shM t a ta, κ), (shS a cI, σ), (shS ta cI, τ)] 0 0 (fun r u => r = some (.int (nI (0))) ∧ u = [(shM t a ta, (zU κ 0 (0) (nI (1)))), (shS a cI, σ), (shS ta cI, τ)]) := by
  have hn3 := hI.n3
  have hn7 := hI.n7
  refine z_of (by decide) (Nat.le_of_ble_eq_true rfl) rfl ?_
  intro p e s m args below meth c A C hr hin
  obtain ⟨Q, hQ⟩ : ∃ Q, Q = MQ below (zQ (fun r u => r = some (.int (nI (0))) ∧ u = [(shM t a ta, (zU κ 0 (0) (nI (1)))), (shS a cI, σ), (shS ta cI, τ)]) D (tyL cI cZ cJ) A) args s 0 0 A := ⟨_, rfl⟩
  rw [← hQ]
  refine z_aload_n C dX4_fleet_0 rfl 0 rfl ?_
  refine z_iconst C (v := nI (0)) (by decide) dX4_fleet_1 ?_
  refine z_putI C (B' := [(shM t a ta, (zU κ 0 (0) (nI (0)))), (shS a cI, σ), (shS ta cI, τ)]) wu_X4 tyX4_ok nmX4 0 rfl 0 rfl rfl 0 (by decide) rfl wf_X4_19 rfl (by decide +kernel) dX4_fleet_2 rfl ?_
  refine z_iload_n C dX4_fleet_5 rfl 1 rfl ?_
  refine z_iconst C (v := nI (3)) (by decide) dX4_fleet_6 ?_
  refine z_bipush C (v := nI (7)) (by decide) dX4_fleet_7 ?_
  refine z_cS C (st' := [.int (nI (0))]) (B' := [(shM t a ta, (zU κ 0 (0) (nI (0)))), (shS a cI, σ), (shS ta cI, τ)]) [false, false, false] rfl (c_X4_isIn_no l D cI cZ cJ x (nI (3)) (nI (7)) (hx)) wq_yX4_isIn wm_X4_26 ws_yX4_isIn ⟨rfl, rfl, Nat.le_of_ble_eq_true rfl, Nat.le_of_ble_eq_true rfl⟩ rfl rfl (Nat.le_of_ble_eq_true rfl) dX4_fleet_9 ⟨Nat.le_of_ble_eq_true rfl, Nat.le_of_ble_eq_true rfl⟩ rfl rfl ?_
  refine z_if_neN C (tgt := 21) dX4_fleet_12 (by decide) (by omega) (fun c_12 => ?_) (fun c_12 => ?_)
  · exact absurd c_12 (by omega)
  · refine z_aload_n C dX4_fleet_15 rfl 0 rfl ?_
    refine z_iconst C (v := nI (1)) (by decide) dX4_fleet_16 ?_
    refine z_cV C (st' := [.int (nI (0))]) (B' := [(shM t a ta, (zU (zU κ 0 (0) (nI (0))) 0 (0) (nI (1)))), (shS a cI, σ), (shS ta cI, τ)]) [true, true, true] rfl (c_X4_no l D cI cZ cJ t a ta (zU κ 0 (0) (nI (0))) σ τ n hI 1) wq_yX4_no wm_X4_30 ⟨wn_yX4_no, wo_yX4_no⟩ ⟨rfl, rfl, Nat.le_of_ble_eq_true rfl, Nat.le_of_ble_eq_true rfl⟩ 0 rfl 0 rfl rfl rfl rfl (Nat.le_of_ble_eq_true rfl) dX4_fleet_17 ⟨Nat.le_of_ble_eq_true rfl, Nat.le_of_ble_eq_true rfl⟩ rfl rfl ?_
    refine z_eq (B' := [(shM t a ta, (zU κ 0 (0) (nI (1)))), (shS a cI, σ), (shS ta cI, τ)]) (congrArg (fun x => [(shM t a ta, x), (shS a cI, σ), (shS ta cI, τ)]) (zU_tw _ _ _ _ _)) ?_
    rw [hQ]; exact z_iret C hr dX4_fleet_20 ⟨rfl, rfl⟩
set_option maxHeartbeats 4000000 in
set_option maxRecDepth 100000 in
theorem c_X4_setPatience (l : Launch) (D : va_G) (cI cZ cJ : ClassId) (t : Nat) (a ta : Nat → Nat) (κ σ τ : zF) (n : Nat) (hI : fl_Iv n σ) (b : Nat) (k : Nat) (hb : b < n) (h2 : 2 ≤ k) (h9 : k ≤ 9) : zM l D (tyL cI cZ cJ) yX4_setPatience cX4_setPatience 4 (some .int) (zR 2 43) [.ref (t), .int (nI (b)), .int (nI (k))] [(shM t a ta, κ), (shS a cI, σ), (shS ta cI, τ)] 0 0 (fun r u => r = some (.int (σ 1 (b))) ∧ u = [(shM t a ta, (zU κ 0 (0) (nI (0)))), (shS a cI, (zU σ 1 b (nI k))), (shS ta cI, τ)]) := by
  have hn3 := hI.n3
  have hn7 := hI.n7
  refine z_of (by decide) (Nat.le_of_ble_eq_true rfl) rfl ?_
  intro p e s m args below meth c A C hr hin
  obtain ⟨Q, hQ⟩ : ∃ Q, Q = MQ below (zQ (fun r u => r = some (.int (σ 1 (b))) ∧ u = [(shM t a ta, (zU κ 0 (0) (nI (0)))), (shS a cI, (zU σ 1 b (nI k))), (shS ta cI, τ)]) D (tyL cI cZ cJ) A) args s 0 0 A := ⟨_, rfl⟩
  rw [← hQ]
  refine z_aload_n C dX4_setPatience_0 rfl 0 rfl ?_
  refine z_iconst C (v := nI (0)) (by decide) dX4_setPatience_1 ?_
  refine z_putI C (B' := [(shM t a ta, (zU κ 0 (0) (nI (0)))), (shS a cI, σ), (shS ta cI, τ)]) wu_X4 tyX4_ok nmX4 0 rfl 0 rfl rfl 0 (by decide) rfl wf_X4_19 rfl (by decide +kernel) dX4_setPatience_2 rfl ?_
  refine z_aload_n C dX4_setPatience_5 rfl 0 rfl ?_
  refine z_iload_n C dX4_setPatience_6 rfl 1 rfl ?_
  refine z_cV C (st' := [.int (nI (1))]) (B' := [(shM t a ta, (zU κ 0 (0) (nI (0)))), (shS a cI, σ), (shS ta cI, τ)]) [true, true, true] rfl (c_X4_isBoat_ok l D cI cZ cJ t a ta (zU κ 0 (0) (nI (0))) σ τ n hI b (by omega)) wq_yX4_isBoat wm_X4_38 ⟨wn_yX4_isBoat, wo_yX4_isBoat⟩ ⟨rfl, rfl, Nat.le_of_ble_eq_true rfl, Nat.le_of_ble_eq_true rfl⟩ 0 rfl 0 rfl rfl rfl rfl (Nat.le_of_ble_eq_true rfl) dX4_setPatience_7 ⟨Nat.le_of_ble_eq_true rfl, Nat.le_of_ble_eq_true rfl⟩ rfl rfl ?_
  refine z_if_neN C (tgt := 19) dX4_setPatience_10 (by decide) (by omega) (fun c_10 => ?_) (fun c_10 => ?_)
  · refine z_iload_n C dX4_setPatience_19 rfl 2 rfl ?_
    refine z_iconst C (v := nI (2)) (by decide) dX4_setPatience_20 ?_
    refine z_bipush C (v := nI (9)) (by decide) dX4_setPatience_21 ?_
    refine z_cS C (st' := [.int (nI (1))]) (B' := [(shM t a ta, (zU κ 0 (0) (nI (0)))), (shS a cI, σ), (shS ta cI, τ)]) [false, false, false] rfl (c_X4_isIn_ok l D cI cZ cJ (nI (k)) (nI (2)) (nI (9)) (nI_le2 (by omega) (by omega)) (nI_le2 (by omega) (by omega))) wq_yX4_isIn wm_X4_26 ws_yX4_isIn ⟨rfl, rfl, Nat.le_of_ble_eq_true rfl, Nat.le_of_ble_eq_true rfl⟩ rfl rfl (Nat.le_of_ble_eq_true rfl) dX4_setPatience_23 ⟨Nat.le_of_ble_eq_true rfl, Nat.le_of_ble_eq_true rfl⟩ rfl rfl ?_
    refine z_if_neN C (tgt := 35) dX4_setPatience_26 (by decide) (by omega) (fun c_26 => ?_) (fun c_26 => ?_)
    · refine z_aload_n C dX4_setPatience_35 rfl 0 rfl ?_
      refine z_getR C wu_X4 0 rfl 0 rfl rfl 1 (by decide) rfl wf_X4_10 dX4_setPatience_36 ?_
      refine z_getRN C wu_X3 1 rfl 0 rfl rfl 5 (by decide) rfl wf_X4_42 dX4_setPatience_39 ?_
      refine z_iload_n C dX4_setPatience_42 rfl 1 rfl ?_
      refine z_iald C 1 rfl 1 0 rfl rfl dX4_setPatience_43 (by omega) (by decide) ?_
      refine z_istore_n C (L' := [(3, .int (σ 1 (b))), (0, .ref (t)), (1, .int (nI (b))), (2, .int (nI (k)))]) dX4_setPatience_44 rfl (by decide) rfl ?_
      refine z_aload_n C dX4_setPatience_45 rfl 1 rfl ?_
      refine z_getR C wu_X4 0 rfl 0 rfl rfl 1 (by decide) rfl wf_X4_10 dX4_setPatience_46 ?_
      refine z_getRN C wu_X3 1 rfl 0 rfl rfl 5 (by decide) rfl wf_X4_42 dX4_setPatience_49 ?_
      refine z_iload_n C dX4_setPatience_52 rfl 2 rfl ?_
      refine z_iload_n C dX4_setPatience_53 rfl 3 rfl ?_
      refine z_iast C (B' := [(shM t a ta, (zU κ 0 (0) (nI (0)))), (shS a cI, (zU σ 1 (b) (nI (k)))), (shS ta cI, τ)]) 1 rfl 1 0 rfl rfl dX4_setPatience_54 (by omega) (by decide) rfl ?_
      refine z_iload_n C dX4_setPatience_55 rfl 0 rfl ?_
      rw [hQ]; exact z_iret C hr dX4_setPatience_56 ⟨rfl, congrArg (fun x => [(shM t a ta, (zU κ 0 (0) (nI (0)))), (shS a cI, x), (shS ta cI, τ)]) (by rfl)⟩
    · exact absurd c_26 (by omega)
  · exact absurd c_10 (by omega)
set_option maxHeartbeats 4000000 in
set_option maxRecDepth 100000 in
theorem c_X4_setPatience_b1 (l : Launch) (D : va_G) (cI cZ cJ : ClassId) (t : Nat) (a ta : Nat → Nat) (κ σ τ : zF) (n : Nat) (hI : fl_Iv n σ) (x : Int32) (k : Int32) (hx : x < 0 ∨ nI n ≤ x) : zM l D (tyL cI cZ cJ) yX4_setPatience cX4_setPatience 4 (some .int) (zR 2 43) [.ref (t), .int (x), .int (k)] [(shM t a ta, κ), (shS a cI, σ), (shS ta cI, τ)] 0 0 (fun r u => r = some (.int (nI (0))) ∧ u = [(shM t a ta, (zU κ 0 (0) (nI (1)))), (shS a cI, σ), (shS ta cI, τ)]) := by
  have hn3 := hI.n3
  have hn7 := hI.n7
  refine z_of (by decide) (Nat.le_of_ble_eq_true rfl) rfl ?_
  intro p e s m args below meth c A C hr hin
  obtain ⟨Q, hQ⟩ : ∃ Q, Q = MQ below (zQ (fun r u => r = some (.int (nI (0))) ∧ u = [(shM t a ta, (zU κ 0 (0) (nI (1)))), (shS a cI, σ), (shS ta cI, τ)]) D (tyL cI cZ cJ) A) args s 0 0 A := ⟨_, rfl⟩
  rw [← hQ]
  refine z_aload_n C dX4_setPatience_0 rfl 0 rfl ?_
  refine z_iconst C (v := nI (0)) (by decide) dX4_setPatience_1 ?_
  refine z_putI C (B' := [(shM t a ta, (zU κ 0 (0) (nI (0)))), (shS a cI, σ), (shS ta cI, τ)]) wu_X4 tyX4_ok nmX4 0 rfl 0 rfl rfl 0 (by decide) rfl wf_X4_19 rfl (by decide +kernel) dX4_setPatience_2 rfl ?_
  refine z_aload_n C dX4_setPatience_5 rfl 0 rfl ?_
  refine z_iload_n C dX4_setPatience_6 rfl 1 rfl ?_
  refine z_cV C (st' := [.int (nI (0))]) (B' := [(shM t a ta, (zU κ 0 (0) (nI (0)))), (shS a cI, σ), (shS ta cI, τ)]) [true, true, true] rfl (c_X4_isBoat_no l D cI cZ cJ t a ta (zU κ 0 (0) (nI (0))) σ τ n hI x (hx)) wq_yX4_isBoat wm_X4_38 ⟨wn_yX4_isBoat, wo_yX4_isBoat⟩ ⟨rfl, rfl, Nat.le_of_ble_eq_true rfl, Nat.le_of_ble_eq_true rfl⟩ 0 rfl 0 rfl rfl rfl rfl (Nat.le_of_ble_eq_true rfl) dX4_setPatience_7 ⟨Nat.le_of_ble_eq_true rfl, Nat.le_of_ble_eq_true rfl⟩ rfl rfl ?_
  refine z_if_neN C (tgt := 19) dX4_setPatience_10 (by decide) (by omega) (fun c_10 => ?_) (fun c_10 => ?_)
  · exact absurd c_10 (by omega)
  · refine z_aload_n C dX4_setPatience_13 rfl 0 rfl ?_
    refine z_iconst C (v := nI (1)) (by decide) dX4_setPatience_14 ?_
    refine z_cV C (st' := [.int (nI (0))]) (B' := [(shM t a ta, (zU (zU κ 0 (0) (nI (0))) 0 (0) (nI (1)))), (shS a cI, σ), (shS ta cI, τ)]) [true, true, true] rfl (c_X4_no l D cI cZ cJ t a ta (zU κ 0 (0) (nI (0))) σ τ n hI 1) wq_yX4_no wm_X4_30 ⟨wn_yX4_no, wo_yX4_no⟩ ⟨rfl, rfl, Nat.le_of_ble_eq_true rfl, Nat.le_of_ble_eq_true rfl⟩ 0 rfl 0 rfl rfl rfl rfl (Nat.le_of_ble_eq_true rfl) dX4_setPatience_15 ⟨Nat.le_of_ble_eq_true rfl, Nat.le_of_ble_eq_true rfl⟩ rfl rfl ?_
    refine z_eq (B' := [(shM t a ta, (zU κ 0 (0) (nI (1)))), (shS a cI, σ), (shS ta cI, τ)]) (congrArg (fun x => [(shM t a ta, x), (shS a cI, σ), (shS ta cI, τ)]) (zU_tw _ _ _ _ _)) ?_
    rw [hQ]; exact z_iret C hr dX4_setPatience_18 ⟨rfl, rfl⟩
set_option maxHeartbeats 4000000 in
set_option maxRecDepth 100000 in
theorem c_X4_setPatience_b2 (l : Launch) (D : va_G) (cI cZ cJ : ClassId) (t : Nat) (a ta : Nat → Nat) (κ σ τ : zF) (n : Nat) (hI : fl_Iv n σ) (b : Nat) (x : Int32) (hb : b < n) (hx : x < nI 2 ∨ nI 9 < x) : zM l D (tyL cI cZ cJ) yX4_setPatience cX4_setPatience 4 (some .int) (zR 2 43) [.ref (t), .int (nI (b)), .int (x)] [(shM t a ta, κ), (shS a cI, σ), (shS ta cI, τ)] 0 0 (fun r u => r = some (.int (nI (0))) ∧ u = [(shM t a ta, (zU κ 0 (0) (nI (2)))), (shS a cI, σ), (shS ta cI, τ)]) := by
  have hn3 := hI.n3
  have hn7 := hI.n7
  refine z_of (by decide) (Nat.le_of_ble_eq_true rfl) rfl ?_
  intro p e s m args below meth c A C hr hin
  obtain ⟨Q, hQ⟩ : ∃ Q, Q = MQ below (zQ (fun r u => r = some (.int (nI (0))) ∧ u = [(shM t a ta, (zU κ 0 (0) (nI (2)))), (shS a cI, σ), (shS ta cI, τ)]) D (tyL cI cZ cJ) A) args s 0 0 A := ⟨_, rfl⟩
  rw [← hQ]
  refine z_aload_n C dX4_setPatience_0 rfl 0 rfl ?_
  refine z_iconst C (v := nI (0)) (by decide) dX4_setPatience_1 ?_
  refine z_putI C (B' := [(shM t a ta, (zU κ 0 (0) (nI (0)))), (shS a cI, σ), (shS ta cI, τ)]) wu_X4 tyX4_ok nmX4 0 rfl 0 rfl rfl 0 (by decide) rfl wf_X4_19 rfl (by decide +kernel) dX4_setPatience_2 rfl ?_
  refine z_aload_n C dX4_setPatience_5 rfl 0 rfl ?_
  refine z_iload_n C dX4_setPatience_6 rfl 1 rfl ?_
  refine z_cV C (st' := [.int (nI (1))]) (B' := [(shM t a ta, (zU κ 0 (0) (nI (0)))), (shS a cI, σ), (shS ta cI, τ)]) [true, true, true] rfl (c_X4_isBoat_ok l D cI cZ cJ t a ta (zU κ 0 (0) (nI (0))) σ τ n hI b (by omega)) wq_yX4_isBoat wm_X4_38 ⟨wn_yX4_isBoat, wo_yX4_isBoat⟩ ⟨rfl, rfl, Nat.le_of_ble_eq_true rfl, Nat.le_of_ble_eq_true rfl⟩ 0 rfl 0 rfl rfl rfl rfl (Nat.le_of_ble_eq_true rfl) dX4_setPatience_7 ⟨Nat.le_of_ble_eq_true rfl, Nat.le_of_ble_eq_true rfl⟩ rfl rfl ?_
  refine z_if_neN C (tgt := 19) dX4_setPatience_10 (by decide) (by omega) (fun c_10 => ?_) (fun c_10 => ?_)
  · refine z_iload_n C dX4_setPatience_19 rfl 2 rfl ?_
    refine z_iconst C (v := nI (2)) (by decide) dX4_setPatience_20 ?_
    refine z_bipush C (v := nI (9)) (by decide) dX4_setPatience_21 ?_
    refine z_cS C (st' := [.int (nI (0))]) (B' := [(shM t a ta, (zU κ 0 (0) (nI (0)))), (shS a cI, σ), (shS ta cI, τ)]) [false, false, false] rfl (c_X4_isIn_no l D cI cZ cJ x (nI (2)) (nI (9)) (hx)) wq_yX4_isIn wm_X4_26 ws_yX4_isIn ⟨rfl, rfl, Nat.le_of_ble_eq_true rfl, Nat.le_of_ble_eq_true rfl⟩ rfl rfl (Nat.le_of_ble_eq_true rfl) dX4_setPatience_23 ⟨Nat.le_of_ble_eq_true rfl, Nat.le_of_ble_eq_true rfl⟩ rfl rfl ?_
    refine z_if_neN C (tgt := 35) dX4_setPatience_26 (by decide) (by omega) (fun c_26 => ?_) (fun c_26 => ?_)
    · exact absurd c_26 (by omega)
    · refine z_aload_n C dX4_setPatience_29 rfl 0 rfl ?_
      refine z_iconst C (v := nI (2)) (by decide) dX4_setPatience_30 ?_
      refine z_cV C (st' := [.int (nI (0))]) (B' := [(shM t a ta, (zU (zU κ 0 (0) (nI (0))) 0 (0) (nI (2)))), (shS a cI, σ), (shS ta cI, τ)]) [true, true, true] rfl (c_X4_no l D cI cZ cJ t a ta (zU κ 0 (0) (nI (0))) σ τ n hI 2) wq_yX4_no wm_X4_30 ⟨wn_yX4_no, wo_yX4_no⟩ ⟨rfl, rfl, Nat.le_of_ble_eq_true rfl, Nat.le_of_ble_eq_true rfl⟩ 0 rfl 0 rfl rfl rfl rfl (Nat.le_of_ble_eq_true rfl) dX4_setPatience_31 ⟨Nat.le_of_ble_eq_true rfl, Nat.le_of_ble_eq_true rfl⟩ rfl rfl ?_
      refine z_eq (B' := [(shM t a ta, (zU κ 0 (0) (nI (2)))), (shS a cI, σ), (shS ta cI, τ)]) (congrArg (fun x => [(shM t a ta, x), (shS a cI, σ), (shS ta cI, τ)]) (zU_tw _ _ _ _ _)) ?_
      rw [hQ]; exact z_iret C hr dX4_setPatience_34 ⟨rfl, rfl⟩
  · exact absurd c_10 (by omega)
set_option maxHeartbeats 4000000 in
set_option maxRecDepth 100000 in
theorem c_X4_go (l : Launch) (D : va_G) (cI cZ cJ : ClassId) (t : Nat) (a ta : Nat → Nat) (κ σ τ : zF) (n : Nat) (hI : fl_Iv n σ) (b : Nat) (h : Nat) (hb : b < n) (hh : h < 3) : zM l D (tyL cI cZ cJ) yX4_go cX4_go 4 (some .int) (zR 2 43) [.ref (t), .int (nI (b)), .int (nI (h))] [(shM t a ta, κ), (shS a cI, σ), (shS ta cI, τ)] 0 0 (fun r u => r = some (.int (σ 6 (b))) ∧ u = [(shM t a ta, (zU κ 0 (0) (nI (0)))), (shS a cI, (zU σ 6 b (nI h))), (shS ta cI, τ)]) := by
  have hn3 := hI.n3
  have hn7 := hI.n7
  refine z_of (by decide) (Nat.le_of_ble_eq_true rfl) rfl ?_
  intro p e s m args below meth c A C hr hin
  obtain ⟨Q, hQ⟩ : ∃ Q, Q = MQ below (zQ (fun r u => r = some (.int (σ 6 (b))) ∧ u = [(shM t a ta, (zU κ 0 (0) (nI (0)))), (shS a cI, (zU σ 6 b (nI h))), (shS ta cI, τ)]) D (tyL cI cZ cJ) A) args s 0 0 A := ⟨_, rfl⟩
  rw [← hQ]
  refine z_aload_n C dX4_go_0 rfl 0 rfl ?_
  refine z_iconst C (v := nI (0)) (by decide) dX4_go_1 ?_
  refine z_putI C (B' := [(shM t a ta, (zU κ 0 (0) (nI (0)))), (shS a cI, σ), (shS ta cI, τ)]) wu_X4 tyX4_ok nmX4 0 rfl 0 rfl rfl 0 (by decide) rfl wf_X4_19 rfl (by decide +kernel) dX4_go_2 rfl ?_
  refine z_aload_n C dX4_go_5 rfl 0 rfl ?_
  refine z_iload_n C dX4_go_6 rfl 1 rfl ?_
  refine z_cV C (st' := [.int (nI (1))]) (B' := [(shM t a ta, (zU κ 0 (0) (nI (0)))), (shS a cI, σ), (shS ta cI, τ)]) [true, true, true] rfl (c_X4_isBoat_ok l D cI cZ cJ t a ta (zU κ 0 (0) (nI (0))) σ τ n hI b (by omega)) wq_yX4_isBoat wm_X4_38 ⟨wn_yX4_isBoat, wo_yX4_isBoat⟩ ⟨rfl, rfl, Nat.le_of_ble_eq_true rfl, Nat.le_of_ble_eq_true rfl⟩ 0 rfl 0 rfl rfl rfl rfl (Nat.le_of_ble_eq_true rfl) dX4_go_7 ⟨Nat.le_of_ble_eq_true rfl, Nat.le_of_ble_eq_true rfl⟩ rfl rfl ?_
  refine z_if_eqN C (tgt := 22) dX4_go_10 (by decide) (by omega) (fun c_10 => ?_) (fun c_10 => ?_)
  · exact absurd c_10 (by omega)
  · refine z_iload_n C dX4_go_13 rfl 2 rfl ?_
    refine z_iconst C (v := nI (0)) (by decide) dX4_go_14 ?_
    refine z_iconst C (v := nI (2)) (by decide) dX4_go_15 ?_
    refine z_cS C (st' := [.int (nI (1))]) (B' := [(shM t a ta, (zU κ 0 (0) (nI (0)))), (shS a cI, σ), (shS ta cI, τ)]) [false, false, false] rfl (c_X4_isIn_ok l D cI cZ cJ (nI (h)) (nI (0)) (nI (2)) (nI_le2 (by omega) (by omega)) (nI_le2 (by omega) (by omega))) wq_yX4_isIn wm_X4_26 ws_yX4_isIn ⟨rfl, rfl, Nat.le_of_ble_eq_true rfl, Nat.le_of_ble_eq_true rfl⟩ rfl rfl (Nat.le_of_ble_eq_true rfl) dX4_go_16 ⟨Nat.le_of_ble_eq_true rfl, Nat.le_of_ble_eq_true rfl⟩ rfl rfl ?_
    refine z_if_neN C (tgt := 28) dX4_go_19 (by decide) (by omega) (fun c_19 => ?_) (fun c_19 => ?_)
    · refine z_aload_n C dX4_go_28 rfl 0 rfl ?_
      refine z_getR C wu_X4 0 rfl 0 rfl rfl 1 (by decide) rfl wf_X4_10 dX4_go_29 ?_
      refine z_getRN C wu_X3 1 rfl 0 rfl rfl 10 (by decide) rfl wf_X4_46 dX4_go_32 ?_
      refine z_iload_n C dX4_go_35 rfl 1 rfl ?_
      refine z_iald C 1 rfl 6 0 rfl rfl dX4_go_36 (by omega) (by decide) ?_
      refine z_istore_n C (L' := [(3, .int (σ 6 (b))), (0, .ref (t)), (1, .int (nI (b))), (2, .int (nI (h)))]) dX4_go_37 rfl (by decide) rfl ?_
      refine z_aload_n C dX4_go_38 rfl 1 rfl ?_
      refine z_getR C wu_X4 0 rfl 0 rfl rfl 1 (by decide) rfl wf_X4_10 dX4_go_39 ?_
      refine z_getRN C wu_X3 1 rfl 0 rfl rfl 10 (by decide) rfl wf_X4_46 dX4_go_42 ?_
      refine z_iload_n C dX4_go_45 rfl 2 rfl ?_
      refine z_iload_n C dX4_go_46 rfl 3 rfl ?_
      refine z_iast C (B' := [(shM t a ta, (zU κ 0 (0) (nI (0)))), (shS a cI, (zU σ 6 (b) (nI (h)))), (shS ta cI, τ)]) 1 rfl 6 0 rfl rfl dX4_go_47 (by omega) (by decide) rfl ?_
      refine z_iload_n C dX4_go_48 rfl 0 rfl ?_
      rw [hQ]; exact z_iret C hr dX4_go_49 ⟨rfl, congrArg (fun x => [(shM t a ta, (zU κ 0 (0) (nI (0)))), (shS a cI, x), (shS ta cI, τ)]) (by rfl)⟩
    · exact absurd c_19 (by omega)
set_option maxHeartbeats 4000000 in
set_option maxRecDepth 100000 in
theorem c_X4_go_b1 (l : Launch) (D : va_G) (cI cZ cJ : ClassId) (t : Nat) (a ta : Nat → Nat) (κ σ τ : zF) (n : Nat) (hI : fl_Iv n σ) (x : Int32) (h : Int32) (hx : x < 0 ∨ nI n ≤ x) : zM l D (tyL cI cZ cJ) yX4_go cX4_go 4 (some .int) (zR 2 43) [.ref (t), .int (x), .int (h)] [(shM t a ta, κ), (shS a cI, σ), (shS ta cI, τ)] 0 0 (fun r u => r = some (.int (nI (0))) ∧ u = [(shM t a ta, (zU κ 0 (0) (nI (1)))), (shS a cI, σ), (shS ta cI, τ)]) := by
  have hn3 := hI.n3
  have hn7 := hI.n7
  refine z_of (by decide) (Nat.le_of_ble_eq_true rfl) rfl ?_
  intro p e s m args below meth c A C hr hin
  obtain ⟨Q, hQ⟩ : ∃ Q, Q = MQ below (zQ (fun r u => r = some (.int (nI (0))) ∧ u = [(shM t a ta, (zU κ 0 (0) (nI (1)))), (shS a cI, σ), (shS ta cI, τ)]) D (tyL cI cZ cJ) A) args s 0 0 A := ⟨_, rfl⟩
  rw [← hQ]
  refine z_aload_n C dX4_go_0 rfl 0 rfl ?_
  refine z_iconst C (v := nI (0)) (by decide) dX4_go_1 ?_
  refine z_putI C (B' := [(shM t a ta, (zU κ 0 (0) (nI (0)))), (shS a cI, σ), (shS ta cI, τ)]) wu_X4 tyX4_ok nmX4 0 rfl 0 rfl rfl 0 (by decide) rfl wf_X4_19 rfl (by decide +kernel) dX4_go_2 rfl ?_
  refine z_aload_n C dX4_go_5 rfl 0 rfl ?_
  refine z_iload_n C dX4_go_6 rfl 1 rfl ?_
  refine z_cV C (st' := [.int (nI (0))]) (B' := [(shM t a ta, (zU κ 0 (0) (nI (0)))), (shS a cI, σ), (shS ta cI, τ)]) [true, true, true] rfl (c_X4_isBoat_no l D cI cZ cJ t a ta (zU κ 0 (0) (nI (0))) σ τ n hI x (hx)) wq_yX4_isBoat wm_X4_38 ⟨wn_yX4_isBoat, wo_yX4_isBoat⟩ ⟨rfl, rfl, Nat.le_of_ble_eq_true rfl, Nat.le_of_ble_eq_true rfl⟩ 0 rfl 0 rfl rfl rfl rfl (Nat.le_of_ble_eq_true rfl) dX4_go_7 ⟨Nat.le_of_ble_eq_true rfl, Nat.le_of_ble_eq_true rfl⟩ rfl rfl ?_
  refine z_if_eqN C (tgt := 22) dX4_go_10 (by decide) (by omega) (fun c_10 => ?_) (fun c_10 => ?_)
  · refine z_aload_n C dX4_go_22 rfl 0 rfl ?_
    refine z_iconst C (v := nI (1)) (by decide) dX4_go_23 ?_
    refine z_cV C (st' := [.int (nI (0))]) (B' := [(shM t a ta, (zU (zU κ 0 (0) (nI (0))) 0 (0) (nI (1)))), (shS a cI, σ), (shS ta cI, τ)]) [true, true, true] rfl (c_X4_no l D cI cZ cJ t a ta (zU κ 0 (0) (nI (0))) σ τ n hI 1) wq_yX4_no wm_X4_30 ⟨wn_yX4_no, wo_yX4_no⟩ ⟨rfl, rfl, Nat.le_of_ble_eq_true rfl, Nat.le_of_ble_eq_true rfl⟩ 0 rfl 0 rfl rfl rfl rfl (Nat.le_of_ble_eq_true rfl) dX4_go_24 ⟨Nat.le_of_ble_eq_true rfl, Nat.le_of_ble_eq_true rfl⟩ rfl rfl ?_
    refine z_eq (B' := [(shM t a ta, (zU κ 0 (0) (nI (1)))), (shS a cI, σ), (shS ta cI, τ)]) (congrArg (fun x => [(shM t a ta, x), (shS a cI, σ), (shS ta cI, τ)]) (zU_tw _ _ _ _ _)) ?_
    rw [hQ]; exact z_iret C hr dX4_go_27 ⟨rfl, rfl⟩
  · exact absurd c_10 (by omega)
set_option maxHeartbeats 4000000 in
set_option maxRecDepth 100000 in
theorem c_X4_go_b2 (l : Launch) (D : va_G) (cI cZ cJ : ClassId) (t : Nat) (a ta : Nat → Nat) (κ σ τ : zF) (n : Nat) (hI : fl_Iv n σ) (b : Nat) (x : Int32) (hb : b < n) (hx : x < 0 ∨ nI 3 ≤ x) : zM l D (tyL cI cZ cJ) yX4_go cX4_go 4 (some .int) (zR 2 43) [.ref (t), .int (nI (b)), .int (x)] [(shM t a ta, κ), (shS a cI, σ), (shS ta cI, τ)] 0 0 (fun r u => r = some (.int (nI (0))) ∧ u = [(shM t a ta, (zU κ 0 (0) (nI (1)))), (shS a cI, σ), (shS ta cI, τ)]) := by
  have hn3 := hI.n3
  have hn7 := hI.n7
  refine z_of (by decide) (Nat.le_of_ble_eq_true rfl) rfl ?_
  intro p e s m args below meth c A C hr hin
  obtain ⟨Q, hQ⟩ : ∃ Q, Q = MQ below (zQ (fun r u => r = some (.int (nI (0))) ∧ u = [(shM t a ta, (zU κ 0 (0) (nI (1)))), (shS a cI, σ), (shS ta cI, τ)]) D (tyL cI cZ cJ) A) args s 0 0 A := ⟨_, rfl⟩
  rw [← hQ]
  refine z_aload_n C dX4_go_0 rfl 0 rfl ?_
  refine z_iconst C (v := nI (0)) (by decide) dX4_go_1 ?_
  refine z_putI C (B' := [(shM t a ta, (zU κ 0 (0) (nI (0)))), (shS a cI, σ), (shS ta cI, τ)]) wu_X4 tyX4_ok nmX4 0 rfl 0 rfl rfl 0 (by decide) rfl wf_X4_19 rfl (by decide +kernel) dX4_go_2 rfl ?_
  refine z_aload_n C dX4_go_5 rfl 0 rfl ?_
  refine z_iload_n C dX4_go_6 rfl 1 rfl ?_
  refine z_cV C (st' := [.int (nI (1))]) (B' := [(shM t a ta, (zU κ 0 (0) (nI (0)))), (shS a cI, σ), (shS ta cI, τ)]) [true, true, true] rfl (c_X4_isBoat_ok l D cI cZ cJ t a ta (zU κ 0 (0) (nI (0))) σ τ n hI b (by omega)) wq_yX4_isBoat wm_X4_38 ⟨wn_yX4_isBoat, wo_yX4_isBoat⟩ ⟨rfl, rfl, Nat.le_of_ble_eq_true rfl, Nat.le_of_ble_eq_true rfl⟩ 0 rfl 0 rfl rfl rfl rfl (Nat.le_of_ble_eq_true rfl) dX4_go_7 ⟨Nat.le_of_ble_eq_true rfl, Nat.le_of_ble_eq_true rfl⟩ rfl rfl ?_
  refine z_if_eqN C (tgt := 22) dX4_go_10 (by decide) (by omega) (fun c_10 => ?_) (fun c_10 => ?_)
  · exact absurd c_10 (by omega)
  · refine z_iload_n C dX4_go_13 rfl 2 rfl ?_
    refine z_iconst C (v := nI (0)) (by decide) dX4_go_14 ?_
    refine z_iconst C (v := nI (2)) (by decide) dX4_go_15 ?_
    refine z_cS C (st' := [.int (nI (0))]) (B' := [(shM t a ta, (zU κ 0 (0) (nI (0)))), (shS a cI, σ), (shS ta cI, τ)]) [false, false, false] rfl (c_X4_isIn_no l D cI cZ cJ x (nI (0)) (nI (2)) (lo_hi 2 hx (by omega))) wq_yX4_isIn wm_X4_26 ws_yX4_isIn ⟨rfl, rfl, Nat.le_of_ble_eq_true rfl, Nat.le_of_ble_eq_true rfl⟩ rfl rfl (Nat.le_of_ble_eq_true rfl) dX4_go_16 ⟨Nat.le_of_ble_eq_true rfl, Nat.le_of_ble_eq_true rfl⟩ rfl rfl ?_
    refine z_if_neN C (tgt := 28) dX4_go_19 (by decide) (by omega) (fun c_19 => ?_) (fun c_19 => ?_)
    · exact absurd c_19 (by omega)
    · refine z_aload_n C dX4_go_22 rfl 0 rfl ?_
      refine z_iconst C (v := nI (1)) (by decide) dX4_go_23 ?_
      refine z_cV C (st' := [.int (nI (0))]) (B' := [(shM t a ta, (zU (zU κ 0 (0) (nI (0))) 0 (0) (nI (1)))), (shS a cI, σ), (shS ta cI, τ)]) [true, true, true] rfl (c_X4_no l D cI cZ cJ t a ta (zU κ 0 (0) (nI (0))) σ τ n hI 1) wq_yX4_no wm_X4_30 ⟨wn_yX4_no, wo_yX4_no⟩ ⟨rfl, rfl, Nat.le_of_ble_eq_true rfl, Nat.le_of_ble_eq_true rfl⟩ 0 rfl 0 rfl rfl rfl rfl (Nat.le_of_ble_eq_true rfl) dX4_go_24 ⟨Nat.le_of_ble_eq_true rfl, Nat.le_of_ble_eq_true rfl⟩ rfl rfl ?_
      refine z_eq (B' := [(shM t a ta, (zU κ 0 (0) (nI (1)))), (shS a cI, σ), (shS ta cI, τ)]) (congrArg (fun x => [(shM t a ta, x), (shS a cI, σ), (shS ta cI, τ)]) (zU_tw _ _ _ _ _)) ?_
      rw [hQ]; exact z_iret C hr dX4_go_27 ⟨rfl, rfl⟩
set_option maxHeartbeats 4000000 in
set_option maxRecDepth 100000 in
theorem c_X4_sink (l : Launch) (D : va_G) (cI cZ cJ : ClassId) (t : Nat) (a ta : Nat → Nat) (κ σ τ : zF) (n : Nat) (hI : fl_Iv n σ) (b : Nat) (hb : b < n) : zM l D (tyL cI cZ cJ) yX4_sink cX4_sink 2 (some .boolean) (zR 2 43) [.ref (t), .int (nI (b))] [(shM t a ta, κ), (shS a cI, σ), (shS ta cI, τ)] 0 0 (fun r u => r = some (.int (zb (decide (σ 7 b = 0)))) ∧ u = [(shM t a ta, (zU κ 0 (0) (nI (0)))), (shS a cI, (if σ 7 b = 0 then fl_raise σ b else zU σ 7 b (nI 0))), (shS ta cI, τ)]) := by
  have hn3 := hI.n3
  have hn7 := hI.n7
  refine z_of (by decide) (Nat.le_of_ble_eq_true rfl) rfl ?_
  intro p e s m args below meth c A C hr hin
  obtain ⟨Q, hQ⟩ : ∃ Q, Q = MQ below (zQ (fun r u => r = some (.int (zb (decide (σ 7 b = 0)))) ∧ u = [(shM t a ta, (zU κ 0 (0) (nI (0)))), (shS a cI, (if σ 7 b = 0 then fl_raise σ b else zU σ 7 b (nI 0))), (shS ta cI, τ)]) D (tyL cI cZ cJ) A) args s 0 0 A := ⟨_, rfl⟩
  rw [← hQ]
  refine z_aload_n C dX4_sink_0 rfl 0 rfl ?_
  refine z_aload_n C dX4_sink_1 rfl 0 rfl ?_
  refine z_iload_n C dX4_sink_2 rfl 1 rfl ?_
  refine z_cV C (st' := [.int (nI (1)), .ref (t)]) (B' := [(shM t a ta, κ), (shS a cI, σ), (shS ta cI, τ)]) [true, true, true] rfl (c_X4_isBoat_ok l D cI cZ cJ t a ta κ σ τ n hI b (by omega)) wq_yX4_isBoat wm_X4_38 ⟨wn_yX4_isBoat, wo_yX4_isBoat⟩ ⟨rfl, rfl, Nat.le_of_ble_eq_true rfl, Nat.le_of_ble_eq_true rfl⟩ 0 rfl 0 rfl rfl rfl rfl (Nat.le_of_ble_eq_true rfl) dX4_sink_3 ⟨Nat.le_of_ble_eq_true rfl, Nat.le_of_ble_eq_true rfl⟩ rfl rfl ?_
  refine z_if_eqN C (tgt := 13) dX4_sink_6 (by decide) (by omega) (fun c_6 => ?_) (fun c_6 => ?_)
  · exact absurd c_6 (by omega)
  · refine z_iconst C (v := nI (0)) (by decide) dX4_sink_9 ?_
    refine z_goto C (tgt := 14) dX4_sink_10 (by decide) ?_
    refine z_putI C (B' := [(shM t a ta, (zU κ 0 (0) (nI (0)))), (shS a cI, σ), (shS ta cI, τ)]) wu_X4 tyX4_ok nmX4 0 rfl 0 rfl rfl 0 (by decide) rfl wf_X4_19 rfl (by decide +kernel) dX4_sink_14 rfl ?_
    refine z_aload_n C dX4_sink_17 rfl 0 rfl ?_
    refine z_getI C wu_X4 0 rfl 0 rfl rfl 0 (by decide) rfl wf_X4_19 dX4_sink_18 ?_
    refine z_top (y := nI (0)) (zU_self _ _ _ _) ?_
    refine z_if_leN C (tgt := 26) dX4_sink_21 (by decide) (by omega) (fun c_21 => ?_) (fun c_21 => ?_)
    · refine z_aload_n C dX4_sink_26 rfl 0 rfl ?_
      refine z_getR C wu_X4 0 rfl 0 rfl rfl 1 (by decide) rfl wf_X4_10 dX4_sink_27 ?_
      refine z_getRN C wu_X3 1 rfl 0 rfl rfl 11 (by decide) rfl wf_X4_49 dX4_sink_30 ?_
      refine z_iload_n C dX4_sink_33 rfl 1 rfl ?_
      refine z_iconst C (v := nI (1)) (by decide) dX4_sink_34 ?_
      refine z_aload_n C dX4_sink_35 rfl 0 rfl ?_
      refine z_getR C wu_X4 0 rfl 0 rfl rfl 1 (by decide) rfl wf_X4_10 dX4_sink_36 ?_
      refine z_getRN C wu_X3 1 rfl 0 rfl rfl 11 (by decide) rfl wf_X4_49 dX4_sink_39 ?_
      refine z_iload_n C dX4_sink_42 rfl 1 rfl ?_
      refine z_iald C 1 rfl 7 0 rfl rfl dX4_sink_43 (by omega) (by decide) ?_
      rcases hI.up hb with hu | hu
      · refine z_top (y := nI (0)) hu ?_
        refine z_isubN C dX4_sink_44 (by omega) ?_
        refine z_top (y := nI (1)) rfl ?_
        refine z_iast C (B' := [(shM t a ta, (zU κ 0 (0) (nI (0)))), (shS a cI, (zU σ 7 (b) (nI (1)))), (shS ta cI, τ)]) 1 rfl 7 0 rfl rfl dX4_sink_45 (by omega) (by decide) rfl ?_
        refine z_aload_n C dX4_sink_46 rfl 0 rfl ?_
        refine z_getR C wu_X4 0 rfl 0 rfl rfl 1 (by decide) rfl wf_X4_10 dX4_sink_47 ?_
        refine z_getRN C wu_X3 1 rfl 0 rfl rfl 11 (by decide) rfl wf_X4_49 dX4_sink_50 ?_
        refine z_iload_n C dX4_sink_53 rfl 1 rfl ?_
        refine z_iald C 1 rfl 7 0 rfl rfl dX4_sink_54 (by omega) (by decide) ?_
        refine z_top (y := nI (1)) (zU_self _ _ _ _) ?_
        refine z_if_neN C (tgt := 60) dX4_sink_55 (by decide) (by omega) (fun c_55 => ?_) (fun c_55 => ?_)
        · refine z_aload_n C dX4_sink_60 rfl 0 rfl ?_
          refine z_getR C wu_X4 0 rfl 0 rfl rfl 1 (by decide) rfl wf_X4_10 dX4_sink_61 ?_
          refine z_getRN C wu_X3 1 rfl 0 rfl rfl 9 (by decide) rfl wf_X4_52 dX4_sink_64 ?_
          refine z_iload_n C dX4_sink_67 rfl 1 rfl ?_
          refine z_iconst C (v := nI (0)) (by decide) dX4_sink_68 ?_
          refine z_iast C (B' := [(shM t a ta, (zU κ 0 (0) (nI (0)))), (shS a cI, (zU (zU σ 7 (b) (nI (1))) 5 (b) (nI (0)))), (shS ta cI, τ)]) 1 rfl 5 0 rfl rfl dX4_sink_69 (by omega) (by decide) rfl ?_
          refine z_aload_n C dX4_sink_70 rfl 0 rfl ?_
          refine z_getR C wu_X4 0 rfl 0 rfl rfl 1 (by decide) rfl wf_X4_10 dX4_sink_71 ?_
          refine z_getRN C wu_X3 1 rfl 0 rfl rfl 6 (by decide) rfl wf_X4_55 dX4_sink_74 ?_
          refine z_iload_n C dX4_sink_77 rfl 1 rfl ?_
          refine z_aload_n C dX4_sink_78 rfl 0 rfl ?_
          refine z_getR C wu_X4 0 rfl 0 rfl rfl 1 (by decide) rfl wf_X4_10 dX4_sink_79 ?_
          refine z_getRN C wu_X3 1 rfl 0 rfl rfl 5 (by decide) rfl wf_X4_42 dX4_sink_82 ?_
          refine z_iload_n C dX4_sink_85 rfl 1 rfl ?_
          refine z_iald C 1 rfl 1 0 rfl rfl dX4_sink_86 (by omega) (by decide) ?_
          refine z_top (y := σ 1 (b)) rfl ?_
          refine z_iast C (B' := [(shM t a ta, (zU κ 0 (0) (nI (0)))), (shS a cI, (zU (zU (zU σ 7 (b) (nI (1))) 5 (b) (nI (0))) 2 (b) (σ 1 (b)))), (shS ta cI, τ)]) 1 rfl 2 0 rfl rfl dX4_sink_87 (by omega) (by decide) rfl ?_
          refine z_aload_n C dX4_sink_88 rfl 0 rfl ?_
          refine z_getR C wu_X4 0 rfl 0 rfl rfl 1 (by decide) rfl wf_X4_10 dX4_sink_89 ?_
          refine z_getRN C wu_X3 1 rfl 0 rfl rfl 13 (by decide) rfl wf_X4_58 dX4_sink_92 ?_
          refine z_iload_n C dX4_sink_95 rfl 1 rfl ?_
          refine z_iconst C (v := nI (0)) (by decide) dX4_sink_96 ?_
          refine z_iast C (B' := [(shM t a ta, (zU κ 0 (0) (nI (0)))), (shS a cI, (zU (zU (zU (zU σ 7 (b) (nI (1))) 5 (b) (nI (0))) 2 (b) (σ 1 (b))) 9 (b) (nI (0)))), (shS ta cI, τ)]) 1 rfl 9 0 rfl rfl dX4_sink_97 (by omega) (by decide) rfl ?_
          refine z_iconst C (v := nI (1)) (by decide) dX4_sink_98 ?_
          rw [hQ]; exact z_zret C hr (by decide) dX4_sink_99 ⟨z_b1 (by first | exact decide_eq_true hu | exact decide_eq_false (by rw [hu]; decide)), congrArg (fun x => [(shM t a ta, (zU κ 0 (0) (nI (0)))), (shS a cI, x), (shS ta cI, τ)]) (by first | (rw [if_pos hu]; rfl) | (rw [if_neg (by rw [hu]; decide)]))⟩
        · exact absurd c_55 (by omega)
      · refine z_top (y := nI (1)) hu ?_
        refine z_isubN C dX4_sink_44 (by omega) ?_
        refine z_top (y := nI (0)) rfl ?_
        refine z_iast C (B' := [(shM t a ta, (zU κ 0 (0) (nI (0)))), (shS a cI, (zU σ 7 (b) (nI (0)))), (shS ta cI, τ)]) 1 rfl 7 0 rfl rfl dX4_sink_45 (by omega) (by decide) rfl ?_
        refine z_aload_n C dX4_sink_46 rfl 0 rfl ?_
        refine z_getR C wu_X4 0 rfl 0 rfl rfl 1 (by decide) rfl wf_X4_10 dX4_sink_47 ?_
        refine z_getRN C wu_X3 1 rfl 0 rfl rfl 11 (by decide) rfl wf_X4_49 dX4_sink_50 ?_
        refine z_iload_n C dX4_sink_53 rfl 1 rfl ?_
        refine z_iald C 1 rfl 7 0 rfl rfl dX4_sink_54 (by omega) (by decide) ?_
        refine z_top (y := nI (0)) (zU_self _ _ _ _) ?_
        refine z_if_neN C (tgt := 60) dX4_sink_55 (by decide) (by omega) (fun c_55 => ?_) (fun c_55 => ?_)
        · exact absurd c_55 (by omega)
        · refine z_iconst C (v := nI (0)) (by decide) dX4_sink_58 ?_
          rw [hQ]; exact z_zret C hr (by decide) dX4_sink_59 ⟨z_b0 (by first | exact decide_eq_true hu | exact decide_eq_false (by rw [hu]; decide)), congrArg (fun x => [(shM t a ta, (zU κ 0 (0) (nI (0)))), (shS a cI, x), (shS ta cI, τ)]) (by first | (rw [if_pos hu]; rfl) | (rw [if_neg (by rw [hu]; decide)]))⟩
    · exact absurd c_21 (by omega)
set_option maxHeartbeats 4000000 in
set_option maxRecDepth 100000 in
theorem c_X4_sink_b1 (l : Launch) (D : va_G) (cI cZ cJ : ClassId) (t : Nat) (a ta : Nat → Nat) (κ σ τ : zF) (n : Nat) (hI : fl_Iv n σ) (x : Int32) (hx : x < 0 ∨ nI n ≤ x) : zM l D (tyL cI cZ cJ) yX4_sink cX4_sink 2 (some .boolean) (zR 2 43) [.ref (t), .int (x)] [(shM t a ta, κ), (shS a cI, σ), (shS ta cI, τ)] 0 0 (fun r u => r = some (.int (nI (0))) ∧ u = [(shM t a ta, (zU κ 0 (0) (nI (1)))), (shS a cI, σ), (shS ta cI, τ)]) := by
  have hn3 := hI.n3
  have hn7 := hI.n7
  refine z_of (by decide) (Nat.le_of_ble_eq_true rfl) rfl ?_
  intro p e s m args below meth c A C hr hin
  obtain ⟨Q, hQ⟩ : ∃ Q, Q = MQ below (zQ (fun r u => r = some (.int (nI (0))) ∧ u = [(shM t a ta, (zU κ 0 (0) (nI (1)))), (shS a cI, σ), (shS ta cI, τ)]) D (tyL cI cZ cJ) A) args s 0 0 A := ⟨_, rfl⟩
  rw [← hQ]
  refine z_aload_n C dX4_sink_0 rfl 0 rfl ?_
  refine z_aload_n C dX4_sink_1 rfl 0 rfl ?_
  refine z_iload_n C dX4_sink_2 rfl 1 rfl ?_
  refine z_cV C (st' := [.int (nI (0)), .ref (t)]) (B' := [(shM t a ta, κ), (shS a cI, σ), (shS ta cI, τ)]) [true, true, true] rfl (c_X4_isBoat_no l D cI cZ cJ t a ta κ σ τ n hI x (hx)) wq_yX4_isBoat wm_X4_38 ⟨wn_yX4_isBoat, wo_yX4_isBoat⟩ ⟨rfl, rfl, Nat.le_of_ble_eq_true rfl, Nat.le_of_ble_eq_true rfl⟩ 0 rfl 0 rfl rfl rfl rfl (Nat.le_of_ble_eq_true rfl) dX4_sink_3 ⟨Nat.le_of_ble_eq_true rfl, Nat.le_of_ble_eq_true rfl⟩ rfl rfl ?_
  refine z_if_eqN C (tgt := 13) dX4_sink_6 (by decide) (by omega) (fun c_6 => ?_) (fun c_6 => ?_)
  · refine z_iconst C (v := nI (1)) (by decide) dX4_sink_13 ?_
    refine z_putI C (B' := [(shM t a ta, (zU κ 0 (0) (nI (1)))), (shS a cI, σ), (shS ta cI, τ)]) wu_X4 tyX4_ok nmX4 0 rfl 0 rfl rfl 0 (by decide) rfl wf_X4_19 rfl (by decide +kernel) dX4_sink_14 rfl ?_
    refine z_aload_n C dX4_sink_17 rfl 0 rfl ?_
    refine z_getI C wu_X4 0 rfl 0 rfl rfl 0 (by decide) rfl wf_X4_19 dX4_sink_18 ?_
    refine z_top (y := nI (1)) (zU_self _ _ _ _) ?_
    refine z_if_leN C (tgt := 26) dX4_sink_21 (by decide) (by omega) (fun c_21 => ?_) (fun c_21 => ?_)
    · exact absurd c_21 (by omega)
    · refine z_iconst C (v := nI (0)) (by decide) dX4_sink_24 ?_
      rw [hQ]; exact z_zret C hr (by decide) dX4_sink_25 ⟨rfl, rfl⟩
  · exact absurd c_6 (by omega)
set_option maxHeartbeats 4000000 in
set_option maxRecDepth 100000 in
theorem c_X4_write (l : Launch) (D : va_G) (cI cZ cJ : ClassId) (t : Nat) (a ta : Nat → Nat) (κ σ τ : zF) (n : Nat) (hI : fl_Iv n σ) (b : Nat) (f : Nat) (hb : b < n) (hf : f ≤ 99) (hl : fl_lead σ b = true) (hk : fl_ln σ b < 10) : zM l D (tyL cI cZ cJ) yX4_write cX4_write 3 (some .int) (zR 2 43) [.ref (t), .int (nI (b)), .int (nI (f))] [(shM t a ta, κ), (shS a cI, σ), (shS ta cI, τ)] 0 0 (fun r u => r = some (.int (nI (fl_ln σ b))) ∧ u = [(shM t a ta, (zU κ 0 (0) (nI (0)))), (shS a cI, (fl_app σ b (σ 3 b) (nI f))), (shS ta cI, τ)]) := by
  have hn3 := hI.n3
  have hn7 := hI.n7
  refine z_of (by decide) (Nat.le_of_ble_eq_true rfl) rfl ?_
  intro p e s m args below meth c A C hr hin
  obtain ⟨Q, hQ⟩ : ∃ Q, Q = MQ below (zQ (fun r u => r = some (.int (nI (fl_ln σ b))) ∧ u = [(shM t a ta, (zU κ 0 (0) (nI (0)))), (shS a cI, (fl_app σ b (σ 3 b) (nI f))), (shS ta cI, τ)]) D (tyL cI cZ cJ) A) args s 0 0 A := ⟨_, rfl⟩
  rw [← hQ]
  refine z_aload_n C dX4_write_0 rfl 0 rfl ?_
  refine z_iconst C (v := nI (0)) (by decide) dX4_write_1 ?_
  refine z_putI C (B' := [(shM t a ta, (zU κ 0 (0) (nI (0)))), (shS a cI, σ), (shS ta cI, τ)]) wu_X4 tyX4_ok nmX4 0 rfl 0 rfl rfl 0 (by decide) rfl wf_X4_19 rfl (by decide +kernel) dX4_write_2 rfl ?_
  refine z_aload_n C dX4_write_5 rfl 0 rfl ?_
  refine z_iload_n C dX4_write_6 rfl 1 rfl ?_
  refine z_cV C (st' := [.int (nI (1))]) (B' := [(shM t a ta, (zU κ 0 (0) (nI (0)))), (shS a cI, σ), (shS ta cI, τ)]) [true, true, true] rfl (c_X4_isBoat_ok l D cI cZ cJ t a ta (zU κ 0 (0) (nI (0))) σ τ n hI b (by omega)) wq_yX4_isBoat wm_X4_38 ⟨wn_yX4_isBoat, wo_yX4_isBoat⟩ ⟨rfl, rfl, Nat.le_of_ble_eq_true rfl, Nat.le_of_ble_eq_true rfl⟩ 0 rfl 0 rfl rfl rfl rfl (Nat.le_of_ble_eq_true rfl) dX4_write_7 ⟨Nat.le_of_ble_eq_true rfl, Nat.le_of_ble_eq_true rfl⟩ rfl rfl ?_
  refine z_if_neN C (tgt := 19) dX4_write_10 (by decide) (by omega) (fun c_10 => ?_) (fun c_10 => ?_)
  · refine z_iload_n C dX4_write_19 rfl 2 rfl ?_
    refine z_iconst C (v := nI (0)) (by decide) dX4_write_20 ?_
    refine z_bipush C (v := nI (99)) (by decide) dX4_write_21 ?_
    refine z_cS C (st' := [.int (nI (1))]) (B' := [(shM t a ta, (zU κ 0 (0) (nI (0)))), (shS a cI, σ), (shS ta cI, τ)]) [false, false, false] rfl (c_X4_isIn_ok l D cI cZ cJ (nI (f)) (nI (0)) (nI (99)) (nI_le2 (by omega) (by omega)) (nI_le2 (by omega) (by omega))) wq_yX4_isIn wm_X4_26 ws_yX4_isIn ⟨rfl, rfl, Nat.le_of_ble_eq_true rfl, Nat.le_of_ble_eq_true rfl⟩ rfl rfl (Nat.le_of_ble_eq_true rfl) dX4_write_23 ⟨Nat.le_of_ble_eq_true rfl, Nat.le_of_ble_eq_true rfl⟩ rfl rfl ?_
    refine z_if_neN C (tgt := 35) dX4_write_26 (by decide) (by omega) (fun c_26 => ?_) (fun c_26 => ?_)
    · refine z_aload_n C dX4_write_35 rfl 0 rfl ?_
      refine z_getR C wu_X4 0 rfl 0 rfl rfl 1 (by decide) rfl wf_X4_10 dX4_write_36 ?_
      refine z_iload_n C dX4_write_39 rfl 1 rfl ?_
      refine z_iconst C (v := nI (2)) (by decide) dX4_write_40 ?_
      refine z_cV C (st' := [.int (zb (fl_lead σ b))]) (B' := [(shM t a ta, (zU κ 0 (0) (nI (0)))), (shS a cI, σ), (shS ta cI, τ)]) [false, true, false] rfl (c_X3_isUp l D cI cZ cJ a σ n hI b 2 (by omega)) wq_yX3_isUp wm_X4_61 ⟨wn_yX3_isUp, wo_yX3_isUp⟩ ⟨rfl, rfl, Nat.le_of_ble_eq_true rfl, Nat.le_of_ble_eq_true rfl⟩ 1 rfl 0 rfl rfl rfl rfl (Nat.le_of_ble_eq_true rfl) dX4_write_41 ⟨Nat.le_of_ble_eq_true rfl, Nat.le_of_ble_eq_true rfl⟩ rfl rfl ?_
      refine z_if_eqB C (tgt := 61) dX4_write_44 (by decide) (fun c_44 => ?_) (fun c_44 => ?_)
      · exact absurd hl (by rw [c_44]; decide)
      · refine z_aload_n C dX4_write_47 rfl 0 rfl ?_
        refine z_getR C wu_X4 0 rfl 0 rfl rfl 1 (by decide) rfl wf_X4_10 dX4_write_48 ?_
        refine z_getRN C wu_X3 1 rfl 0 rfl rfl 12 (by decide) rfl wf_X4_65 dX4_write_51 ?_
        refine z_iload_n C dX4_write_54 rfl 1 rfl ?_
        refine z_iald C 1 rfl 8 0 rfl rfl dX4_write_55 (by omega) (by decide) ?_
        refine z_top (y := nI (fl_ln σ b)) (hI.ln (by omega)) ?_
        have hb_1 := hI.lnT (i := b) (by omega)
        refine z_bipush C (v := nI (10)) (by decide) dX4_write_56 ?_
        refine z_icmp_neN C (tgt := 67) dX4_write_58 (by decide) (by omega) (by omega) (fun c_58 => ?_) (fun c_58 => ?_)
        · refine z_aload_n C dX4_write_67 rfl 0 rfl ?_
          refine z_getR C wu_X4 0 rfl 0 rfl rfl 1 (by decide) rfl wf_X4_10 dX4_write_68 ?_
          refine z_iload_n C dX4_write_71 rfl 1 rfl ?_
          refine z_aload_n C dX4_write_72 rfl 0 rfl ?_
          refine z_getR C wu_X4 0 rfl 0 rfl rfl 1 (by decide) rfl wf_X4_10 dX4_write_73 ?_
          refine z_getRN C wu_X3 1 rfl 0 rfl rfl 7 (by decide) rfl wf_X4_68 dX4_write_76 ?_
          refine z_iload_n C dX4_write_79 rfl 1 rfl ?_
          refine z_iald C 1 rfl 3 0 rfl rfl dX4_write_80 (by omega) (by decide) ?_
          refine z_iload_n C dX4_write_81 rfl 2 rfl ?_
          have hi_2 : fl_Iv n (fl_app σ b (σ 3 (b)) (nI (f))) := fl_app_Iv hI _ _ _ (by omega)
          refine z_cV C (st' := []) (B' := [(shM t a ta, (zU κ 0 (0) (nI (0)))), (shS a cI, (fl_app σ b (σ 3 (b)) (nI (f)))), (shS ta cI, τ)]) [false, true, false] rfl (c_X3_add l D cI cZ cJ a σ n hI b (σ 3 (b)) (nI (f)) (by omega) (by omega)) wq_yX3_add wm_X4_71 ⟨wn_yX3_add, wo_yX3_add⟩ ⟨rfl, rfl, Nat.le_of_ble_eq_true rfl, Nat.le_of_ble_eq_true rfl⟩ 1 rfl 0 rfl rfl rfl rfl (Nat.le_of_ble_eq_true rfl) dX4_write_82 ⟨Nat.le_of_ble_eq_true rfl, Nat.le_of_ble_eq_true rfl⟩ rfl rfl ?_
          have hln := fl_app_ln (σ := σ) (b := b) (σ 3 b) (nI f) (by omega)
          refine z_aload_n C dX4_write_85 rfl 0 rfl ?_
          refine z_getR C wu_X4 0 rfl 0 rfl rfl 1 (by decide) rfl wf_X4_10 dX4_write_86 ?_
          refine z_getRN C wu_X3 1 rfl 0 rfl rfl 12 (by decide) rfl wf_X4_65 dX4_write_89 ?_
          refine z_iload_n C dX4_write_92 rfl 1 rfl ?_
          refine z_iald C 1 rfl 8 0 rfl rfl dX4_write_93 (by omega) (by decide) ?_
          refine z_top (y := nI (fl_ln ((fl_app σ b (σ 3 (b)) (nI (f)))) b)) (hi_2.ln (by omega)) ?_
          have hb_3 := hi_2.lnT (i := b) (by omega)
          refine z_iconst C (v := nI (1)) (by decide) dX4_write_94 ?_
          refine z_isubN C dX4_write_95 (by omega) ?_
          rw [hQ]; exact z_iret C hr dX4_write_96 ⟨congrArg (fun x => some (Value.int x)) (by exact congrArg nI (by rw [hln]; omega)), congrArg (fun x => [(shM t a ta, (zU κ 0 (0) (nI (0)))), (shS a cI, x), (shS ta cI, τ)]) (by rfl)⟩
        · exact absurd c_58 (by omega)
    · exact absurd c_26 (by omega)
  · exact absurd c_10 (by omega)
set_option maxHeartbeats 4000000 in
set_option maxRecDepth 100000 in
theorem c_X4_write_b1 (l : Launch) (D : va_G) (cI cZ cJ : ClassId) (t : Nat) (a ta : Nat → Nat) (κ σ τ : zF) (n : Nat) (hI : fl_Iv n σ) (x : Int32) (f : Int32) (hx : x < 0 ∨ nI n ≤ x) : zM l D (tyL cI cZ cJ) yX4_write cX4_write 3 (some .int) (zR 2 43) [.ref (t), .int (x), .int (f)] [(shM t a ta, κ), (shS a cI, σ), (shS ta cI, τ)] 0 0 (fun r u => r = some (.int (nI (0))) ∧ u = [(shM t a ta, (zU κ 0 (0) (nI (1)))), (shS a cI, σ), (shS ta cI, τ)]) := by
  have hn3 := hI.n3
  have hn7 := hI.n7
  refine z_of (by decide) (Nat.le_of_ble_eq_true rfl) rfl ?_
  intro p e s m args below meth c A C hr hin
  obtain ⟨Q, hQ⟩ : ∃ Q, Q = MQ below (zQ (fun r u => r = some (.int (nI (0))) ∧ u = [(shM t a ta, (zU κ 0 (0) (nI (1)))), (shS a cI, σ), (shS ta cI, τ)]) D (tyL cI cZ cJ) A) args s 0 0 A := ⟨_, rfl⟩
  rw [← hQ]
  refine z_aload_n C dX4_write_0 rfl 0 rfl ?_
  refine z_iconst C (v := nI (0)) (by decide) dX4_write_1 ?_
  refine z_putI C (B' := [(shM t a ta, (zU κ 0 (0) (nI (0)))), (shS a cI, σ), (shS ta cI, τ)]) wu_X4 tyX4_ok nmX4 0 rfl 0 rfl rfl 0 (by decide) rfl wf_X4_19 rfl (by decide +kernel) dX4_write_2 rfl ?_
  refine z_aload_n C dX4_write_5 rfl 0 rfl ?_
  refine z_iload_n C dX4_write_6 rfl 1 rfl ?_
  refine z_cV C (st' := [.int (nI (0))]) (B' := [(shM t a ta, (zU κ 0 (0) (nI (0)))), (shS a cI, σ), (shS ta cI, τ)]) [true, true, true] rfl (c_X4_isBoat_no l D cI cZ cJ t a ta (zU κ 0 (0) (nI (0))) σ τ n hI x (hx)) wq_yX4_isBoat wm_X4_38 ⟨wn_yX4_isBoat, wo_yX4_isBoat⟩ ⟨rfl, rfl, Nat.le_of_ble_eq_true rfl, Nat.le_of_ble_eq_true rfl⟩ 0 rfl 0 rfl rfl rfl rfl (Nat.le_of_ble_eq_true rfl) dX4_write_7 ⟨Nat.le_of_ble_eq_true rfl, Nat.le_of_ble_eq_true rfl⟩ rfl rfl ?_
  refine z_if_neN C (tgt := 19) dX4_write_10 (by decide) (by omega) (fun c_10 => ?_) (fun c_10 => ?_)
  · exact absurd c_10 (by omega)
  · refine z_aload_n C dX4_write_13 rfl 0 rfl ?_
    refine z_iconst C (v := nI (1)) (by decide) dX4_write_14 ?_
    refine z_cV C (st' := [.int (nI (0))]) (B' := [(shM t a ta, (zU (zU κ 0 (0) (nI (0))) 0 (0) (nI (1)))), (shS a cI, σ), (shS ta cI, τ)]) [true, true, true] rfl (c_X4_no l D cI cZ cJ t a ta (zU κ 0 (0) (nI (0))) σ τ n hI 1) wq_yX4_no wm_X4_30 ⟨wn_yX4_no, wo_yX4_no⟩ ⟨rfl, rfl, Nat.le_of_ble_eq_true rfl, Nat.le_of_ble_eq_true rfl⟩ 0 rfl 0 rfl rfl rfl rfl (Nat.le_of_ble_eq_true rfl) dX4_write_15 ⟨Nat.le_of_ble_eq_true rfl, Nat.le_of_ble_eq_true rfl⟩ rfl rfl ?_
    refine z_eq (B' := [(shM t a ta, (zU κ 0 (0) (nI (1)))), (shS a cI, σ), (shS ta cI, τ)]) (congrArg (fun x => [(shM t a ta, x), (shS a cI, σ), (shS ta cI, τ)]) (zU_tw _ _ _ _ _)) ?_
    rw [hQ]; exact z_iret C hr dX4_write_18 ⟨rfl, rfl⟩
set_option maxHeartbeats 4000000 in
set_option maxRecDepth 100000 in
theorem c_X4_write_b2 (l : Launch) (D : va_G) (cI cZ cJ : ClassId) (t : Nat) (a ta : Nat → Nat) (κ σ τ : zF) (n : Nat) (hI : fl_Iv n σ) (b : Nat) (x : Int32) (hb : b < n) (hx : x < 0 ∨ nI 99 < x) : zM l D (tyL cI cZ cJ) yX4_write cX4_write 3 (some .int) (zR 2 43) [.ref (t), .int (nI (b)), .int (x)] [(shM t a ta, κ), (shS a cI, σ), (shS ta cI, τ)] 0 0 (fun r u => r = some (.int (nI (0))) ∧ u = [(shM t a ta, (zU κ 0 (0) (nI (2)))), (shS a cI, σ), (shS ta cI, τ)]) := by
  have hn3 := hI.n3
  have hn7 := hI.n7
  refine z_of (by decide) (Nat.le_of_ble_eq_true rfl) rfl ?_
  intro p e s m args below meth c A C hr hin
  obtain ⟨Q, hQ⟩ : ∃ Q, Q = MQ below (zQ (fun r u => r = some (.int (nI (0))) ∧ u = [(shM t a ta, (zU κ 0 (0) (nI (2)))), (shS a cI, σ), (shS ta cI, τ)]) D (tyL cI cZ cJ) A) args s 0 0 A := ⟨_, rfl⟩
  rw [← hQ]
  refine z_aload_n C dX4_write_0 rfl 0 rfl ?_
  refine z_iconst C (v := nI (0)) (by decide) dX4_write_1 ?_
  refine z_putI C (B' := [(shM t a ta, (zU κ 0 (0) (nI (0)))), (shS a cI, σ), (shS ta cI, τ)]) wu_X4 tyX4_ok nmX4 0 rfl 0 rfl rfl 0 (by decide) rfl wf_X4_19 rfl (by decide +kernel) dX4_write_2 rfl ?_
  refine z_aload_n C dX4_write_5 rfl 0 rfl ?_
  refine z_iload_n C dX4_write_6 rfl 1 rfl ?_
  refine z_cV C (st' := [.int (nI (1))]) (B' := [(shM t a ta, (zU κ 0 (0) (nI (0)))), (shS a cI, σ), (shS ta cI, τ)]) [true, true, true] rfl (c_X4_isBoat_ok l D cI cZ cJ t a ta (zU κ 0 (0) (nI (0))) σ τ n hI b (by omega)) wq_yX4_isBoat wm_X4_38 ⟨wn_yX4_isBoat, wo_yX4_isBoat⟩ ⟨rfl, rfl, Nat.le_of_ble_eq_true rfl, Nat.le_of_ble_eq_true rfl⟩ 0 rfl 0 rfl rfl rfl rfl (Nat.le_of_ble_eq_true rfl) dX4_write_7 ⟨Nat.le_of_ble_eq_true rfl, Nat.le_of_ble_eq_true rfl⟩ rfl rfl ?_
  refine z_if_neN C (tgt := 19) dX4_write_10 (by decide) (by omega) (fun c_10 => ?_) (fun c_10 => ?_)
  · refine z_iload_n C dX4_write_19 rfl 2 rfl ?_
    refine z_iconst C (v := nI (0)) (by decide) dX4_write_20 ?_
    refine z_bipush C (v := nI (99)) (by decide) dX4_write_21 ?_
    refine z_cS C (st' := [.int (nI (0))]) (B' := [(shM t a ta, (zU κ 0 (0) (nI (0)))), (shS a cI, σ), (shS ta cI, τ)]) [false, false, false] rfl (c_X4_isIn_no l D cI cZ cJ x (nI (0)) (nI (99)) (hx)) wq_yX4_isIn wm_X4_26 ws_yX4_isIn ⟨rfl, rfl, Nat.le_of_ble_eq_true rfl, Nat.le_of_ble_eq_true rfl⟩ rfl rfl (Nat.le_of_ble_eq_true rfl) dX4_write_23 ⟨Nat.le_of_ble_eq_true rfl, Nat.le_of_ble_eq_true rfl⟩ rfl rfl ?_
    refine z_if_neN C (tgt := 35) dX4_write_26 (by decide) (by omega) (fun c_26 => ?_) (fun c_26 => ?_)
    · exact absurd c_26 (by omega)
    · refine z_aload_n C dX4_write_29 rfl 0 rfl ?_
      refine z_iconst C (v := nI (2)) (by decide) dX4_write_30 ?_
      refine z_cV C (st' := [.int (nI (0))]) (B' := [(shM t a ta, (zU (zU κ 0 (0) (nI (0))) 0 (0) (nI (2)))), (shS a cI, σ), (shS ta cI, τ)]) [true, true, true] rfl (c_X4_no l D cI cZ cJ t a ta (zU κ 0 (0) (nI (0))) σ τ n hI 2) wq_yX4_no wm_X4_30 ⟨wn_yX4_no, wo_yX4_no⟩ ⟨rfl, rfl, Nat.le_of_ble_eq_true rfl, Nat.le_of_ble_eq_true rfl⟩ 0 rfl 0 rfl rfl rfl rfl (Nat.le_of_ble_eq_true rfl) dX4_write_31 ⟨Nat.le_of_ble_eq_true rfl, Nat.le_of_ble_eq_true rfl⟩ rfl rfl ?_
      refine z_eq (B' := [(shM t a ta, (zU κ 0 (0) (nI (2)))), (shS a cI, σ), (shS ta cI, τ)]) (congrArg (fun x => [(shM t a ta, x), (shS a cI, σ), (shS ta cI, τ)]) (zU_tw _ _ _ _ _)) ?_
      rw [hQ]; exact z_iret C hr dX4_write_34 ⟨rfl, rfl⟩
  · exact absurd c_10 (by omega)
set_option maxHeartbeats 4000000 in
set_option maxRecDepth 100000 in
theorem c_X4_write_b3 (l : Launch) (D : va_G) (cI cZ cJ : ClassId) (t : Nat) (a ta : Nat → Nat) (κ σ τ : zF) (n : Nat) (hI : fl_Iv n σ) (b : Nat) (f : Nat) (hb : b < n) (hf : f ≤ 99) (hl : fl_lead σ b = false) : zM l D (tyL cI cZ cJ) yX4_write cX4_write 3 (some .int) (zR 2 43) [.ref (t), .int (nI (b)), .int (nI (f))] [(shM t a ta, κ), (shS a cI, σ), (shS ta cI, τ)] 0 0 (fun r u => r = some (.int (nI (0))) ∧ u = [(shM t a ta, (zU κ 0 (0) (nI (3)))), (shS a cI, σ), (shS ta cI, τ)]) := by
  have hn3 := hI.n3
  have hn7 := hI.n7
  refine z_of (by decide) (Nat.le_of_ble_eq_true rfl) rfl ?_
  intro p e s m args below meth c A C hr hin
  obtain ⟨Q, hQ⟩ : ∃ Q, Q = MQ below (zQ (fun r u => r = some (.int (nI (0))) ∧ u = [(shM t a ta, (zU κ 0 (0) (nI (3)))), (shS a cI, σ), (shS ta cI, τ)]) D (tyL cI cZ cJ) A) args s 0 0 A := ⟨_, rfl⟩
  rw [← hQ]
  refine z_aload_n C dX4_write_0 rfl 0 rfl ?_
  refine z_iconst C (v := nI (0)) (by decide) dX4_write_1 ?_
  refine z_putI C (B' := [(shM t a ta, (zU κ 0 (0) (nI (0)))), (shS a cI, σ), (shS ta cI, τ)]) wu_X4 tyX4_ok nmX4 0 rfl 0 rfl rfl 0 (by decide) rfl wf_X4_19 rfl (by decide +kernel) dX4_write_2 rfl ?_
  refine z_aload_n C dX4_write_5 rfl 0 rfl ?_
  refine z_iload_n C dX4_write_6 rfl 1 rfl ?_
  refine z_cV C (st' := [.int (nI (1))]) (B' := [(shM t a ta, (zU κ 0 (0) (nI (0)))), (shS a cI, σ), (shS ta cI, τ)]) [true, true, true] rfl (c_X4_isBoat_ok l D cI cZ cJ t a ta (zU κ 0 (0) (nI (0))) σ τ n hI b (by omega)) wq_yX4_isBoat wm_X4_38 ⟨wn_yX4_isBoat, wo_yX4_isBoat⟩ ⟨rfl, rfl, Nat.le_of_ble_eq_true rfl, Nat.le_of_ble_eq_true rfl⟩ 0 rfl 0 rfl rfl rfl rfl (Nat.le_of_ble_eq_true rfl) dX4_write_7 ⟨Nat.le_of_ble_eq_true rfl, Nat.le_of_ble_eq_true rfl⟩ rfl rfl ?_
  refine z_if_neN C (tgt := 19) dX4_write_10 (by decide) (by omega) (fun c_10 => ?_) (fun c_10 => ?_)
  · refine z_iload_n C dX4_write_19 rfl 2 rfl ?_
    refine z_iconst C (v := nI (0)) (by decide) dX4_write_20 ?_
    refine z_bipush C (v := nI (99)) (by decide) dX4_write_21 ?_
    refine z_cS C (st' := [.int (nI (1))]) (B' := [(shM t a ta, (zU κ 0 (0) (nI (0)))), (shS a cI, σ), (shS ta cI, τ)]) [false, false, false] rfl (c_X4_isIn_ok l D cI cZ cJ (nI (f)) (nI (0)) (nI (99)) (nI_le2 (by omega) (by omega)) (nI_le2 (by omega) (by omega))) wq_yX4_isIn wm_X4_26 ws_yX4_isIn ⟨rfl, rfl, Nat.le_of_ble_eq_true rfl, Nat.le_of_ble_eq_true rfl⟩ rfl rfl (Nat.le_of_ble_eq_true rfl) dX4_write_23 ⟨Nat.le_of_ble_eq_true rfl, Nat.le_of_ble_eq_true rfl⟩ rfl rfl ?_
    refine z_if_neN C (tgt := 35) dX4_write_26 (by decide) (by omega) (fun c_26 => ?_) (fun c_26 => ?_)
    · refine z_aload_n C dX4_write_35 rfl 0 rfl ?_
      refine z_getR C wu_X4 0 rfl 0 rfl rfl 1 (by decide) rfl wf_X4_10 dX4_write_36 ?_
      refine z_iload_n C dX4_write_39 rfl 1 rfl ?_
      refine z_iconst C (v := nI (2)) (by decide) dX4_write_40 ?_
      refine z_cV C (st' := [.int (zb (fl_lead σ b))]) (B' := [(shM t a ta, (zU κ 0 (0) (nI (0)))), (shS a cI, σ), (shS ta cI, τ)]) [false, true, false] rfl (c_X3_isUp l D cI cZ cJ a σ n hI b 2 (by omega)) wq_yX3_isUp wm_X4_61 ⟨wn_yX3_isUp, wo_yX3_isUp⟩ ⟨rfl, rfl, Nat.le_of_ble_eq_true rfl, Nat.le_of_ble_eq_true rfl⟩ 1 rfl 0 rfl rfl rfl rfl (Nat.le_of_ble_eq_true rfl) dX4_write_41 ⟨Nat.le_of_ble_eq_true rfl, Nat.le_of_ble_eq_true rfl⟩ rfl rfl ?_
      refine z_if_eqB C (tgt := 61) dX4_write_44 (by decide) (fun c_44 => ?_) (fun c_44 => ?_)
      · refine z_aload_n C dX4_write_61 rfl 0 rfl ?_
        refine z_iconst C (v := nI (3)) (by decide) dX4_write_62 ?_
        refine z_cV C (st' := [.int (nI (0))]) (B' := [(shM t a ta, (zU (zU κ 0 (0) (nI (0))) 0 (0) (nI (3)))), (shS a cI, σ), (shS ta cI, τ)]) [true, true, true] rfl (c_X4_no l D cI cZ cJ t a ta (zU κ 0 (0) (nI (0))) σ τ n hI 3) wq_yX4_no wm_X4_30 ⟨wn_yX4_no, wo_yX4_no⟩ ⟨rfl, rfl, Nat.le_of_ble_eq_true rfl, Nat.le_of_ble_eq_true rfl⟩ 0 rfl 0 rfl rfl rfl rfl (Nat.le_of_ble_eq_true rfl) dX4_write_63 ⟨Nat.le_of_ble_eq_true rfl, Nat.le_of_ble_eq_true rfl⟩ rfl rfl ?_
        refine z_eq (B' := [(shM t a ta, (zU κ 0 (0) (nI (3)))), (shS a cI, σ), (shS ta cI, τ)]) (congrArg (fun x => [(shM t a ta, x), (shS a cI, σ), (shS ta cI, τ)]) (zU_tw _ _ _ _ _)) ?_
        rw [hQ]; exact z_iret C hr dX4_write_66 ⟨rfl, rfl⟩
      · exact absurd hl (by rw [c_44]; decide)
    · exact absurd c_26 (by omega)
  · exact absurd c_10 (by omega)
set_option maxHeartbeats 4000000 in
set_option maxRecDepth 100000 in
theorem c_X4_write_b4 (l : Launch) (D : va_G) (cI cZ cJ : ClassId) (t : Nat) (a ta : Nat → Nat) (κ σ τ : zF) (n : Nat) (hI : fl_Iv n σ) (b : Nat) (f : Nat) (hb : b < n) (hf : f ≤ 99) (hl : fl_lead σ b = true) (hk : 10 ≤ fl_ln σ b) : zM l D (tyL cI cZ cJ) yX4_write cX4_write 3 (some .int) (zR 2 43) [.ref (t), .int (nI (b)), .int (nI (f))] [(shM t a ta, κ), (shS a cI, σ), (shS ta cI, τ)] 0 0 (fun r u => r = some (.int (nI (0))) ∧ u = [(shM t a ta, (zU κ 0 (0) (nI (3)))), (shS a cI, σ), (shS ta cI, τ)]) := by
  have hn3 := hI.n3
  have hn7 := hI.n7
  refine z_of (by decide) (Nat.le_of_ble_eq_true rfl) rfl ?_
  intro p e s m args below meth c A C hr hin
  obtain ⟨Q, hQ⟩ : ∃ Q, Q = MQ below (zQ (fun r u => r = some (.int (nI (0))) ∧ u = [(shM t a ta, (zU κ 0 (0) (nI (3)))), (shS a cI, σ), (shS ta cI, τ)]) D (tyL cI cZ cJ) A) args s 0 0 A := ⟨_, rfl⟩
  rw [← hQ]
  refine z_aload_n C dX4_write_0 rfl 0 rfl ?_
  refine z_iconst C (v := nI (0)) (by decide) dX4_write_1 ?_
  refine z_putI C (B' := [(shM t a ta, (zU κ 0 (0) (nI (0)))), (shS a cI, σ), (shS ta cI, τ)]) wu_X4 tyX4_ok nmX4 0 rfl 0 rfl rfl 0 (by decide) rfl wf_X4_19 rfl (by decide +kernel) dX4_write_2 rfl ?_
  refine z_aload_n C dX4_write_5 rfl 0 rfl ?_
  refine z_iload_n C dX4_write_6 rfl 1 rfl ?_
  refine z_cV C (st' := [.int (nI (1))]) (B' := [(shM t a ta, (zU κ 0 (0) (nI (0)))), (shS a cI, σ), (shS ta cI, τ)]) [true, true, true] rfl (c_X4_isBoat_ok l D cI cZ cJ t a ta (zU κ 0 (0) (nI (0))) σ τ n hI b (by omega)) wq_yX4_isBoat wm_X4_38 ⟨wn_yX4_isBoat, wo_yX4_isBoat⟩ ⟨rfl, rfl, Nat.le_of_ble_eq_true rfl, Nat.le_of_ble_eq_true rfl⟩ 0 rfl 0 rfl rfl rfl rfl (Nat.le_of_ble_eq_true rfl) dX4_write_7 ⟨Nat.le_of_ble_eq_true rfl, Nat.le_of_ble_eq_true rfl⟩ rfl rfl ?_
  refine z_if_neN C (tgt := 19) dX4_write_10 (by decide) (by omega) (fun c_10 => ?_) (fun c_10 => ?_)
  · refine z_iload_n C dX4_write_19 rfl 2 rfl ?_
    refine z_iconst C (v := nI (0)) (by decide) dX4_write_20 ?_
    refine z_bipush C (v := nI (99)) (by decide) dX4_write_21 ?_
    refine z_cS C (st' := [.int (nI (1))]) (B' := [(shM t a ta, (zU κ 0 (0) (nI (0)))), (shS a cI, σ), (shS ta cI, τ)]) [false, false, false] rfl (c_X4_isIn_ok l D cI cZ cJ (nI (f)) (nI (0)) (nI (99)) (nI_le2 (by omega) (by omega)) (nI_le2 (by omega) (by omega))) wq_yX4_isIn wm_X4_26 ws_yX4_isIn ⟨rfl, rfl, Nat.le_of_ble_eq_true rfl, Nat.le_of_ble_eq_true rfl⟩ rfl rfl (Nat.le_of_ble_eq_true rfl) dX4_write_23 ⟨Nat.le_of_ble_eq_true rfl, Nat.le_of_ble_eq_true rfl⟩ rfl rfl ?_
    refine z_if_neN C (tgt := 35) dX4_write_26 (by decide) (by omega) (fun c_26 => ?_) (fun c_26 => ?_)
    · refine z_aload_n C dX4_write_35 rfl 0 rfl ?_
      refine z_getR C wu_X4 0 rfl 0 rfl rfl 1 (by decide) rfl wf_X4_10 dX4_write_36 ?_
      refine z_iload_n C dX4_write_39 rfl 1 rfl ?_
      refine z_iconst C (v := nI (2)) (by decide) dX4_write_40 ?_
      refine z_cV C (st' := [.int (zb (fl_lead σ b))]) (B' := [(shM t a ta, (zU κ 0 (0) (nI (0)))), (shS a cI, σ), (shS ta cI, τ)]) [false, true, false] rfl (c_X3_isUp l D cI cZ cJ a σ n hI b 2 (by omega)) wq_yX3_isUp wm_X4_61 ⟨wn_yX3_isUp, wo_yX3_isUp⟩ ⟨rfl, rfl, Nat.le_of_ble_eq_true rfl, Nat.le_of_ble_eq_true rfl⟩ 1 rfl 0 rfl rfl rfl rfl (Nat.le_of_ble_eq_true rfl) dX4_write_41 ⟨Nat.le_of_ble_eq_true rfl, Nat.le_of_ble_eq_true rfl⟩ rfl rfl ?_
      refine z_if_eqB C (tgt := 61) dX4_write_44 (by decide) (fun c_44 => ?_) (fun c_44 => ?_)
      · exact absurd hl (by rw [c_44]; decide)
      · refine z_aload_n C dX4_write_47 rfl 0 rfl ?_
        refine z_getR C wu_X4 0 rfl 0 rfl rfl 1 (by decide) rfl wf_X4_10 dX4_write_48 ?_
        refine z_getRN C wu_X3 1 rfl 0 rfl rfl 12 (by decide) rfl wf_X4_65 dX4_write_51 ?_
        refine z_iload_n C dX4_write_54 rfl 1 rfl ?_
        refine z_iald C 1 rfl 8 0 rfl rfl dX4_write_55 (by omega) (by decide) ?_
        refine z_top (y := nI (fl_ln σ b)) (hI.ln (by omega)) ?_
        have hb_1 := hI.lnT (i := b) (by omega)
        refine z_bipush C (v := nI (10)) (by decide) dX4_write_56 ?_
        refine z_icmp_neN C (tgt := 67) dX4_write_58 (by decide) (by omega) (by omega) (fun c_58 => ?_) (fun c_58 => ?_)
        · exact absurd c_58 (by omega)
        · refine z_aload_n C dX4_write_61 rfl 0 rfl ?_
          refine z_iconst C (v := nI (3)) (by decide) dX4_write_62 ?_
          refine z_cV C (st' := [.int (nI (0))]) (B' := [(shM t a ta, (zU (zU κ 0 (0) (nI (0))) 0 (0) (nI (3)))), (shS a cI, σ), (shS ta cI, τ)]) [true, true, true] rfl (c_X4_no l D cI cZ cJ t a ta (zU κ 0 (0) (nI (0))) σ τ n hI 3) wq_yX4_no wm_X4_30 ⟨wn_yX4_no, wo_yX4_no⟩ ⟨rfl, rfl, Nat.le_of_ble_eq_true rfl, Nat.le_of_ble_eq_true rfl⟩ 0 rfl 0 rfl rfl rfl rfl (Nat.le_of_ble_eq_true rfl) dX4_write_63 ⟨Nat.le_of_ble_eq_true rfl, Nat.le_of_ble_eq_true rfl⟩ rfl rfl ?_
          refine z_eq (B' := [(shM t a ta, (zU κ 0 (0) (nI (3)))), (shS a cI, σ), (shS ta cI, τ)]) (congrArg (fun x => [(shM t a ta, x), (shS a cI, σ), (shS ta cI, τ)]) (zU_tw _ _ _ _ _)) ?_
          rw [hQ]; exact z_iret C hr dX4_write_66 ⟨rfl, rfl⟩
    · exact absurd c_26 (by omega)
  · exact absurd c_10 (by omega)
set_option maxHeartbeats 4000000 in
set_option maxRecDepth 100000 in
theorem c_X4_pass (l : Launch) (D : va_G) (cI cZ cJ : ClassId) (t : Nat) (a ta : Nat → Nat) (κ σ τ : zF) (n : Nat) (hI : fl_Iv n σ) (h : Nat) (h1 : 1 ≤ h) (h50 : h ≤ 50) : zM l D (tyL cI cZ cJ) yX4_pass cX4_pass 3 (some .int) (zR 5 111) [.ref (t), .int (nI (h))] [(shM t a ta, κ), (shS a cI, σ), (shS ta cI, τ)] 0 0 (fun r u => r = some (.int ((fl_hours n h σ) 0 (3) - σ 0 (3))) ∧ u = [(shM t a ta, (zU κ 0 (0) (nI (0)))), (shS a cI, (fl_hours n h σ)), (shS ta cI, τ)]) := by
  have hn3 := hI.n3
  have hn7 := hI.n7
  refine z_of (by decide) (Nat.le_of_ble_eq_true rfl) rfl ?_
  intro p e s m args below meth c A C hr hin
  obtain ⟨Q, hQ⟩ : ∃ Q, Q = MQ below (zQ (fun r u => r = some (.int ((fl_hours n h σ) 0 (3) - σ 0 (3))) ∧ u = [(shM t a ta, (zU κ 0 (0) (nI (0)))), (shS a cI, (fl_hours n h σ)), (shS ta cI, τ)]) D (tyL cI cZ cJ) A) args s 0 0 A := ⟨_, rfl⟩
  rw [← hQ]
  refine z_aload_n C dX4_pass_0 rfl 0 rfl ?_
  refine z_iconst C (v := nI (0)) (by decide) dX4_pass_1 ?_
  refine z_putI C (B' := [(shM t a ta, (zU κ 0 (0) (nI (0)))), (shS a cI, σ), (shS ta cI, τ)]) wu_X4 tyX4_ok nmX4 0 rfl 0 rfl rfl 0 (by decide) rfl wf_X4_19 rfl (by decide +kernel) dX4_pass_2 rfl ?_
  refine z_iload_n C dX4_pass_5 rfl 1 rfl ?_
  refine z_iconst C (v := nI (1)) (by decide) dX4_pass_6 ?_
  refine z_bipush C (v := nI (50)) (by decide) dX4_pass_7 ?_
  refine z_cS C (st' := [.int (nI (1))]) (B' := [(shM t a ta, (zU κ 0 (0) (nI (0)))), (shS a cI, σ), (shS ta cI, τ)]) [false, false, false] rfl (c_X4_isIn_ok l D cI cZ cJ (nI (h)) (nI (1)) (nI (50)) (nI_le2 (by omega) (by omega)) (nI_le2 (by omega) (by omega))) wq_yX4_isIn wm_X4_26 ws_yX4_isIn ⟨rfl, rfl, Nat.le_of_ble_eq_true rfl, Nat.le_of_ble_eq_true rfl⟩ rfl rfl (Nat.le_of_ble_eq_true rfl) dX4_pass_9 ⟨Nat.le_of_ble_eq_true rfl, Nat.le_of_ble_eq_true rfl⟩ rfl rfl ?_
  refine z_if_neN C (tgt := 21) dX4_pass_12 (by decide) (by omega) (fun c_12 => ?_) (fun c_12 => ?_)
  · refine z_aload_n C dX4_pass_21 rfl 0 rfl ?_
    refine z_getR C wu_X4 0 rfl 0 rfl rfl 1 (by decide) rfl wf_X4_10 dX4_pass_22 ?_
    refine z_getIN C wu_X3 1 rfl 0 rfl rfl 3 (by decide) rfl wf_X4_75 dX4_pass_25 ?_
    refine z_istore_n C (L' := [(2, .int (σ 0 (3))), (0, .ref (t)), (1, .int (nI (h)))]) dX4_pass_28 rfl (by decide) rfl ?_
    refine z_aload_n C dX4_pass_29 rfl 1 rfl ?_
    refine z_getR C wu_X4 0 rfl 0 rfl rfl 1 (by decide) rfl wf_X4_10 dX4_pass_30 ?_
    refine z_iload_n C dX4_pass_33 rfl 2 rfl ?_
    have hi_1 : fl_Iv n (fl_hours n h σ) := fl_hours_Iv hI _
    refine z_cV C (st' := []) (B' := [(shM t a ta, (zU κ 0 (0) (nI (0)))), (shS a cI, (fl_hours n h σ)), (shS ta cI, τ)]) [false, true, false] rfl (c_X3_passOn l D cI cZ cJ a σ n hI h (by omega)) wq_yX3_passOn wm_X4_78 ⟨wn_yX3_passOn, wo_yX3_passOn⟩ ⟨rfl, rfl, Nat.le_of_ble_eq_true rfl, Nat.le_of_ble_eq_true rfl⟩ 1 rfl 0 rfl rfl rfl rfl (Nat.le_of_ble_eq_true rfl) dX4_pass_34 ⟨Nat.le_of_ble_eq_true rfl, Nat.le_of_ble_eq_true rfl⟩ rfl rfl ?_
    refine z_aload_n C dX4_pass_37 rfl 1 rfl ?_
    refine z_getR C wu_X4 0 rfl 0 rfl rfl 1 (by decide) rfl wf_X4_10 dX4_pass_38 ?_
    refine z_getIN C wu_X3 1 rfl 0 rfl rfl 3 (by decide) rfl wf_X4_75 dX4_pass_41 ?_
    refine z_iload_n C dX4_pass_44 rfl 0 rfl ?_
    refine z_isub C dX4_pass_45 ?_
    rw [hQ]; exact z_iret C hr dX4_pass_46 ⟨rfl, rfl⟩
  · exact absurd c_12 (by omega)
set_option maxHeartbeats 4000000 in
set_option maxRecDepth 100000 in
theorem c_X4_pass_b1 (l : Launch) (D : va_G) (cI cZ cJ : ClassId) (t : Nat) (a ta : Nat → Nat) (κ σ τ : zF) (n : Nat) (hI : fl_Iv n σ) (x : Int32) (hx : x < nI 1 ∨ nI 50 < x) : zM l D (tyL cI cZ cJ) yX4_pass cX4_pass 3 (some .int) (zR 5 111) [.ref (t), .int (x)] [(shM t a ta, κ), (shS a cI, σ), (shS ta cI, τ)] 0 0 (fun r u => r = some (.int (nI (0))) ∧ u = [(shM t a ta, (zU κ 0 (0) (nI (1)))), (shS a cI, σ), (shS ta cI, τ)]) := by
  have hn3 := hI.n3
  have hn7 := hI.n7
  refine z_of (by decide) (Nat.le_of_ble_eq_true rfl) rfl ?_
  intro p e s m args below meth c A C hr hin
  obtain ⟨Q, hQ⟩ : ∃ Q, Q = MQ below (zQ (fun r u => r = some (.int (nI (0))) ∧ u = [(shM t a ta, (zU κ 0 (0) (nI (1)))), (shS a cI, σ), (shS ta cI, τ)]) D (tyL cI cZ cJ) A) args s 0 0 A := ⟨_, rfl⟩
  rw [← hQ]
  refine z_aload_n C dX4_pass_0 rfl 0 rfl ?_
  refine z_iconst C (v := nI (0)) (by decide) dX4_pass_1 ?_
  refine z_putI C (B' := [(shM t a ta, (zU κ 0 (0) (nI (0)))), (shS a cI, σ), (shS ta cI, τ)]) wu_X4 tyX4_ok nmX4 0 rfl 0 rfl rfl 0 (by decide) rfl wf_X4_19 rfl (by decide +kernel) dX4_pass_2 rfl ?_
  refine z_iload_n C dX4_pass_5 rfl 1 rfl ?_
  refine z_iconst C (v := nI (1)) (by decide) dX4_pass_6 ?_
  refine z_bipush C (v := nI (50)) (by decide) dX4_pass_7 ?_
  refine z_cS C (st' := [.int (nI (0))]) (B' := [(shM t a ta, (zU κ 0 (0) (nI (0)))), (shS a cI, σ), (shS ta cI, τ)]) [false, false, false] rfl (c_X4_isIn_no l D cI cZ cJ x (nI (1)) (nI (50)) (hx)) wq_yX4_isIn wm_X4_26 ws_yX4_isIn ⟨rfl, rfl, Nat.le_of_ble_eq_true rfl, Nat.le_of_ble_eq_true rfl⟩ rfl rfl (Nat.le_of_ble_eq_true rfl) dX4_pass_9 ⟨Nat.le_of_ble_eq_true rfl, Nat.le_of_ble_eq_true rfl⟩ rfl rfl ?_
  refine z_if_neN C (tgt := 21) dX4_pass_12 (by decide) (by omega) (fun c_12 => ?_) (fun c_12 => ?_)
  · exact absurd c_12 (by omega)
  · refine z_aload_n C dX4_pass_15 rfl 0 rfl ?_
    refine z_iconst C (v := nI (1)) (by decide) dX4_pass_16 ?_
    refine z_cV C (st' := [.int (nI (0))]) (B' := [(shM t a ta, (zU (zU κ 0 (0) (nI (0))) 0 (0) (nI (1)))), (shS a cI, σ), (shS ta cI, τ)]) [true, true, true] rfl (c_X4_no l D cI cZ cJ t a ta (zU κ 0 (0) (nI (0))) σ τ n hI 1) wq_yX4_no wm_X4_30 ⟨wn_yX4_no, wo_yX4_no⟩ ⟨rfl, rfl, Nat.le_of_ble_eq_true rfl, Nat.le_of_ble_eq_true rfl⟩ 0 rfl 0 rfl rfl rfl rfl (Nat.le_of_ble_eq_true rfl) dX4_pass_17 ⟨Nat.le_of_ble_eq_true rfl, Nat.le_of_ble_eq_true rfl⟩ rfl rfl ?_
    refine z_eq (B' := [(shM t a ta, (zU κ 0 (0) (nI (1)))), (shS a cI, σ), (shS ta cI, τ)]) (congrArg (fun x => [(shM t a ta, x), (shS a cI, σ), (shS ta cI, τ)]) (zU_tw _ _ _ _ _)) ?_
    rw [hQ]; exact z_iret C hr dX4_pass_20 ⟨rfl, rfl⟩
set_option maxHeartbeats 4000000 in
set_option maxRecDepth 100000 in
theorem c_X4_boatTold (l : Launch) (D : va_G) (cI cZ cJ : ClassId) (t : Nat) (a ta : Nat → Nat) (κ σ τ : zF) (n : Nat) (hI : fl_Iv n σ) (b : Nat) (w : Nat) (hb : b < n) (hw : w < 10) : zM l D (tyL cI cZ cJ) yX4_boatTold cX4_boatTold 3 (some .int) (zR 1 21) [.ref (t), .int (nI (b)), .int (nI (w))] [(shM t a ta, κ), (shS a cI, σ), (shS ta cI, τ)] 0 0 (fun r u => r = some (.int (fl_ofB σ b w)) ∧ u = [(shM t a ta, κ), (shS a cI, σ), (shS ta cI, τ)]) := by
  have hn3 := hI.n3
  have hn7 := hI.n7
  refine z_of (by decide) (Nat.le_of_ble_eq_true rfl) rfl ?_
  intro p e s m args below meth c A C hr hin
  obtain ⟨Q, hQ⟩ : ∃ Q, Q = MQ below (zQ (fun r u => r = some (.int (fl_ofB σ b w)) ∧ u = [(shM t a ta, κ), (shS a cI, σ), (shS ta cI, τ)]) D (tyL cI cZ cJ) A) args s 0 0 A := ⟨_, rfl⟩
  rw [← hQ]
  refine z_iload_n C dX4_boatTold_0 rfl 2 rfl ?_
  rcases (show w = 0 ∨ w = 1 ∨ w = 2 ∨ w = 3 ∨ w = 4 ∨ w = 5 ∨ w = 6 ∨ w = 7 ∨ w = 8 ∨ w = 9 by omega) with rfl | rfl | rfl | rfl | rfl | rfl | rfl | rfl | rfl | rfl
  · refine z_tabI C (tgt := 52) dX4_boatTold_1 (by decide) (by decide) rfl (by decide) ?_
    refine z_aload_n C dX4_boatTold_52 rfl 0 rfl ?_
    refine z_getR C wu_X4 0 rfl 0 rfl rfl 1 (by decide) rfl wf_X4_10 dX4_boatTold_53 ?_
    refine z_getRN C wu_X3 1 rfl 0 rfl rfl 7 (by decide) rfl wf_X4_68 dX4_boatTold_56 ?_
    refine z_iload_n C dX4_boatTold_59 rfl 1 rfl ?_
    refine z_iald C 1 rfl 3 0 rfl rfl dX4_boatTold_60 (by omega) (by decide) ?_
    rw [hQ]; exact z_iret C hr dX4_boatTold_61 ⟨congrArg (fun x => some (Value.int x)) (by first | rfl | exact (hI.ln hb).symm | exact (hI.kn hb).symm | (show σ 7 b = zb (decide (¬ σ 7 b = 0)); rcases hI.up hb with h | h <;> rw [h] <;> decide)), rfl⟩
  · refine z_tabI C (tgt := 62) dX4_boatTold_1 (by decide) (by decide) rfl (by decide) ?_
    refine z_aload_n C dX4_boatTold_62 rfl 0 rfl ?_
    refine z_getR C wu_X4 0 rfl 0 rfl rfl 1 (by decide) rfl wf_X4_10 dX4_boatTold_63 ?_
    refine z_getRN C wu_X3 1 rfl 0 rfl rfl 8 (by decide) rfl wf_X4_81 dX4_boatTold_66 ?_
    refine z_iload_n C dX4_boatTold_69 rfl 1 rfl ?_
    refine z_iald C 1 rfl 4 0 rfl rfl dX4_boatTold_70 (by omega) (by decide) ?_
    rw [hQ]; exact z_iret C hr dX4_boatTold_71 ⟨congrArg (fun x => some (Value.int x)) (by first | rfl | exact (hI.ln hb).symm | exact (hI.kn hb).symm | (show σ 7 b = zb (decide (¬ σ 7 b = 0)); rcases hI.up hb with h | h <;> rw [h] <;> decide)), rfl⟩
  · refine z_tabI C (tgt := 72) dX4_boatTold_1 (by decide) (by decide) rfl (by decide) ?_
    refine z_aload_n C dX4_boatTold_72 rfl 0 rfl ?_
    refine z_getR C wu_X4 0 rfl 0 rfl rfl 1 (by decide) rfl wf_X4_10 dX4_boatTold_73 ?_
    refine z_getRN C wu_X3 1 rfl 0 rfl rfl 9 (by decide) rfl wf_X4_52 dX4_boatTold_76 ?_
    refine z_iload_n C dX4_boatTold_79 rfl 1 rfl ?_
    refine z_iald C 1 rfl 5 0 rfl rfl dX4_boatTold_80 (by omega) (by decide) ?_
    rw [hQ]; exact z_iret C hr dX4_boatTold_81 ⟨congrArg (fun x => some (Value.int x)) (by first | rfl | exact (hI.ln hb).symm | exact (hI.kn hb).symm | (show σ 7 b = zb (decide (¬ σ 7 b = 0)); rcases hI.up hb with h | h <;> rw [h] <;> decide)), rfl⟩
  · refine z_tabI C (tgt := 82) dX4_boatTold_1 (by decide) (by decide) rfl (by decide) ?_
    refine z_aload_n C dX4_boatTold_82 rfl 0 rfl ?_
    refine z_getR C wu_X4 0 rfl 0 rfl rfl 1 (by decide) rfl wf_X4_10 dX4_boatTold_83 ?_
    refine z_getRN C wu_X3 1 rfl 0 rfl rfl 10 (by decide) rfl wf_X4_46 dX4_boatTold_86 ?_
    refine z_iload_n C dX4_boatTold_89 rfl 1 rfl ?_
    refine z_iald C 1 rfl 6 0 rfl rfl dX4_boatTold_90 (by omega) (by decide) ?_
    rw [hQ]; exact z_iret C hr dX4_boatTold_91 ⟨congrArg (fun x => some (Value.int x)) (by first | rfl | exact (hI.ln hb).symm | exact (hI.kn hb).symm | (show σ 7 b = zb (decide (¬ σ 7 b = 0)); rcases hI.up hb with h | h <;> rw [h] <;> decide)), rfl⟩
  · refine z_tabI C (tgt := 92) dX4_boatTold_1 (by decide) (by decide) rfl (by decide) ?_
    refine z_aload_n C dX4_boatTold_92 rfl 0 rfl ?_
    refine z_getR C wu_X4 0 rfl 0 rfl rfl 1 (by decide) rfl wf_X4_10 dX4_boatTold_93 ?_
    refine z_getRN C wu_X3 1 rfl 0 rfl rfl 11 (by decide) rfl wf_X4_49 dX4_boatTold_96 ?_
    refine z_iload_n C dX4_boatTold_99 rfl 1 rfl ?_
    refine z_iald C 1 rfl 7 0 rfl rfl dX4_boatTold_100 (by omega) (by decide) ?_
    rw [hQ]; exact z_iret C hr dX4_boatTold_101 ⟨congrArg (fun x => some (Value.int x)) (by first | rfl | exact (hI.ln hb).symm | exact (hI.kn hb).symm | (show σ 7 b = zb (decide (¬ σ 7 b = 0)); rcases hI.up hb with h | h <;> rw [h] <;> decide)), rfl⟩
  · refine z_tabI C (tgt := 102) dX4_boatTold_1 (by decide) (by decide) rfl (by decide) ?_
    refine z_aload_n C dX4_boatTold_102 rfl 0 rfl ?_
    refine z_getR C wu_X4 0 rfl 0 rfl rfl 1 (by decide) rfl wf_X4_10 dX4_boatTold_103 ?_
    refine z_getRN C wu_X3 1 rfl 0 rfl rfl 5 (by decide) rfl wf_X4_42 dX4_boatTold_106 ?_
    refine z_iload_n C dX4_boatTold_109 rfl 1 rfl ?_
    refine z_iald C 1 rfl 1 0 rfl rfl dX4_boatTold_110 (by omega) (by decide) ?_
    rw [hQ]; exact z_iret C hr dX4_boatTold_111 ⟨congrArg (fun x => some (Value.int x)) (by first | rfl | exact (hI.ln hb).symm | exact (hI.kn hb).symm | (show σ 7 b = zb (decide (¬ σ 7 b = 0)); rcases hI.up hb with h | h <;> rw [h] <;> decide)), rfl⟩
  · refine z_tabI C (tgt := 112) dX4_boatTold_1 (by decide) (by decide) rfl (by decide) ?_
    refine z_aload_n C dX4_boatTold_112 rfl 0 rfl ?_
    refine z_getR C wu_X4 0 rfl 0 rfl rfl 1 (by decide) rfl wf_X4_10 dX4_boatTold_113 ?_
    refine z_getRN C wu_X3 1 rfl 0 rfl rfl 6 (by decide) rfl wf_X4_55 dX4_boatTold_116 ?_
    refine z_iload_n C dX4_boatTold_119 rfl 1 rfl ?_
    refine z_iald C 1 rfl 2 0 rfl rfl dX4_boatTold_120 (by omega) (by decide) ?_
    rw [hQ]; exact z_iret C hr dX4_boatTold_121 ⟨congrArg (fun x => some (Value.int x)) (by first | rfl | exact (hI.ln hb).symm | exact (hI.kn hb).symm | (show σ 7 b = zb (decide (¬ σ 7 b = 0)); rcases hI.up hb with h | h <;> rw [h] <;> decide)), rfl⟩
  · refine z_tabI C (tgt := 122) dX4_boatTold_1 (by decide) (by decide) rfl (by decide) ?_
    refine z_aload_n C dX4_boatTold_122 rfl 0 rfl ?_
    refine z_getR C wu_X4 0 rfl 0 rfl rfl 1 (by decide) rfl wf_X4_10 dX4_boatTold_123 ?_
    refine z_getRN C wu_X3 1 rfl 0 rfl rfl 12 (by decide) rfl wf_X4_65 dX4_boatTold_126 ?_
    refine z_iload_n C dX4_boatTold_129 rfl 1 rfl ?_
    refine z_iald C 1 rfl 8 0 rfl rfl dX4_boatTold_130 (by omega) (by decide) ?_
    refine z_top (y := nI (fl_ln σ b)) (hI.ln (by omega)) ?_
    have hb_1 := hI.lnT (i := b) (by omega)
    rw [hQ]; exact z_iret C hr dX4_boatTold_131 ⟨congrArg (fun x => some (Value.int x)) (by first | rfl | exact (hI.ln hb).symm | exact (hI.kn hb).symm | (show σ 7 b = zb (decide (¬ σ 7 b = 0)); rcases hI.up hb with h | h <;> rw [h] <;> decide)), rfl⟩
  · refine z_tabI C (tgt := 132) dX4_boatTold_1 (by decide) (by decide) rfl (by decide) ?_
    refine z_aload_n C dX4_boatTold_132 rfl 0 rfl ?_
    refine z_getR C wu_X4 0 rfl 0 rfl rfl 1 (by decide) rfl wf_X4_10 dX4_boatTold_133 ?_
    refine z_getRN C wu_X3 1 rfl 0 rfl rfl 13 (by decide) rfl wf_X4_58 dX4_boatTold_136 ?_
    refine z_iload_n C dX4_boatTold_139 rfl 1 rfl ?_
    refine z_iald C 1 rfl 9 0 rfl rfl dX4_boatTold_140 (by omega) (by decide) ?_
    refine z_top (y := nI (fl_kn σ b)) (hI.kn (by omega)) ?_
    have hb_2 := hI.knT (i := b) (by omega)
    rw [hQ]; exact z_iret C hr dX4_boatTold_141 ⟨congrArg (fun x => some (Value.int x)) (by first | rfl | exact (hI.ln hb).symm | exact (hI.kn hb).symm | (show σ 7 b = zb (decide (¬ σ 7 b = 0)); rcases hI.up hb with h | h <;> rw [h] <;> decide)), rfl⟩
  · refine z_tabO C (tgt := 142) dX4_boatTold_1 (by decide) (by decide) ?_
    refine z_aload_n C dX4_boatTold_142 rfl 0 rfl ?_
    refine z_getR C wu_X4 0 rfl 0 rfl rfl 1 (by decide) rfl wf_X4_10 dX4_boatTold_143 ?_
    refine z_iload_n C dX4_boatTold_146 rfl 1 rfl ?_
    refine z_cV C (st' := [.int (fl_last σ b)]) (B' := [(shM t a ta, κ), (shS a cI, σ), (shS ta cI, τ)]) [false, true, false] rfl (c_X3_lastTerm l D cI cZ cJ a σ n hI b (by omega)) wq_yX3_lastTerm wm_X4_84 ⟨wn_yX3_lastTerm, wo_yX3_lastTerm⟩ ⟨rfl, rfl, Nat.le_of_ble_eq_true rfl, Nat.le_of_ble_eq_true rfl⟩ 1 rfl 0 rfl rfl rfl rfl (Nat.le_of_ble_eq_true rfl) dX4_boatTold_147 ⟨Nat.le_of_ble_eq_true rfl, Nat.le_of_ble_eq_true rfl⟩ rfl rfl ?_
    rw [hQ]; exact z_iret C hr dX4_boatTold_150 ⟨congrArg (fun x => some (Value.int x)) (by first | rfl | exact (hI.ln hb).symm | exact (hI.kn hb).symm | (show σ 7 b = zb (decide (¬ σ 7 b = 0)); rcases hI.up hb with h | h <;> rw [h] <;> decide)), rfl⟩
set_option maxHeartbeats 4000000 in
set_option maxRecDepth 100000 in
theorem c_X4_told (l : Launch) (D : va_G) (cI cZ cJ : ClassId) (t : Nat) (a ta : Nat → Nat) (κ σ τ : zF) (n : Nat) (hI : fl_Iv n σ) (b : Nat) (w : Nat) (hb : b < n) (hw : w < 10) : zM l D (tyL cI cZ cJ) yX4_told cX4_told 3 (some .int) (zR 2 43) [.ref (t), .int (nI (b)), .int (nI (w))] [(shM t a ta, κ), (shS a cI, σ), (shS ta cI, τ)] 0 0 (fun r u => r = some (.int (fl_ofB σ b w)) ∧ u = [(shM t a ta, (zU κ 0 (0) (nI (0)))), (shS a cI, σ), (shS ta cI, τ)]) := by
  have hn3 := hI.n3
  have hn7 := hI.n7
  refine z_of (by decide) (Nat.le_of_ble_eq_true rfl) rfl ?_
  intro p e s m args below meth c A C hr hin
  obtain ⟨Q, hQ⟩ : ∃ Q, Q = MQ below (zQ (fun r u => r = some (.int (fl_ofB σ b w)) ∧ u = [(shM t a ta, (zU κ 0 (0) (nI (0)))), (shS a cI, σ), (shS ta cI, τ)]) D (tyL cI cZ cJ) A) args s 0 0 A := ⟨_, rfl⟩
  rw [← hQ]
  refine z_aload_n C dX4_told_0 rfl 0 rfl ?_
  refine z_iconst C (v := nI (0)) (by decide) dX4_told_1 ?_
  refine z_putI C (B' := [(shM t a ta, (zU κ 0 (0) (nI (0)))), (shS a cI, σ), (shS ta cI, τ)]) wu_X4 tyX4_ok nmX4 0 rfl 0 rfl rfl 0 (by decide) rfl wf_X4_19 rfl (by decide +kernel) dX4_told_2 rfl ?_
  refine z_aload_n C dX4_told_5 rfl 0 rfl ?_
  refine z_iload_n C dX4_told_6 rfl 1 rfl ?_
  refine z_cV C (st' := [.int (nI (1))]) (B' := [(shM t a ta, (zU κ 0 (0) (nI (0)))), (shS a cI, σ), (shS ta cI, τ)]) [true, true, true] rfl (c_X4_isBoat_ok l D cI cZ cJ t a ta (zU κ 0 (0) (nI (0))) σ τ n hI b (by omega)) wq_yX4_isBoat wm_X4_38 ⟨wn_yX4_isBoat, wo_yX4_isBoat⟩ ⟨rfl, rfl, Nat.le_of_ble_eq_true rfl, Nat.le_of_ble_eq_true rfl⟩ 0 rfl 0 rfl rfl rfl rfl (Nat.le_of_ble_eq_true rfl) dX4_told_7 ⟨Nat.le_of_ble_eq_true rfl, Nat.le_of_ble_eq_true rfl⟩ rfl rfl ?_
  refine z_if_eqN C (tgt := 32) dX4_told_10 (by decide) (by omega) (fun c_10 => ?_) (fun c_10 => ?_)
  · exact absurd c_10 (by omega)
  · refine z_iload_n C dX4_told_13 rfl 2 rfl ?_
    refine z_iconst C (v := nI (0)) (by decide) dX4_told_14 ?_
    refine z_bipush C (v := nI (9)) (by decide) dX4_told_15 ?_
    refine z_cS C (st' := [.int (nI (1))]) (B' := [(shM t a ta, (zU κ 0 (0) (nI (0)))), (shS a cI, σ), (shS ta cI, τ)]) [false, false, false] rfl (c_X4_isIn_ok l D cI cZ cJ (nI (w)) (nI (0)) (nI (9)) (nI_le2 (by omega) (by omega)) (nI_le2 (by omega) (by omega))) wq_yX4_isIn wm_X4_26 ws_yX4_isIn ⟨rfl, rfl, Nat.le_of_ble_eq_true rfl, Nat.le_of_ble_eq_true rfl⟩ rfl rfl (Nat.le_of_ble_eq_true rfl) dX4_told_17 ⟨Nat.le_of_ble_eq_true rfl, Nat.le_of_ble_eq_true rfl⟩ rfl rfl ?_
    refine z_if_eqN C (tgt := 32) dX4_told_20 (by decide) (by omega) (fun c_20 => ?_) (fun c_20 => ?_)
    · exact absurd c_20 (by omega)
    · refine z_aload_n C dX4_told_23 rfl 0 rfl ?_
      refine z_iload_n C dX4_told_24 rfl 1 rfl ?_
      refine z_iload_n C dX4_told_25 rfl 2 rfl ?_
      refine z_cV C (st' := [.int (fl_ofB σ b w)]) (B' := [(shM t a ta, (zU κ 0 (0) (nI (0)))), (shS a cI, σ), (shS ta cI, τ)]) [true, true, true] rfl (c_X4_boatTold l D cI cZ cJ t a ta (zU κ 0 (0) (nI (0))) σ τ n hI b w (by omega) (by omega)) wq_yX4_boatTold wm_X4_87 ⟨wn_yX4_boatTold, wo_yX4_boatTold⟩ ⟨rfl, rfl, Nat.le_of_ble_eq_true rfl, Nat.le_of_ble_eq_true rfl⟩ 0 rfl 0 rfl rfl rfl rfl (Nat.le_of_ble_eq_true rfl) dX4_told_26 ⟨Nat.le_of_ble_eq_true rfl, Nat.le_of_ble_eq_true rfl⟩ rfl rfl ?_
      refine z_goto C (tgt := 37) dX4_told_29 (by decide) ?_
      rw [hQ]; exact z_iret C hr dX4_told_37 ⟨rfl, rfl⟩
set_option maxHeartbeats 4000000 in
set_option maxRecDepth 100000 in
theorem c_X4_told_b1 (l : Launch) (D : va_G) (cI cZ cJ : ClassId) (t : Nat) (a ta : Nat → Nat) (κ σ τ : zF) (n : Nat) (hI : fl_Iv n σ) (x : Int32) (w : Int32) (hx : x < 0 ∨ nI n ≤ x) : zM l D (tyL cI cZ cJ) yX4_told cX4_told 3 (some .int) (zR 2 43) [.ref (t), .int (x), .int (w)] [(shM t a ta, κ), (shS a cI, σ), (shS ta cI, τ)] 0 0 (fun r u => r = some (.int (nI (0))) ∧ u = [(shM t a ta, (zU κ 0 (0) (nI (1)))), (shS a cI, σ), (shS ta cI, τ)]) := by
  have hn3 := hI.n3
  have hn7 := hI.n7
  refine z_of (by decide) (Nat.le_of_ble_eq_true rfl) rfl ?_
  intro p e s m args below meth c A C hr hin
  obtain ⟨Q, hQ⟩ : ∃ Q, Q = MQ below (zQ (fun r u => r = some (.int (nI (0))) ∧ u = [(shM t a ta, (zU κ 0 (0) (nI (1)))), (shS a cI, σ), (shS ta cI, τ)]) D (tyL cI cZ cJ) A) args s 0 0 A := ⟨_, rfl⟩
  rw [← hQ]
  refine z_aload_n C dX4_told_0 rfl 0 rfl ?_
  refine z_iconst C (v := nI (0)) (by decide) dX4_told_1 ?_
  refine z_putI C (B' := [(shM t a ta, (zU κ 0 (0) (nI (0)))), (shS a cI, σ), (shS ta cI, τ)]) wu_X4 tyX4_ok nmX4 0 rfl 0 rfl rfl 0 (by decide) rfl wf_X4_19 rfl (by decide +kernel) dX4_told_2 rfl ?_
  refine z_aload_n C dX4_told_5 rfl 0 rfl ?_
  refine z_iload_n C dX4_told_6 rfl 1 rfl ?_
  refine z_cV C (st' := [.int (nI (0))]) (B' := [(shM t a ta, (zU κ 0 (0) (nI (0)))), (shS a cI, σ), (shS ta cI, τ)]) [true, true, true] rfl (c_X4_isBoat_no l D cI cZ cJ t a ta (zU κ 0 (0) (nI (0))) σ τ n hI x (hx)) wq_yX4_isBoat wm_X4_38 ⟨wn_yX4_isBoat, wo_yX4_isBoat⟩ ⟨rfl, rfl, Nat.le_of_ble_eq_true rfl, Nat.le_of_ble_eq_true rfl⟩ 0 rfl 0 rfl rfl rfl rfl (Nat.le_of_ble_eq_true rfl) dX4_told_7 ⟨Nat.le_of_ble_eq_true rfl, Nat.le_of_ble_eq_true rfl⟩ rfl rfl ?_
  refine z_if_eqN C (tgt := 32) dX4_told_10 (by decide) (by omega) (fun c_10 => ?_) (fun c_10 => ?_)
  · refine z_aload_n C dX4_told_32 rfl 0 rfl ?_
    refine z_iconst C (v := nI (1)) (by decide) dX4_told_33 ?_
    refine z_cV C (st' := [.int (nI (0))]) (B' := [(shM t a ta, (zU (zU κ 0 (0) (nI (0))) 0 (0) (nI (1)))), (shS a cI, σ), (shS ta cI, τ)]) [true, true, true] rfl (c_X4_no l D cI cZ cJ t a ta (zU κ 0 (0) (nI (0))) σ τ n hI 1) wq_yX4_no wm_X4_30 ⟨wn_yX4_no, wo_yX4_no⟩ ⟨rfl, rfl, Nat.le_of_ble_eq_true rfl, Nat.le_of_ble_eq_true rfl⟩ 0 rfl 0 rfl rfl rfl rfl (Nat.le_of_ble_eq_true rfl) dX4_told_34 ⟨Nat.le_of_ble_eq_true rfl, Nat.le_of_ble_eq_true rfl⟩ rfl rfl ?_
    refine z_eq (B' := [(shM t a ta, (zU κ 0 (0) (nI (1)))), (shS a cI, σ), (shS ta cI, τ)]) (congrArg (fun x => [(shM t a ta, x), (shS a cI, σ), (shS ta cI, τ)]) (zU_tw _ _ _ _ _)) ?_
    rw [hQ]; exact z_iret C hr dX4_told_37 ⟨rfl, rfl⟩
  · exact absurd c_10 (by omega)
set_option maxHeartbeats 4000000 in
set_option maxRecDepth 100000 in
theorem c_X4_told_b2 (l : Launch) (D : va_G) (cI cZ cJ : ClassId) (t : Nat) (a ta : Nat → Nat) (κ σ τ : zF) (n : Nat) (hI : fl_Iv n σ) (b : Nat) (x : Int32) (hb : b < n) (hx : x < 0 ∨ nI 10 ≤ x) : zM l D (tyL cI cZ cJ) yX4_told cX4_told 3 (some .int) (zR 2 43) [.ref (t), .int (nI (b)), .int (x)] [(shM t a ta, κ), (shS a cI, σ), (shS ta cI, τ)] 0 0 (fun r u => r = some (.int (nI (0))) ∧ u = [(shM t a ta, (zU κ 0 (0) (nI (1)))), (shS a cI, σ), (shS ta cI, τ)]) := by
  have hn3 := hI.n3
  have hn7 := hI.n7
  refine z_of (by decide) (Nat.le_of_ble_eq_true rfl) rfl ?_
  intro p e s m args below meth c A C hr hin
  obtain ⟨Q, hQ⟩ : ∃ Q, Q = MQ below (zQ (fun r u => r = some (.int (nI (0))) ∧ u = [(shM t a ta, (zU κ 0 (0) (nI (1)))), (shS a cI, σ), (shS ta cI, τ)]) D (tyL cI cZ cJ) A) args s 0 0 A := ⟨_, rfl⟩
  rw [← hQ]
  refine z_aload_n C dX4_told_0 rfl 0 rfl ?_
  refine z_iconst C (v := nI (0)) (by decide) dX4_told_1 ?_
  refine z_putI C (B' := [(shM t a ta, (zU κ 0 (0) (nI (0)))), (shS a cI, σ), (shS ta cI, τ)]) wu_X4 tyX4_ok nmX4 0 rfl 0 rfl rfl 0 (by decide) rfl wf_X4_19 rfl (by decide +kernel) dX4_told_2 rfl ?_
  refine z_aload_n C dX4_told_5 rfl 0 rfl ?_
  refine z_iload_n C dX4_told_6 rfl 1 rfl ?_
  refine z_cV C (st' := [.int (nI (1))]) (B' := [(shM t a ta, (zU κ 0 (0) (nI (0)))), (shS a cI, σ), (shS ta cI, τ)]) [true, true, true] rfl (c_X4_isBoat_ok l D cI cZ cJ t a ta (zU κ 0 (0) (nI (0))) σ τ n hI b (by omega)) wq_yX4_isBoat wm_X4_38 ⟨wn_yX4_isBoat, wo_yX4_isBoat⟩ ⟨rfl, rfl, Nat.le_of_ble_eq_true rfl, Nat.le_of_ble_eq_true rfl⟩ 0 rfl 0 rfl rfl rfl rfl (Nat.le_of_ble_eq_true rfl) dX4_told_7 ⟨Nat.le_of_ble_eq_true rfl, Nat.le_of_ble_eq_true rfl⟩ rfl rfl ?_
  refine z_if_eqN C (tgt := 32) dX4_told_10 (by decide) (by omega) (fun c_10 => ?_) (fun c_10 => ?_)
  · exact absurd c_10 (by omega)
  · refine z_iload_n C dX4_told_13 rfl 2 rfl ?_
    refine z_iconst C (v := nI (0)) (by decide) dX4_told_14 ?_
    refine z_bipush C (v := nI (9)) (by decide) dX4_told_15 ?_
    refine z_cS C (st' := [.int (nI (0))]) (B' := [(shM t a ta, (zU κ 0 (0) (nI (0)))), (shS a cI, σ), (shS ta cI, τ)]) [false, false, false] rfl (c_X4_isIn_no l D cI cZ cJ x (nI (0)) (nI (9)) (lo_hi 9 hx (by omega))) wq_yX4_isIn wm_X4_26 ws_yX4_isIn ⟨rfl, rfl, Nat.le_of_ble_eq_true rfl, Nat.le_of_ble_eq_true rfl⟩ rfl rfl (Nat.le_of_ble_eq_true rfl) dX4_told_17 ⟨Nat.le_of_ble_eq_true rfl, Nat.le_of_ble_eq_true rfl⟩ rfl rfl ?_
    refine z_if_eqN C (tgt := 32) dX4_told_20 (by decide) (by omega) (fun c_20 => ?_) (fun c_20 => ?_)
    · refine z_aload_n C dX4_told_32 rfl 0 rfl ?_
      refine z_iconst C (v := nI (1)) (by decide) dX4_told_33 ?_
      refine z_cV C (st' := [.int (nI (0))]) (B' := [(shM t a ta, (zU (zU κ 0 (0) (nI (0))) 0 (0) (nI (1)))), (shS a cI, σ), (shS ta cI, τ)]) [true, true, true] rfl (c_X4_no l D cI cZ cJ t a ta (zU κ 0 (0) (nI (0))) σ τ n hI 1) wq_yX4_no wm_X4_30 ⟨wn_yX4_no, wo_yX4_no⟩ ⟨rfl, rfl, Nat.le_of_ble_eq_true rfl, Nat.le_of_ble_eq_true rfl⟩ 0 rfl 0 rfl rfl rfl rfl (Nat.le_of_ble_eq_true rfl) dX4_told_34 ⟨Nat.le_of_ble_eq_true rfl, Nat.le_of_ble_eq_true rfl⟩ rfl rfl ?_
      refine z_eq (B' := [(shM t a ta, (zU κ 0 (0) (nI (1)))), (shS a cI, σ), (shS ta cI, τ)]) (congrArg (fun x => [(shM t a ta, x), (shS a cI, σ), (shS ta cI, τ)]) (zU_tw _ _ _ _ _)) ?_
      rw [hQ]; exact z_iret C hr dX4_told_37 ⟨rfl, rfl⟩
    · exact absurd c_20 (by omega)
set_option maxHeartbeats 4000000 in
set_option maxRecDepth 100000 in
theorem c_X4_entryTold (l : Launch) (D : va_G) (cI cZ cJ : ClassId) (t : Nat) (a ta : Nat → Nat) (κ σ τ : zF) (n : Nat) (hI : fl_Iv n σ) (b : Nat) (k : Nat) (w : Nat) (hb : b < n) (hk : k < fl_ln σ b) (hw : w < 3) : zM l D (tyL cI cZ cJ) yX4_entryTold cX4_entryTold 6 (some .int) (zR 1 23) [.ref (t), .int (nI (b)), .int (nI (k)), .int (nI (w))] [(shM t a ta, κ), (shS a cI, σ), (shS ta cI, τ)] 0 0 (fun r u => r = some (.int (fl_ofE n σ b k w)) ∧ u = [(shM t a ta, κ), (shS a cI, σ), (shS ta cI, τ)]) := by
  have hn3 := hI.n3
  have hn7 := hI.n7
  refine z_of (by decide) (Nat.le_of_ble_eq_true rfl) rfl ?_
  intro p e s m args below meth c A C hr hin
  obtain ⟨Q, hQ⟩ : ∃ Q, Q = MQ below (zQ (fun r u => r = some (.int (fl_ofE n σ b k w)) ∧ u = [(shM t a ta, κ), (shS a cI, σ), (shS ta cI, τ)]) D (tyL cI cZ cJ) A) args s 0 0 A := ⟨_, rfl⟩
  rw [← hQ]
  have hlb := hI.lnT hb
  refine z_iload_n C dX4_entryTold_0 rfl 3 rfl ?_
  refine z_iconst C (v := nI (2)) (by decide) dX4_entryTold_1 ?_
  refine z_icmp_geN C (tgt := 41) dX4_entryTold_2 (by decide) (by omega) (by omega) (fun c_2 => ?_) (fun c_2 => ?_)
  · refine z_iconst C (v := nI (0)) (by decide) dX4_entryTold_41 ?_
    refine z_istore C (L' := [(4, .int (nI (0))), (0, .ref (t)), (1, .int (nI (b))), (2, .int (nI (k))), (3, .int (nI (w)))]) dX4_entryTold_42 (by decide) rfl ?_
    refine z_iconst C (v := nI (0)) (by decide) dX4_entryTold_44 ?_
    refine z_istore C (L' := [(5, .int (nI (0))), (4, .int (nI (0))), (0, .ref (t)), (1, .int (nI (b))), (2, .int (nI (k))), (3, .int (nI (w)))]) dX4_entryTold_45 (by decide) rfl ?_
    have loop_47 : ∀ (k_47 o : Nat) (v : Nat), n < o + k_47 → o ≤ n → (hv : v = fl_ct (fun o => decide (k + 1 ≤ fl_agr σ b o)) o) → (hv1 : v ≤ o) → zK p l e (zR 1 23) s m args below meth c D A 6 Q 0 0 47 [(5, .int (nI (o))), (4, .int (nI (v))), (3, .int (nI (w))), (2, .int (nI (k))), (1, .int (nI (b))), (0, .ref (t))] [] [(shM t a ta, κ), (shS a cI, σ), (shS ta cI, τ)] := by
      intro k_47
      induction k_47 with
      | zero => intro o v m1_47 m2_47; exact absurd m1_47 (by omega)
      | succ k_47 ih_47 =>
        intro o v m1_47 m2_47 hv hv1
        refine z_iload C dX4_entryTold_47 0 rfl ?_
        refine z_aload_n C dX4_entryTold_49 rfl 5 rfl ?_
        refine z_getR C wu_X4 0 rfl 0 rfl rfl 1 (by decide) rfl wf_X4_10 dX4_entryTold_50 ?_
        refine z_getIN C wu_X3 1 rfl 0 rfl rfl 0 (by decide) rfl wf_X4_23 dX4_entryTold_53 ?_
        refine z_top (hI.n0 : _ = nI n) ?_
        refine z_icmp_geN C (tgt := 89) dX4_entryTold_56 (by decide) (by omega) (by omega) (fun c_56 => ?_) (fun c_56 => ?_)
        · refine z_iload C dX4_entryTold_89 1 rfl ?_
          rw [hQ]; exact z_iret C hr dX4_entryTold_91 ⟨congrArg (fun x => some (Value.int x)) (by first | (rw [show w = 0 by omega]; rfl) | (rw [show w = 1 by omega]; rfl) | (rw [show w = 2 by omega, hv, show o = n by omega]; rfl)), rfl⟩
        · refine z_iload C dX4_entryTold_59 1 rfl ?_
          refine z_aload_n C dX4_entryTold_61 rfl 5 rfl ?_
          refine z_getR C wu_X4 0 rfl 0 rfl rfl 1 (by decide) rfl wf_X4_10 dX4_entryTold_62 ?_
          refine z_iload_n C dX4_entryTold_65 rfl 4 rfl ?_
          refine z_iload C dX4_entryTold_66 0 rfl ?_
          have hf_1 := fl_agr_m σ b o
          have hf_2 := hI.lnT (i := b) (by omega)
          have hf_3 := hI.lnT (i := o) (by omega)
          refine z_cV C (st' := [.int (nI (fl_agr σ b o)), .int (nI (v))]) (B' := [(shM t a ta, κ), (shS a cI, σ), (shS ta cI, τ)]) [false, true, false] rfl (c_X3_agree l D cI cZ cJ a σ n hI b o (by omega) (by omega)) wq_yX3_agree wm_X4_97 ⟨wn_yX3_agree, wo_yX3_agree⟩ ⟨rfl, rfl, Nat.le_of_ble_eq_true rfl, Nat.le_of_ble_eq_true rfl⟩ 1 rfl 0 rfl rfl rfl rfl (Nat.le_of_ble_eq_true rfl) dX4_entryTold_68 ⟨Nat.le_of_ble_eq_true rfl, Nat.le_of_ble_eq_true rfl⟩ rfl rfl ?_
          refine z_iload_n C dX4_entryTold_71 rfl 3 rfl ?_
          refine z_icmp_leN C (tgt := 79) dX4_entryTold_72 (by decide) (by omega) (by omega) (fun c_72 => ?_) (fun c_72 => ?_)
          · refine z_iconst C (v := nI (0)) (by decide) dX4_entryTold_79 ?_
            refine z_iaddN C dX4_entryTold_80 ?_
            refine z_istore C (L' := [(4, .int (nI (v + 0))), (5, .int (nI (o))), (3, .int (nI (w))), (2, .int (nI (k))), (1, .int (nI (b))), (0, .ref (t))]) dX4_entryTold_81 (by decide) rfl ?_
            refine z_iinc C (L' := [(5, .int (nI (o + 1))), (4, .int (nI (v + 0))), (3, .int (nI (w))), (2, .int (nI (k))), (1, .int (nI (b))), (0, .ref (t))]) dX4_entryTold_83 1 rfl (z_inc1 _) (by decide) rfl ?_
            refine z_goto C (tgt := 47) dX4_entryTold_86 (by decide) ?_
            refine z_sub (L' := [(5, .int (nI (o + 1))), (4, .int (nI (v + 0))), (3, .int (nI (w))), (2, .int (nI (k))), (1, .int (nI (b))), (0, .ref (t))]) [0, 1, 2, 3, 4, 5] rfl ?_
            exact ih_47 (o + 1) _ (by omega) (by omega) (by rw [fl_ct, ← hv]; simp; omega) (by omega)
          · refine z_iconst C (v := nI (1)) (by decide) dX4_entryTold_75 ?_
            refine z_goto C (tgt := 80) dX4_entryTold_76 (by decide) ?_
            refine z_iaddN C dX4_entryTold_80 ?_
            refine z_istore C (L' := [(4, .int (nI (v + 1))), (5, .int (nI (o))), (3, .int (nI (w))), (2, .int (nI (k))), (1, .int (nI (b))), (0, .ref (t))]) dX4_entryTold_81 (by decide) rfl ?_
            refine z_iinc C (L' := [(5, .int (nI (o + 1))), (4, .int (nI (v + 1))), (3, .int (nI (w))), (2, .int (nI (k))), (1, .int (nI (b))), (0, .ref (t))]) dX4_entryTold_83 1 rfl (z_inc1 _) (by decide) rfl ?_
            refine z_goto C (tgt := 47) dX4_entryTold_86 (by decide) ?_
            refine z_sub (L' := [(5, .int (nI (o + 1))), (4, .int (nI (v + 1))), (3, .int (nI (w))), (2, .int (nI (k))), (1, .int (nI (b))), (0, .ref (t))]) [0, 1, 2, 3, 4, 5] rfl ?_
            exact ih_47 (o + 1) _ (by omega) (by omega) (by rw [fl_ct, ← hv]; simp; omega) (by omega)
    refine z_sub (L' := [(5, .int (nI (0))), (4, .int (nI (0))), (3, .int (nI (w))), (2, .int (nI (k))), (1, .int (nI (b))), (0, .ref (t))]) [0, 1, 5, 4, 3, 2] rfl ?_
    exact loop_47 (n + 1) 0 _ (by omega) (by omega) rfl (by omega)
  · refine z_iload_n C dX4_entryTold_5 rfl 3 rfl ?_
    refine z_if_neN C (tgt := 26) dX4_entryTold_6 (by decide) (by omega) (fun c_6 => ?_) (fun c_6 => ?_)
    · refine z_aload_n C dX4_entryTold_26 rfl 0 rfl ?_
      refine z_getR C wu_X4 0 rfl 0 rfl rfl 1 (by decide) rfl wf_X4_10 dX4_entryTold_27 ?_
      refine z_getRN C wu_X3 1 rfl 0 rfl rfl 15 (by decide) rfl wf_X4_94 dX4_entryTold_30 ?_
      refine z_bipush C (v := nI (10)) (by decide) dX4_entryTold_33 ?_
      refine z_iload_n C dX4_entryTold_35 rfl 1 rfl ?_
      refine z_imulN C dX4_entryTold_36 ?_
      refine z_top (congrArg nI (Nat.mul_comm _ _)) ?_
      refine z_iload_n C dX4_entryTold_37 rfl 2 rfl ?_
      refine z_iaddN C dX4_entryTold_38 ?_
      refine z_iald C 1 rfl 11 0 rfl rfl dX4_entryTold_39 (by omega) (by decide) ?_
      rw [hQ]; exact z_iret C hr dX4_entryTold_40 ⟨congrArg (fun x => some (Value.int x)) (by first | (rw [show w = 0 by omega]; rfl) | (rw [show w = 1 by omega]; rfl) | (rw [show w = 2 by omega, hv, show o = n by omega]; rfl)), rfl⟩
    · refine z_aload_n C dX4_entryTold_9 rfl 0 rfl ?_
      refine z_getR C wu_X4 0 rfl 0 rfl rfl 1 (by decide) rfl wf_X4_10 dX4_entryTold_10 ?_
      refine z_getRN C wu_X3 1 rfl 0 rfl rfl 14 (by decide) rfl wf_X4_91 dX4_entryTold_13 ?_
      refine z_bipush C (v := nI (10)) (by decide) dX4_entryTold_16 ?_
      refine z_iload_n C dX4_entryTold_18 rfl 1 rfl ?_
      refine z_imulN C dX4_entryTold_19 ?_
      refine z_top (congrArg nI (Nat.mul_comm _ _)) ?_
      refine z_iload_n C dX4_entryTold_20 rfl 2 rfl ?_
      refine z_iaddN C dX4_entryTold_21 ?_
      refine z_iald C 1 rfl 10 0 rfl rfl dX4_entryTold_22 (by omega) (by decide) ?_
      refine z_goto C (tgt := 40) dX4_entryTold_23 (by decide) ?_
      rw [hQ]; exact z_iret C hr dX4_entryTold_40 ⟨congrArg (fun x => some (Value.int x)) (by first | (rw [show w = 0 by omega]; rfl) | (rw [show w = 1 by omega]; rfl) | (rw [show w = 2 by omega, hv, show o = n by omega]; rfl)), rfl⟩
set_option maxHeartbeats 4000000 in
set_option maxRecDepth 100000 in
theorem c_X4_entry (l : Launch) (D : va_G) (cI cZ cJ : ClassId) (t : Nat) (a ta : Nat → Nat) (κ σ τ : zF) (n : Nat) (hI : fl_Iv n σ) (b : Nat) (k : Nat) (w : Nat) (hb : b < n) (hk : k < fl_ln σ b) (hw : w < 3) : zM l D (tyL cI cZ cJ) yX4_entry cX4_entry 4 (some .int) (zR 2 48) [.ref (t), .int (nI (b)), .int (nI (k)), .int (nI (w))] [(shM t a ta, κ), (shS a cI, σ), (shS ta cI, τ)] 0 0 (fun r u => r = some (.int (fl_ofE n σ b k w)) ∧ u = [(shM t a ta, (zU κ 0 (0) (nI (0)))), (shS a cI, σ), (shS ta cI, τ)]) := by
  have hn3 := hI.n3
  have hn7 := hI.n7
  refine z_of (by decide) (Nat.le_of_ble_eq_true rfl) rfl ?_
  intro p e s m args below meth c A C hr hin
  obtain ⟨Q, hQ⟩ : ∃ Q, Q = MQ below (zQ (fun r u => r = some (.int (fl_ofE n σ b k w)) ∧ u = [(shM t a ta, (zU κ 0 (0) (nI (0)))), (shS a cI, σ), (shS ta cI, τ)]) D (tyL cI cZ cJ) A) args s 0 0 A := ⟨_, rfl⟩
  rw [← hQ]
  have hlb := hI.lnT hb
  refine z_aload_n C dX4_entry_0 rfl 0 rfl ?_
  refine z_iconst C (v := nI (0)) (by decide) dX4_entry_1 ?_
  refine z_putI C (B' := [(shM t a ta, (zU κ 0 (0) (nI (0)))), (shS a cI, σ), (shS ta cI, τ)]) wu_X4 tyX4_ok nmX4 0 rfl 0 rfl rfl 0 (by decide) rfl wf_X4_19 rfl (by decide +kernel) dX4_entry_2 rfl ?_
  refine z_aload_n C dX4_entry_5 rfl 0 rfl ?_
  refine z_iload_n C dX4_entry_6 rfl 1 rfl ?_
  refine z_cV C (st' := [.int (nI (1))]) (B' := [(shM t a ta, (zU κ 0 (0) (nI (0)))), (shS a cI, σ), (shS ta cI, τ)]) [true, true, true] rfl (c_X4_isBoat_ok l D cI cZ cJ t a ta (zU κ 0 (0) (nI (0))) σ τ n hI b (by omega)) wq_yX4_isBoat wm_X4_38 ⟨wn_yX4_isBoat, wo_yX4_isBoat⟩ ⟨rfl, rfl, Nat.le_of_ble_eq_true rfl, Nat.le_of_ble_eq_true rfl⟩ 0 rfl 0 rfl rfl rfl rfl (Nat.le_of_ble_eq_true rfl) dX4_entry_7 ⟨Nat.le_of_ble_eq_true rfl, Nat.le_of_ble_eq_true rfl⟩ rfl rfl ?_
  refine z_if_eqN C (tgt := 51) dX4_entry_10 (by decide) (by omega) (fun c_10 => ?_) (fun c_10 => ?_)
  · exact absurd c_10 (by omega)
  · refine z_iload_n C dX4_entry_13 rfl 2 rfl ?_
    refine z_iconst C (v := nI (0)) (by decide) dX4_entry_14 ?_
    refine z_aload_n C dX4_entry_15 rfl 0 rfl ?_
    refine z_getR C wu_X4 0 rfl 0 rfl rfl 1 (by decide) rfl wf_X4_10 dX4_entry_16 ?_
    refine z_getRN C wu_X3 1 rfl 0 rfl rfl 12 (by decide) rfl wf_X4_65 dX4_entry_19 ?_
    refine z_iload_n C dX4_entry_22 rfl 1 rfl ?_
    refine z_iald C 1 rfl 8 0 rfl rfl dX4_entry_23 (by omega) (by decide) ?_
    refine z_top (y := nI (fl_ln σ b)) (hI.ln (by omega)) ?_
    have hb_1 := hI.lnT (i := b) (by omega)
    refine z_iconst C (v := nI (1)) (by decide) dX4_entry_24 ?_
    refine z_isubN C dX4_entry_25 (by omega) ?_
    refine z_cS C (st' := [.int (nI (1))]) (B' := [(shM t a ta, (zU κ 0 (0) (nI (0)))), (shS a cI, σ), (shS ta cI, τ)]) [false, false, false] rfl (c_X4_isIn_ok l D cI cZ cJ (nI (k)) (nI (0)) (nI ((fl_ln σ b) - 1)) (nI_le2 (by omega) (by omega)) (nI_le2 (by omega) (by omega))) wq_yX4_isIn wm_X4_26 ws_yX4_isIn ⟨rfl, rfl, Nat.le_of_ble_eq_true rfl, Nat.le_of_ble_eq_true rfl⟩ rfl rfl (Nat.le_of_ble_eq_true rfl) dX4_entry_26 ⟨Nat.le_of_ble_eq_true rfl, Nat.le_of_ble_eq_true rfl⟩ rfl rfl ?_
    refine z_if_eqN C (tgt := 51) dX4_entry_29 (by decide) (by omega) (fun c_29 => ?_) (fun c_29 => ?_)
    · exact absurd c_29 (by omega)
    · refine z_iload_n C dX4_entry_32 rfl 3 rfl ?_
      refine z_iconst C (v := nI (0)) (by decide) dX4_entry_33 ?_
      refine z_iconst C (v := nI (2)) (by decide) dX4_entry_34 ?_
      refine z_cS C (st' := [.int (nI (1))]) (B' := [(shM t a ta, (zU κ 0 (0) (nI (0)))), (shS a cI, σ), (shS ta cI, τ)]) [false, false, false] rfl (c_X4_isIn_ok l D cI cZ cJ (nI (w)) (nI (0)) (nI (2)) (nI_le2 (by omega) (by omega)) (nI_le2 (by omega) (by omega))) wq_yX4_isIn wm_X4_26 ws_yX4_isIn ⟨rfl, rfl, Nat.le_of_ble_eq_true rfl, Nat.le_of_ble_eq_true rfl⟩ rfl rfl (Nat.le_of_ble_eq_true rfl) dX4_entry_35 ⟨Nat.le_of_ble_eq_true rfl, Nat.le_of_ble_eq_true rfl⟩ rfl rfl ?_
      refine z_if_eqN C (tgt := 51) dX4_entry_38 (by decide) (by omega) (fun c_38 => ?_) (fun c_38 => ?_)
      · exact absurd c_38 (by omega)
      · refine z_aload_n C dX4_entry_41 rfl 0 rfl ?_
        refine z_iload_n C dX4_entry_42 rfl 1 rfl ?_
        refine z_iload_n C dX4_entry_43 rfl 2 rfl ?_
        refine z_iload_n C dX4_entry_44 rfl 3 rfl ?_
        refine z_cV C (st' := [.int (fl_ofE n σ b k w)]) (B' := [(shM t a ta, (zU κ 0 (0) (nI (0)))), (shS a cI, σ), (shS ta cI, τ)]) [true, true, true] rfl (c_X4_entryTold l D cI cZ cJ t a ta (zU κ 0 (0) (nI (0))) σ τ n hI b k w (by omega) (by omega) (by omega)) wq_yX4_entryTold wm_X4_100 ⟨wn_yX4_entryTold, wo_yX4_entryTold⟩ ⟨rfl, rfl, Nat.le_of_ble_eq_true rfl, Nat.le_of_ble_eq_true rfl⟩ 0 rfl 0 rfl rfl rfl rfl (Nat.le_of_ble_eq_true rfl) dX4_entry_45 ⟨Nat.le_of_ble_eq_true rfl, Nat.le_of_ble_eq_true rfl⟩ rfl rfl ?_
        refine z_goto C (tgt := 56) dX4_entry_48 (by decide) ?_
        rw [hQ]; exact z_iret C hr dX4_entry_56 ⟨rfl, rfl⟩
set_option maxHeartbeats 4000000 in
set_option maxRecDepth 100000 in
theorem c_X4_entry_b1 (l : Launch) (D : va_G) (cI cZ cJ : ClassId) (t : Nat) (a ta : Nat → Nat) (κ σ τ : zF) (n : Nat) (hI : fl_Iv n σ) (x : Int32) (k : Int32) (w : Int32) (hx : x < 0 ∨ nI n ≤ x) : zM l D (tyL cI cZ cJ) yX4_entry cX4_entry 4 (some .int) (zR 2 48) [.ref (t), .int (x), .int (k), .int (w)] [(shM t a ta, κ), (shS a cI, σ), (shS ta cI, τ)] 0 0 (fun r u => r = some (.int (nI (0))) ∧ u = [(shM t a ta, (zU κ 0 (0) (nI (1)))), (shS a cI, σ), (shS ta cI, τ)]) := by
  have hn3 := hI.n3
  have hn7 := hI.n7
  refine z_of (by decide) (Nat.le_of_ble_eq_true rfl) rfl ?_
  intro p e s m args below meth c A C hr hin
  obtain ⟨Q, hQ⟩ : ∃ Q, Q = MQ below (zQ (fun r u => r = some (.int (nI (0))) ∧ u = [(shM t a ta, (zU κ 0 (0) (nI (1)))), (shS a cI, σ), (shS ta cI, τ)]) D (tyL cI cZ cJ) A) args s 0 0 A := ⟨_, rfl⟩
  rw [← hQ]
  refine z_aload_n C dX4_entry_0 rfl 0 rfl ?_
  refine z_iconst C (v := nI (0)) (by decide) dX4_entry_1 ?_
  refine z_putI C (B' := [(shM t a ta, (zU κ 0 (0) (nI (0)))), (shS a cI, σ), (shS ta cI, τ)]) wu_X4 tyX4_ok nmX4 0 rfl 0 rfl rfl 0 (by decide) rfl wf_X4_19 rfl (by decide +kernel) dX4_entry_2 rfl ?_
  refine z_aload_n C dX4_entry_5 rfl 0 rfl ?_
  refine z_iload_n C dX4_entry_6 rfl 1 rfl ?_
  refine z_cV C (st' := [.int (nI (0))]) (B' := [(shM t a ta, (zU κ 0 (0) (nI (0)))), (shS a cI, σ), (shS ta cI, τ)]) [true, true, true] rfl (c_X4_isBoat_no l D cI cZ cJ t a ta (zU κ 0 (0) (nI (0))) σ τ n hI x (hx)) wq_yX4_isBoat wm_X4_38 ⟨wn_yX4_isBoat, wo_yX4_isBoat⟩ ⟨rfl, rfl, Nat.le_of_ble_eq_true rfl, Nat.le_of_ble_eq_true rfl⟩ 0 rfl 0 rfl rfl rfl rfl (Nat.le_of_ble_eq_true rfl) dX4_entry_7 ⟨Nat.le_of_ble_eq_true rfl, Nat.le_of_ble_eq_true rfl⟩ rfl rfl ?_
  refine z_if_eqN C (tgt := 51) dX4_entry_10 (by decide) (by omega) (fun c_10 => ?_) (fun c_10 => ?_)
  · refine z_aload_n C dX4_entry_51 rfl 0 rfl ?_
    refine z_iconst C (v := nI (1)) (by decide) dX4_entry_52 ?_
    refine z_cV C (st' := [.int (nI (0))]) (B' := [(shM t a ta, (zU (zU κ 0 (0) (nI (0))) 0 (0) (nI (1)))), (shS a cI, σ), (shS ta cI, τ)]) [true, true, true] rfl (c_X4_no l D cI cZ cJ t a ta (zU κ 0 (0) (nI (0))) σ τ n hI 1) wq_yX4_no wm_X4_30 ⟨wn_yX4_no, wo_yX4_no⟩ ⟨rfl, rfl, Nat.le_of_ble_eq_true rfl, Nat.le_of_ble_eq_true rfl⟩ 0 rfl 0 rfl rfl rfl rfl (Nat.le_of_ble_eq_true rfl) dX4_entry_53 ⟨Nat.le_of_ble_eq_true rfl, Nat.le_of_ble_eq_true rfl⟩ rfl rfl ?_
    refine z_eq (B' := [(shM t a ta, (zU κ 0 (0) (nI (1)))), (shS a cI, σ), (shS ta cI, τ)]) (congrArg (fun x => [(shM t a ta, x), (shS a cI, σ), (shS ta cI, τ)]) (zU_tw _ _ _ _ _)) ?_
    rw [hQ]; exact z_iret C hr dX4_entry_56 ⟨rfl, rfl⟩
  · exact absurd c_10 (by omega)
set_option maxHeartbeats 4000000 in
set_option maxRecDepth 100000 in
theorem c_X4_entry_b2 (l : Launch) (D : va_G) (cI cZ cJ : ClassId) (t : Nat) (a ta : Nat → Nat) (κ σ τ : zF) (n : Nat) (hI : fl_Iv n σ) (b : Nat) (x : Int32) (w : Int32) (hb : b < n) (hx : x < 0 ∨ nI (fl_ln σ b) ≤ x) : zM l D (tyL cI cZ cJ) yX4_entry cX4_entry 4 (some .int) (zR 2 48) [.ref (t), .int (nI (b)), .int (x), .int (w)] [(shM t a ta, κ), (shS a cI, σ), (shS ta cI, τ)] 0 0 (fun r u => r = some (.int (nI (0))) ∧ u = [(shM t a ta, (zU κ 0 (0) (nI (1)))), (shS a cI, σ), (shS ta cI, τ)]) := by
  have hn3 := hI.n3
  have hn7 := hI.n7
  refine z_of (by decide) (Nat.le_of_ble_eq_true rfl) rfl ?_
  intro p e s m args below meth c A C hr hin
  obtain ⟨Q, hQ⟩ : ∃ Q, Q = MQ below (zQ (fun r u => r = some (.int (nI (0))) ∧ u = [(shM t a ta, (zU κ 0 (0) (nI (1)))), (shS a cI, σ), (shS ta cI, τ)]) D (tyL cI cZ cJ) A) args s 0 0 A := ⟨_, rfl⟩
  rw [← hQ]
  have hlb := hI.lnT hb
  refine z_aload_n C dX4_entry_0 rfl 0 rfl ?_
  refine z_iconst C (v := nI (0)) (by decide) dX4_entry_1 ?_
  refine z_putI C (B' := [(shM t a ta, (zU κ 0 (0) (nI (0)))), (shS a cI, σ), (shS ta cI, τ)]) wu_X4 tyX4_ok nmX4 0 rfl 0 rfl rfl 0 (by decide) rfl wf_X4_19 rfl (by decide +kernel) dX4_entry_2 rfl ?_
  refine z_aload_n C dX4_entry_5 rfl 0 rfl ?_
  refine z_iload_n C dX4_entry_6 rfl 1 rfl ?_
  refine z_cV C (st' := [.int (nI (1))]) (B' := [(shM t a ta, (zU κ 0 (0) (nI (0)))), (shS a cI, σ), (shS ta cI, τ)]) [true, true, true] rfl (c_X4_isBoat_ok l D cI cZ cJ t a ta (zU κ 0 (0) (nI (0))) σ τ n hI b (by omega)) wq_yX4_isBoat wm_X4_38 ⟨wn_yX4_isBoat, wo_yX4_isBoat⟩ ⟨rfl, rfl, Nat.le_of_ble_eq_true rfl, Nat.le_of_ble_eq_true rfl⟩ 0 rfl 0 rfl rfl rfl rfl (Nat.le_of_ble_eq_true rfl) dX4_entry_7 ⟨Nat.le_of_ble_eq_true rfl, Nat.le_of_ble_eq_true rfl⟩ rfl rfl ?_
  refine z_if_eqN C (tgt := 51) dX4_entry_10 (by decide) (by omega) (fun c_10 => ?_) (fun c_10 => ?_)
  · exact absurd c_10 (by omega)
  · refine z_iload_n C dX4_entry_13 rfl 2 rfl ?_
    refine z_iconst C (v := nI (0)) (by decide) dX4_entry_14 ?_
    refine z_aload_n C dX4_entry_15 rfl 0 rfl ?_
    refine z_getR C wu_X4 0 rfl 0 rfl rfl 1 (by decide) rfl wf_X4_10 dX4_entry_16 ?_
    refine z_getRN C wu_X3 1 rfl 0 rfl rfl 12 (by decide) rfl wf_X4_65 dX4_entry_19 ?_
    refine z_iload_n C dX4_entry_22 rfl 1 rfl ?_
    refine z_iald C 1 rfl 8 0 rfl rfl dX4_entry_23 (by omega) (by decide) ?_
    refine z_top (y := nI (fl_ln σ b)) (hI.ln (by omega)) ?_
    have hb_1 := hI.lnT (i := b) (by omega)
    refine z_iconst C (v := nI (1)) (by decide) dX4_entry_24 ?_
    refine z_isub C dX4_entry_25 ?_
    refine z_cS C (st' := [.int (nI (0))]) (B' := [(shM t a ta, (zU κ 0 (0) (nI (0)))), (shS a cI, σ), (shS ta cI, τ)]) [false, false, false] rfl (c_X4_isIn_no l D cI cZ cJ x (nI (0)) (nI (fl_ln σ b) - nI (1)) (lo_dec hlb hx)) wq_yX4_isIn wm_X4_26 ws_yX4_isIn ⟨rfl, rfl, Nat.le_of_ble_eq_true rfl, Nat.le_of_ble_eq_true rfl⟩ rfl rfl (Nat.le_of_ble_eq_true rfl) dX4_entry_26 ⟨Nat.le_of_ble_eq_true rfl, Nat.le_of_ble_eq_true rfl⟩ rfl rfl ?_
    refine z_if_eqN C (tgt := 51) dX4_entry_29 (by decide) (by omega) (fun c_29 => ?_) (fun c_29 => ?_)
    · refine z_aload_n C dX4_entry_51 rfl 0 rfl ?_
      refine z_iconst C (v := nI (1)) (by decide) dX4_entry_52 ?_
      refine z_cV C (st' := [.int (nI (0))]) (B' := [(shM t a ta, (zU (zU κ 0 (0) (nI (0))) 0 (0) (nI (1)))), (shS a cI, σ), (shS ta cI, τ)]) [true, true, true] rfl (c_X4_no l D cI cZ cJ t a ta (zU κ 0 (0) (nI (0))) σ τ n hI 1) wq_yX4_no wm_X4_30 ⟨wn_yX4_no, wo_yX4_no⟩ ⟨rfl, rfl, Nat.le_of_ble_eq_true rfl, Nat.le_of_ble_eq_true rfl⟩ 0 rfl 0 rfl rfl rfl rfl (Nat.le_of_ble_eq_true rfl) dX4_entry_53 ⟨Nat.le_of_ble_eq_true rfl, Nat.le_of_ble_eq_true rfl⟩ rfl rfl ?_
      refine z_eq (B' := [(shM t a ta, (zU κ 0 (0) (nI (1)))), (shS a cI, σ), (shS ta cI, τ)]) (congrArg (fun x => [(shM t a ta, x), (shS a cI, σ), (shS ta cI, τ)]) (zU_tw _ _ _ _ _)) ?_
      rw [hQ]; exact z_iret C hr dX4_entry_56 ⟨rfl, rfl⟩
    · exact absurd c_29 (by omega)
set_option maxHeartbeats 4000000 in
set_option maxRecDepth 100000 in
theorem c_X4_entry_b3 (l : Launch) (D : va_G) (cI cZ cJ : ClassId) (t : Nat) (a ta : Nat → Nat) (κ σ τ : zF) (n : Nat) (hI : fl_Iv n σ) (b : Nat) (k : Nat) (x : Int32) (hb : b < n) (hk : k < fl_ln σ b) (hx : x < 0 ∨ nI 3 ≤ x) : zM l D (tyL cI cZ cJ) yX4_entry cX4_entry 4 (some .int) (zR 2 48) [.ref (t), .int (nI (b)), .int (nI (k)), .int (x)] [(shM t a ta, κ), (shS a cI, σ), (shS ta cI, τ)] 0 0 (fun r u => r = some (.int (nI (0))) ∧ u = [(shM t a ta, (zU κ 0 (0) (nI (1)))), (shS a cI, σ), (shS ta cI, τ)]) := by
  have hn3 := hI.n3
  have hn7 := hI.n7
  refine z_of (by decide) (Nat.le_of_ble_eq_true rfl) rfl ?_
  intro p e s m args below meth c A C hr hin
  obtain ⟨Q, hQ⟩ : ∃ Q, Q = MQ below (zQ (fun r u => r = some (.int (nI (0))) ∧ u = [(shM t a ta, (zU κ 0 (0) (nI (1)))), (shS a cI, σ), (shS ta cI, τ)]) D (tyL cI cZ cJ) A) args s 0 0 A := ⟨_, rfl⟩
  rw [← hQ]
  have hlb := hI.lnT hb
  refine z_aload_n C dX4_entry_0 rfl 0 rfl ?_
  refine z_iconst C (v := nI (0)) (by decide) dX4_entry_1 ?_
  refine z_putI C (B' := [(shM t a ta, (zU κ 0 (0) (nI (0)))), (shS a cI, σ), (shS ta cI, τ)]) wu_X4 tyX4_ok nmX4 0 rfl 0 rfl rfl 0 (by decide) rfl wf_X4_19 rfl (by decide +kernel) dX4_entry_2 rfl ?_
  refine z_aload_n C dX4_entry_5 rfl 0 rfl ?_
  refine z_iload_n C dX4_entry_6 rfl 1 rfl ?_
  refine z_cV C (st' := [.int (nI (1))]) (B' := [(shM t a ta, (zU κ 0 (0) (nI (0)))), (shS a cI, σ), (shS ta cI, τ)]) [true, true, true] rfl (c_X4_isBoat_ok l D cI cZ cJ t a ta (zU κ 0 (0) (nI (0))) σ τ n hI b (by omega)) wq_yX4_isBoat wm_X4_38 ⟨wn_yX4_isBoat, wo_yX4_isBoat⟩ ⟨rfl, rfl, Nat.le_of_ble_eq_true rfl, Nat.le_of_ble_eq_true rfl⟩ 0 rfl 0 rfl rfl rfl rfl (Nat.le_of_ble_eq_true rfl) dX4_entry_7 ⟨Nat.le_of_ble_eq_true rfl, Nat.le_of_ble_eq_true rfl⟩ rfl rfl ?_
  refine z_if_eqN C (tgt := 51) dX4_entry_10 (by decide) (by omega) (fun c_10 => ?_) (fun c_10 => ?_)
  · exact absurd c_10 (by omega)
  · refine z_iload_n C dX4_entry_13 rfl 2 rfl ?_
    refine z_iconst C (v := nI (0)) (by decide) dX4_entry_14 ?_
    refine z_aload_n C dX4_entry_15 rfl 0 rfl ?_
    refine z_getR C wu_X4 0 rfl 0 rfl rfl 1 (by decide) rfl wf_X4_10 dX4_entry_16 ?_
    refine z_getRN C wu_X3 1 rfl 0 rfl rfl 12 (by decide) rfl wf_X4_65 dX4_entry_19 ?_
    refine z_iload_n C dX4_entry_22 rfl 1 rfl ?_
    refine z_iald C 1 rfl 8 0 rfl rfl dX4_entry_23 (by omega) (by decide) ?_
    refine z_top (y := nI (fl_ln σ b)) (hI.ln (by omega)) ?_
    have hb_1 := hI.lnT (i := b) (by omega)
    refine z_iconst C (v := nI (1)) (by decide) dX4_entry_24 ?_
    refine z_isubN C dX4_entry_25 (by omega) ?_
    refine z_cS C (st' := [.int (nI (1))]) (B' := [(shM t a ta, (zU κ 0 (0) (nI (0)))), (shS a cI, σ), (shS ta cI, τ)]) [false, false, false] rfl (c_X4_isIn_ok l D cI cZ cJ (nI (k)) (nI (0)) (nI ((fl_ln σ b) - 1)) (nI_le2 (by omega) (by omega)) (nI_le2 (by omega) (by omega))) wq_yX4_isIn wm_X4_26 ws_yX4_isIn ⟨rfl, rfl, Nat.le_of_ble_eq_true rfl, Nat.le_of_ble_eq_true rfl⟩ rfl rfl (Nat.le_of_ble_eq_true rfl) dX4_entry_26 ⟨Nat.le_of_ble_eq_true rfl, Nat.le_of_ble_eq_true rfl⟩ rfl rfl ?_
    refine z_if_eqN C (tgt := 51) dX4_entry_29 (by decide) (by omega) (fun c_29 => ?_) (fun c_29 => ?_)
    · exact absurd c_29 (by omega)
    · refine z_iload_n C dX4_entry_32 rfl 3 rfl ?_
      refine z_iconst C (v := nI (0)) (by decide) dX4_entry_33 ?_
      refine z_iconst C (v := nI (2)) (by decide) dX4_entry_34 ?_
      refine z_cS C (st' := [.int (nI (0))]) (B' := [(shM t a ta, (zU κ 0 (0) (nI (0)))), (shS a cI, σ), (shS ta cI, τ)]) [false, false, false] rfl (c_X4_isIn_no l D cI cZ cJ x (nI (0)) (nI (2)) (lo_hi 2 hx (by omega))) wq_yX4_isIn wm_X4_26 ws_yX4_isIn ⟨rfl, rfl, Nat.le_of_ble_eq_true rfl, Nat.le_of_ble_eq_true rfl⟩ rfl rfl (Nat.le_of_ble_eq_true rfl) dX4_entry_35 ⟨Nat.le_of_ble_eq_true rfl, Nat.le_of_ble_eq_true rfl⟩ rfl rfl ?_
      refine z_if_eqN C (tgt := 51) dX4_entry_38 (by decide) (by omega) (fun c_38 => ?_) (fun c_38 => ?_)
      · refine z_aload_n C dX4_entry_51 rfl 0 rfl ?_
        refine z_iconst C (v := nI (1)) (by decide) dX4_entry_52 ?_
        refine z_cV C (st' := [.int (nI (0))]) (B' := [(shM t a ta, (zU (zU κ 0 (0) (nI (0))) 0 (0) (nI (1)))), (shS a cI, σ), (shS ta cI, τ)]) [true, true, true] rfl (c_X4_no l D cI cZ cJ t a ta (zU κ 0 (0) (nI (0))) σ τ n hI 1) wq_yX4_no wm_X4_30 ⟨wn_yX4_no, wo_yX4_no⟩ ⟨rfl, rfl, Nat.le_of_ble_eq_true rfl, Nat.le_of_ble_eq_true rfl⟩ 0 rfl 0 rfl rfl rfl rfl (Nat.le_of_ble_eq_true rfl) dX4_entry_53 ⟨Nat.le_of_ble_eq_true rfl, Nat.le_of_ble_eq_true rfl⟩ rfl rfl ?_
        refine z_eq (B' := [(shM t a ta, (zU κ 0 (0) (nI (1)))), (shS a cI, σ), (shS ta cI, τ)]) (congrArg (fun x => [(shM t a ta, x), (shS a cI, σ), (shS ta cI, τ)]) (zU_tw _ _ _ _ _)) ?_
        rw [hQ]; exact z_iret C hr dX4_entry_56 ⟨rfl, rfl⟩
      · exact absurd c_38 (by omega)
set_option maxHeartbeats 4000000 in
set_option maxRecDepth 100000 in
theorem c_X4_agree (l : Launch) (D : va_G) (cI cZ cJ : ClassId) (t : Nat) (a ta : Nat → Nat) (κ σ τ : zF) (n : Nat) (hI : fl_Iv n σ) (b : Nat) (k : Nat) (hb : b < n) (hk : k < n) : zM l D (tyL cI cZ cJ) yX4_agree cX4_agree 3 (some .int) (zR 2 43) [.ref (t), .int (nI (b)), .int (nI (k))] [(shM t a ta, κ), (shS a cI, σ), (shS ta cI, τ)] 0 0 (fun r u => r = some (.int (nI (fl_agr σ b k))) ∧ u = [(shM t a ta, (zU κ 0 (0) (nI (0)))), (shS a cI, σ), (shS ta cI, τ)]) := by
  have hn3 := hI.n3
  have hn7 := hI.n7
  refine z_of (by decide) (Nat.le_of_ble_eq_true rfl) rfl ?_
  intro p e s m args below meth c A C hr hin
  obtain ⟨Q, hQ⟩ : ∃ Q, Q = MQ below (zQ (fun r u => r = some (.int (nI (fl_agr σ b k))) ∧ u = [(shM t a ta, (zU κ 0 (0) (nI (0)))), (shS a cI, σ), (shS ta cI, τ)]) D (tyL cI cZ cJ) A) args s 0 0 A := ⟨_, rfl⟩
  rw [← hQ]
  refine z_aload_n C dX4_agree_0 rfl 0 rfl ?_
  refine z_iconst C (v := nI (0)) (by decide) dX4_agree_1 ?_
  refine z_putI C (B' := [(shM t a ta, (zU κ 0 (0) (nI (0)))), (shS a cI, σ), (shS ta cI, τ)]) wu_X4 tyX4_ok nmX4 0 rfl 0 rfl rfl 0 (by decide) rfl wf_X4_19 rfl (by decide +kernel) dX4_agree_2 rfl ?_
  refine z_aload_n C dX4_agree_5 rfl 0 rfl ?_
  refine z_iload_n C dX4_agree_6 rfl 1 rfl ?_
  refine z_cV C (st' := [.int (nI (1))]) (B' := [(shM t a ta, (zU κ 0 (0) (nI (0)))), (shS a cI, σ), (shS ta cI, τ)]) [true, true, true] rfl (c_X4_isBoat_ok l D cI cZ cJ t a ta (zU κ 0 (0) (nI (0))) σ τ n hI b (by omega)) wq_yX4_isBoat wm_X4_38 ⟨wn_yX4_isBoat, wo_yX4_isBoat⟩ ⟨rfl, rfl, Nat.le_of_ble_eq_true rfl, Nat.le_of_ble_eq_true rfl⟩ 0 rfl 0 rfl rfl rfl rfl (Nat.le_of_ble_eq_true rfl) dX4_agree_7 ⟨Nat.le_of_ble_eq_true rfl, Nat.le_of_ble_eq_true rfl⟩ rfl rfl ?_
  refine z_if_eqN C (tgt := 33) dX4_agree_10 (by decide) (by omega) (fun c_10 => ?_) (fun c_10 => ?_)
  · exact absurd c_10 (by omega)
  · refine z_aload_n C dX4_agree_13 rfl 0 rfl ?_
    refine z_iload_n C dX4_agree_14 rfl 2 rfl ?_
    refine z_cV C (st' := [.int (nI (1))]) (B' := [(shM t a ta, (zU κ 0 (0) (nI (0)))), (shS a cI, σ), (shS ta cI, τ)]) [true, true, true] rfl (c_X4_isBoat_ok l D cI cZ cJ t a ta (zU κ 0 (0) (nI (0))) σ τ n hI k (by omega)) wq_yX4_isBoat wm_X4_38 ⟨wn_yX4_isBoat, wo_yX4_isBoat⟩ ⟨rfl, rfl, Nat.le_of_ble_eq_true rfl, Nat.le_of_ble_eq_true rfl⟩ 0 rfl 0 rfl rfl rfl rfl (Nat.le_of_ble_eq_true rfl) dX4_agree_15 ⟨Nat.le_of_ble_eq_true rfl, Nat.le_of_ble_eq_true rfl⟩ rfl rfl ?_
    refine z_if_eqN C (tgt := 33) dX4_agree_18 (by decide) (by omega) (fun c_18 => ?_) (fun c_18 => ?_)
    · exact absurd c_18 (by omega)
    · refine z_aload_n C dX4_agree_21 rfl 0 rfl ?_
      refine z_getR C wu_X4 0 rfl 0 rfl rfl 1 (by decide) rfl wf_X4_10 dX4_agree_22 ?_
      refine z_iload_n C dX4_agree_25 rfl 1 rfl ?_
      refine z_iload_n C dX4_agree_26 rfl 2 rfl ?_
      have hf_1 := fl_agr_m σ b k
      have hf_2 := hI.lnT (i := b) (by omega)
      have hf_3 := hI.lnT (i := k) (by omega)
      refine z_cV C (st' := [.int (nI (fl_agr σ b k))]) (B' := [(shM t a ta, (zU κ 0 (0) (nI (0)))), (shS a cI, σ), (shS ta cI, τ)]) [false, true, false] rfl (c_X3_agree l D cI cZ cJ a σ n hI b k (by omega) (by omega)) wq_yX3_agree wm_X4_97 ⟨wn_yX3_agree, wo_yX3_agree⟩ ⟨rfl, rfl, Nat.le_of_ble_eq_true rfl, Nat.le_of_ble_eq_true rfl⟩ 1 rfl 0 rfl rfl rfl rfl (Nat.le_of_ble_eq_true rfl) dX4_agree_27 ⟨Nat.le_of_ble_eq_true rfl, Nat.le_of_ble_eq_true rfl⟩ rfl rfl ?_
      refine z_goto C (tgt := 38) dX4_agree_30 (by decide) ?_
      rw [hQ]; exact z_iret C hr dX4_agree_38 ⟨rfl, rfl⟩
set_option maxHeartbeats 4000000 in
set_option maxRecDepth 100000 in
theorem c_X4_agree_b1 (l : Launch) (D : va_G) (cI cZ cJ : ClassId) (t : Nat) (a ta : Nat → Nat) (κ σ τ : zF) (n : Nat) (hI : fl_Iv n σ) (x : Int32) (k : Int32) (hx : x < 0 ∨ nI n ≤ x) : zM l D (tyL cI cZ cJ) yX4_agree cX4_agree 3 (some .int) (zR 2 43) [.ref (t), .int (x), .int (k)] [(shM t a ta, κ), (shS a cI, σ), (shS ta cI, τ)] 0 0 (fun r u => r = some (.int (nI (0))) ∧ u = [(shM t a ta, (zU κ 0 (0) (nI (1)))), (shS a cI, σ), (shS ta cI, τ)]) := by
  have hn3 := hI.n3
  have hn7 := hI.n7
  refine z_of (by decide) (Nat.le_of_ble_eq_true rfl) rfl ?_
  intro p e s m args below meth c A C hr hin
  obtain ⟨Q, hQ⟩ : ∃ Q, Q = MQ below (zQ (fun r u => r = some (.int (nI (0))) ∧ u = [(shM t a ta, (zU κ 0 (0) (nI (1)))), (shS a cI, σ), (shS ta cI, τ)]) D (tyL cI cZ cJ) A) args s 0 0 A := ⟨_, rfl⟩
  rw [← hQ]
  refine z_aload_n C dX4_agree_0 rfl 0 rfl ?_
  refine z_iconst C (v := nI (0)) (by decide) dX4_agree_1 ?_
  refine z_putI C (B' := [(shM t a ta, (zU κ 0 (0) (nI (0)))), (shS a cI, σ), (shS ta cI, τ)]) wu_X4 tyX4_ok nmX4 0 rfl 0 rfl rfl 0 (by decide) rfl wf_X4_19 rfl (by decide +kernel) dX4_agree_2 rfl ?_
  refine z_aload_n C dX4_agree_5 rfl 0 rfl ?_
  refine z_iload_n C dX4_agree_6 rfl 1 rfl ?_
  refine z_cV C (st' := [.int (nI (0))]) (B' := [(shM t a ta, (zU κ 0 (0) (nI (0)))), (shS a cI, σ), (shS ta cI, τ)]) [true, true, true] rfl (c_X4_isBoat_no l D cI cZ cJ t a ta (zU κ 0 (0) (nI (0))) σ τ n hI x (hx)) wq_yX4_isBoat wm_X4_38 ⟨wn_yX4_isBoat, wo_yX4_isBoat⟩ ⟨rfl, rfl, Nat.le_of_ble_eq_true rfl, Nat.le_of_ble_eq_true rfl⟩ 0 rfl 0 rfl rfl rfl rfl (Nat.le_of_ble_eq_true rfl) dX4_agree_7 ⟨Nat.le_of_ble_eq_true rfl, Nat.le_of_ble_eq_true rfl⟩ rfl rfl ?_
  refine z_if_eqN C (tgt := 33) dX4_agree_10 (by decide) (by omega) (fun c_10 => ?_) (fun c_10 => ?_)
  · refine z_aload_n C dX4_agree_33 rfl 0 rfl ?_
    refine z_iconst C (v := nI (1)) (by decide) dX4_agree_34 ?_
    refine z_cV C (st' := [.int (nI (0))]) (B' := [(shM t a ta, (zU (zU κ 0 (0) (nI (0))) 0 (0) (nI (1)))), (shS a cI, σ), (shS ta cI, τ)]) [true, true, true] rfl (c_X4_no l D cI cZ cJ t a ta (zU κ 0 (0) (nI (0))) σ τ n hI 1) wq_yX4_no wm_X4_30 ⟨wn_yX4_no, wo_yX4_no⟩ ⟨rfl, rfl, Nat.le_of_ble_eq_true rfl, Nat.le_of_ble_eq_true rfl⟩ 0 rfl 0 rfl rfl rfl rfl (Nat.le_of_ble_eq_true rfl) dX4_agree_35 ⟨Nat.le_of_ble_eq_true rfl, Nat.le_of_ble_eq_true rfl⟩ rfl rfl ?_
    refine z_eq (B' := [(shM t a ta, (zU κ 0 (0) (nI (1)))), (shS a cI, σ), (shS ta cI, τ)]) (congrArg (fun x => [(shM t a ta, x), (shS a cI, σ), (shS ta cI, τ)]) (zU_tw _ _ _ _ _)) ?_
    rw [hQ]; exact z_iret C hr dX4_agree_38 ⟨rfl, rfl⟩
  · exact absurd c_10 (by omega)
set_option maxHeartbeats 4000000 in
set_option maxRecDepth 100000 in
theorem c_X4_agree_b2 (l : Launch) (D : va_G) (cI cZ cJ : ClassId) (t : Nat) (a ta : Nat → Nat) (κ σ τ : zF) (n : Nat) (hI : fl_Iv n σ) (b : Nat) (x : Int32) (hb : b < n) (hx : x < 0 ∨ nI n ≤ x) : zM l D (tyL cI cZ cJ) yX4_agree cX4_agree 3 (some .int) (zR 2 43) [.ref (t), .int (nI (b)), .int (x)] [(shM t a ta, κ), (shS a cI, σ), (shS ta cI, τ)] 0 0 (fun r u => r = some (.int (nI (0))) ∧ u = [(shM t a ta, (zU κ 0 (0) (nI (1)))), (shS a cI, σ), (shS ta cI, τ)]) := by
  have hn3 := hI.n3
  have hn7 := hI.n7
  refine z_of (by decide) (Nat.le_of_ble_eq_true rfl) rfl ?_
  intro p e s m args below meth c A C hr hin
  obtain ⟨Q, hQ⟩ : ∃ Q, Q = MQ below (zQ (fun r u => r = some (.int (nI (0))) ∧ u = [(shM t a ta, (zU κ 0 (0) (nI (1)))), (shS a cI, σ), (shS ta cI, τ)]) D (tyL cI cZ cJ) A) args s 0 0 A := ⟨_, rfl⟩
  rw [← hQ]
  refine z_aload_n C dX4_agree_0 rfl 0 rfl ?_
  refine z_iconst C (v := nI (0)) (by decide) dX4_agree_1 ?_
  refine z_putI C (B' := [(shM t a ta, (zU κ 0 (0) (nI (0)))), (shS a cI, σ), (shS ta cI, τ)]) wu_X4 tyX4_ok nmX4 0 rfl 0 rfl rfl 0 (by decide) rfl wf_X4_19 rfl (by decide +kernel) dX4_agree_2 rfl ?_
  refine z_aload_n C dX4_agree_5 rfl 0 rfl ?_
  refine z_iload_n C dX4_agree_6 rfl 1 rfl ?_
  refine z_cV C (st' := [.int (nI (1))]) (B' := [(shM t a ta, (zU κ 0 (0) (nI (0)))), (shS a cI, σ), (shS ta cI, τ)]) [true, true, true] rfl (c_X4_isBoat_ok l D cI cZ cJ t a ta (zU κ 0 (0) (nI (0))) σ τ n hI b (by omega)) wq_yX4_isBoat wm_X4_38 ⟨wn_yX4_isBoat, wo_yX4_isBoat⟩ ⟨rfl, rfl, Nat.le_of_ble_eq_true rfl, Nat.le_of_ble_eq_true rfl⟩ 0 rfl 0 rfl rfl rfl rfl (Nat.le_of_ble_eq_true rfl) dX4_agree_7 ⟨Nat.le_of_ble_eq_true rfl, Nat.le_of_ble_eq_true rfl⟩ rfl rfl ?_
  refine z_if_eqN C (tgt := 33) dX4_agree_10 (by decide) (by omega) (fun c_10 => ?_) (fun c_10 => ?_)
  · exact absurd c_10 (by omega)
  · refine z_aload_n C dX4_agree_13 rfl 0 rfl ?_
    refine z_iload_n C dX4_agree_14 rfl 2 rfl ?_
    refine z_cV C (st' := [.int (nI (0))]) (B' := [(shM t a ta, (zU κ 0 (0) (nI (0)))), (shS a cI, σ), (shS ta cI, τ)]) [true, true, true] rfl (c_X4_isBoat_no l D cI cZ cJ t a ta (zU κ 0 (0) (nI (0))) σ τ n hI x (hx)) wq_yX4_isBoat wm_X4_38 ⟨wn_yX4_isBoat, wo_yX4_isBoat⟩ ⟨rfl, rfl, Nat.le_of_ble_eq_true rfl, Nat.le_of_ble_eq_true rfl⟩ 0 rfl 0 rfl rfl rfl rfl (Nat.le_of_ble_eq_true rfl) dX4_agree_15 ⟨Nat.le_of_ble_eq_true rfl, Nat.le_of_ble_eq_true rfl⟩ rfl rfl ?_
    refine z_if_eqN C (tgt := 33) dX4_agree_18 (by decide) (by omega) (fun c_18 => ?_) (fun c_18 => ?_)
    · refine z_aload_n C dX4_agree_33 rfl 0 rfl ?_
      refine z_iconst C (v := nI (1)) (by decide) dX4_agree_34 ?_
      refine z_cV C (st' := [.int (nI (0))]) (B' := [(shM t a ta, (zU (zU κ 0 (0) (nI (0))) 0 (0) (nI (1)))), (shS a cI, σ), (shS ta cI, τ)]) [true, true, true] rfl (c_X4_no l D cI cZ cJ t a ta (zU κ 0 (0) (nI (0))) σ τ n hI 1) wq_yX4_no wm_X4_30 ⟨wn_yX4_no, wo_yX4_no⟩ ⟨rfl, rfl, Nat.le_of_ble_eq_true rfl, Nat.le_of_ble_eq_true rfl⟩ 0 rfl 0 rfl rfl rfl rfl (Nat.le_of_ble_eq_true rfl) dX4_agree_35 ⟨Nat.le_of_ble_eq_true rfl, Nat.le_of_ble_eq_true rfl⟩ rfl rfl ?_
      refine z_eq (B' := [(shM t a ta, (zU κ 0 (0) (nI (1)))), (shS a cI, σ), (shS ta cI, τ)]) (congrArg (fun x => [(shM t a ta, x), (shS a cI, σ), (shS ta cI, τ)]) (zU_tw _ _ _ _ _)) ?_
      rw [hQ]; exact z_iret C hr dX4_agree_38 ⟨rfl, rfl⟩
    · exact absurd c_18 (by omega)
set_option maxHeartbeats 4000000 in
set_option maxRecDepth 100000 in
theorem c_X4_newer (l : Launch) (D : va_G) (cI cZ cJ : ClassId) (t : Nat) (a ta : Nat → Nat) (κ σ τ : zF) (n : Nat) (hI : fl_Iv n σ) (b : Nat) (k : Nat) (hb : b < n) (hk : k < n) : zM l D (tyL cI cZ cJ) yX4_newer cX4_newer 3 (some .boolean) (zR 2 43) [.ref (t), .int (nI (b)), .int (nI (k))] [(shM t a ta, κ), (shS a cI, σ), (shS ta cI, τ)] 0 0 (fun r u => r = some (.int (zb (fl_nw σ b k))) ∧ u = [(shM t a ta, (zU κ 0 (0) (nI (0)))), (shS a cI, σ), (shS ta cI, τ)]) := by
  have hn3 := hI.n3
  have hn7 := hI.n7
  refine z_of (by decide) (Nat.le_of_ble_eq_true rfl) rfl ?_
  intro p e s m args below meth c A C hr hin
  obtain ⟨Q, hQ⟩ : ∃ Q, Q = MQ below (zQ (fun r u => r = some (.int (zb (fl_nw σ b k))) ∧ u = [(shM t a ta, (zU κ 0 (0) (nI (0)))), (shS a cI, σ), (shS ta cI, τ)]) D (tyL cI cZ cJ) A) args s 0 0 A := ⟨_, rfl⟩
  rw [← hQ]
  refine z_aload_n C dX4_newer_0 rfl 0 rfl ?_
  refine z_aload_n C dX4_newer_1 rfl 0 rfl ?_
  refine z_iload_n C dX4_newer_2 rfl 1 rfl ?_
  refine z_cV C (st' := [.int (nI (1)), .ref (t)]) (B' := [(shM t a ta, κ), (shS a cI, σ), (shS ta cI, τ)]) [true, true, true] rfl (c_X4_isBoat_ok l D cI cZ cJ t a ta κ σ τ n hI b (by omega)) wq_yX4_isBoat wm_X4_38 ⟨wn_yX4_isBoat, wo_yX4_isBoat⟩ ⟨rfl, rfl, Nat.le_of_ble_eq_true rfl, Nat.le_of_ble_eq_true rfl⟩ 0 rfl 0 rfl rfl rfl rfl (Nat.le_of_ble_eq_true rfl) dX4_newer_3 ⟨Nat.le_of_ble_eq_true rfl, Nat.le_of_ble_eq_true rfl⟩ rfl rfl ?_
  refine z_if_eqN C (tgt := 21) dX4_newer_6 (by decide) (by omega) (fun c_6 => ?_) (fun c_6 => ?_)
  · exact absurd c_6 (by omega)
  · refine z_aload_n C dX4_newer_9 rfl 0 rfl ?_
    refine z_iload_n C dX4_newer_10 rfl 2 rfl ?_
    refine z_cV C (st' := [.int (nI (1)), .ref (t)]) (B' := [(shM t a ta, κ), (shS a cI, σ), (shS ta cI, τ)]) [true, true, true] rfl (c_X4_isBoat_ok l D cI cZ cJ t a ta κ σ τ n hI k (by omega)) wq_yX4_isBoat wm_X4_38 ⟨wn_yX4_isBoat, wo_yX4_isBoat⟩ ⟨rfl, rfl, Nat.le_of_ble_eq_true rfl, Nat.le_of_ble_eq_true rfl⟩ 0 rfl 0 rfl rfl rfl rfl (Nat.le_of_ble_eq_true rfl) dX4_newer_11 ⟨Nat.le_of_ble_eq_true rfl, Nat.le_of_ble_eq_true rfl⟩ rfl rfl ?_
    refine z_if_eqN C (tgt := 21) dX4_newer_14 (by decide) (by omega) (fun c_14 => ?_) (fun c_14 => ?_)
    · exact absurd c_14 (by omega)
    · refine z_iconst C (v := nI (0)) (by decide) dX4_newer_17 ?_
      refine z_goto C (tgt := 22) dX4_newer_18 (by decide) ?_
      refine z_putI C (B' := [(shM t a ta, (zU κ 0 (0) (nI (0)))), (shS a cI, σ), (shS ta cI, τ)]) wu_X4 tyX4_ok nmX4 0 rfl 0 rfl rfl 0 (by decide) rfl wf_X4_19 rfl (by decide +kernel) dX4_newer_22 rfl ?_
      refine z_aload_n C dX4_newer_25 rfl 0 rfl ?_
      refine z_getI C wu_X4 0 rfl 0 rfl rfl 0 (by decide) rfl wf_X4_19 dX4_newer_26 ?_
      refine z_top (y := nI (0)) (zU_self _ _ _ _) ?_
      refine z_if_neN C (tgt := 48) dX4_newer_29 (by decide) (by omega) (fun c_29 => ?_) (fun c_29 => ?_)
      · exact absurd c_29 (by omega)
      · refine z_aload_n C dX4_newer_32 rfl 0 rfl ?_
        refine z_getR C wu_X4 0 rfl 0 rfl rfl 1 (by decide) rfl wf_X4_10 dX4_newer_33 ?_
        refine z_iload_n C dX4_newer_36 rfl 1 rfl ?_
        refine z_iload_n C dX4_newer_37 rfl 2 rfl ?_
        refine z_cV C (st' := [.int (zb (fl_nw σ b k))]) (B' := [(shM t a ta, (zU κ 0 (0) (nI (0)))), (shS a cI, σ), (shS ta cI, τ)]) [false, true, false] rfl (c_X3_isAsNew l D cI cZ cJ a σ n hI b k (by omega) (by omega)) wq_yX3_isAsNew wm_X4_104 ⟨wn_yX3_isAsNew, wo_yX3_isAsNew⟩ ⟨rfl, rfl, Nat.le_of_ble_eq_true rfl, Nat.le_of_ble_eq_true rfl⟩ 1 rfl 0 rfl rfl rfl rfl (Nat.le_of_ble_eq_true rfl) dX4_newer_38 ⟨Nat.le_of_ble_eq_true rfl, Nat.le_of_ble_eq_true rfl⟩ rfl rfl ?_
        refine z_if_eqB C (tgt := 48) dX4_newer_41 (by decide) (fun c_41 => ?_) (fun c_41 => ?_)
        · refine z_iconst C (v := nI (0)) (by decide) dX4_newer_48 ?_
          rw [hQ]; exact z_zret C hr (by decide) dX4_newer_49 ⟨z_b0 (by exact c_41), rfl⟩
        · refine z_iconst C (v := nI (1)) (by decide) dX4_newer_44 ?_
          refine z_goto C (tgt := 49) dX4_newer_45 (by decide) ?_
          rw [hQ]; exact z_zret C hr (by decide) dX4_newer_49 ⟨z_b1 (by exact c_41), rfl⟩
set_option maxHeartbeats 4000000 in
set_option maxRecDepth 100000 in
theorem c_X4_newer_b1 (l : Launch) (D : va_G) (cI cZ cJ : ClassId) (t : Nat) (a ta : Nat → Nat) (κ σ τ : zF) (n : Nat) (hI : fl_Iv n σ) (x : Int32) (k : Int32) (hx : x < 0 ∨ nI n ≤ x) : zM l D (tyL cI cZ cJ) yX4_newer cX4_newer 3 (some .boolean) (zR 2 43) [.ref (t), .int (x), .int (k)] [(shM t a ta, κ), (shS a cI, σ), (shS ta cI, τ)] 0 0 (fun r u => r = some (.int (nI (0))) ∧ u = [(shM t a ta, (zU κ 0 (0) (nI (1)))), (shS a cI, σ), (shS ta cI, τ)]) := by
  have hn3 := hI.n3
  have hn7 := hI.n7
  refine z_of (by decide) (Nat.le_of_ble_eq_true rfl) rfl ?_
  intro p e s m args below meth c A C hr hin
  obtain ⟨Q, hQ⟩ : ∃ Q, Q = MQ below (zQ (fun r u => r = some (.int (nI (0))) ∧ u = [(shM t a ta, (zU κ 0 (0) (nI (1)))), (shS a cI, σ), (shS ta cI, τ)]) D (tyL cI cZ cJ) A) args s 0 0 A := ⟨_, rfl⟩
  rw [← hQ]
  refine z_aload_n C dX4_newer_0 rfl 0 rfl ?_
  refine z_aload_n C dX4_newer_1 rfl 0 rfl ?_
  refine z_iload_n C dX4_newer_2 rfl 1 rfl ?_
  refine z_cV C (st' := [.int (nI (0)), .ref (t)]) (B' := [(shM t a ta, κ), (shS a cI, σ), (shS ta cI, τ)]) [true, true, true] rfl (c_X4_isBoat_no l D cI cZ cJ t a ta κ σ τ n hI x (hx)) wq_yX4_isBoat wm_X4_38 ⟨wn_yX4_isBoat, wo_yX4_isBoat⟩ ⟨rfl, rfl, Nat.le_of_ble_eq_true rfl, Nat.le_of_ble_eq_true rfl⟩ 0 rfl 0 rfl rfl rfl rfl (Nat.le_of_ble_eq_true rfl) dX4_newer_3 ⟨Nat.le_of_ble_eq_true rfl, Nat.le_of_ble_eq_true rfl⟩ rfl rfl ?_
  refine z_if_eqN C (tgt := 21) dX4_newer_6 (by decide) (by omega) (fun c_6 => ?_) (fun c_6 => ?_)
  · refine z_iconst C (v := nI (1)) (by decide) dX4_newer_21 ?_
    refine z_putI C (B' := [(shM t a ta, (zU κ 0 (0) (nI (1)))), (shS a cI, σ), (shS ta cI, τ)]) wu_X4 tyX4_ok nmX4 0 rfl 0 rfl rfl 0 (by decide) rfl wf_X4_19 rfl (by decide +kernel) dX4_newer_22 rfl ?_
    refine z_aload_n C dX4_newer_25 rfl 0 rfl ?_
    refine z_getI C wu_X4 0 rfl 0 rfl rfl 0 (by decide) rfl wf_X4_19 dX4_newer_26 ?_
    refine z_top (y := nI (1)) (zU_self _ _ _ _) ?_
    refine z_if_neN C (tgt := 48) dX4_newer_29 (by decide) (by omega) (fun c_29 => ?_) (fun c_29 => ?_)
    · refine z_iconst C (v := nI (0)) (by decide) dX4_newer_48 ?_
      rw [hQ]; exact z_zret C hr (by decide) dX4_newer_49 ⟨rfl, rfl⟩
    · exact absurd c_29 (by omega)
  · exact absurd c_6 (by omega)
set_option maxHeartbeats 4000000 in
set_option maxRecDepth 100000 in
theorem c_X4_newer_b2 (l : Launch) (D : va_G) (cI cZ cJ : ClassId) (t : Nat) (a ta : Nat → Nat) (κ σ τ : zF) (n : Nat) (hI : fl_Iv n σ) (b : Nat) (x : Int32) (hb : b < n) (hx : x < 0 ∨ nI n ≤ x) : zM l D (tyL cI cZ cJ) yX4_newer cX4_newer 3 (some .boolean) (zR 2 43) [.ref (t), .int (nI (b)), .int (x)] [(shM t a ta, κ), (shS a cI, σ), (shS ta cI, τ)] 0 0 (fun r u => r = some (.int (nI (0))) ∧ u = [(shM t a ta, (zU κ 0 (0) (nI (1)))), (shS a cI, σ), (shS ta cI, τ)]) := by
  have hn3 := hI.n3
  have hn7 := hI.n7
  refine z_of (by decide) (Nat.le_of_ble_eq_true rfl) rfl ?_
  intro p e s m args below meth c A C hr hin
  obtain ⟨Q, hQ⟩ : ∃ Q, Q = MQ below (zQ (fun r u => r = some (.int (nI (0))) ∧ u = [(shM t a ta, (zU κ 0 (0) (nI (1)))), (shS a cI, σ), (shS ta cI, τ)]) D (tyL cI cZ cJ) A) args s 0 0 A := ⟨_, rfl⟩
  rw [← hQ]
  refine z_aload_n C dX4_newer_0 rfl 0 rfl ?_
  refine z_aload_n C dX4_newer_1 rfl 0 rfl ?_
  refine z_iload_n C dX4_newer_2 rfl 1 rfl ?_
  refine z_cV C (st' := [.int (nI (1)), .ref (t)]) (B' := [(shM t a ta, κ), (shS a cI, σ), (shS ta cI, τ)]) [true, true, true] rfl (c_X4_isBoat_ok l D cI cZ cJ t a ta κ σ τ n hI b (by omega)) wq_yX4_isBoat wm_X4_38 ⟨wn_yX4_isBoat, wo_yX4_isBoat⟩ ⟨rfl, rfl, Nat.le_of_ble_eq_true rfl, Nat.le_of_ble_eq_true rfl⟩ 0 rfl 0 rfl rfl rfl rfl (Nat.le_of_ble_eq_true rfl) dX4_newer_3 ⟨Nat.le_of_ble_eq_true rfl, Nat.le_of_ble_eq_true rfl⟩ rfl rfl ?_
  refine z_if_eqN C (tgt := 21) dX4_newer_6 (by decide) (by omega) (fun c_6 => ?_) (fun c_6 => ?_)
  · exact absurd c_6 (by omega)
  · refine z_aload_n C dX4_newer_9 rfl 0 rfl ?_
    refine z_iload_n C dX4_newer_10 rfl 2 rfl ?_
    refine z_cV C (st' := [.int (nI (0)), .ref (t)]) (B' := [(shM t a ta, κ), (shS a cI, σ), (shS ta cI, τ)]) [true, true, true] rfl (c_X4_isBoat_no l D cI cZ cJ t a ta κ σ τ n hI x (hx)) wq_yX4_isBoat wm_X4_38 ⟨wn_yX4_isBoat, wo_yX4_isBoat⟩ ⟨rfl, rfl, Nat.le_of_ble_eq_true rfl, Nat.le_of_ble_eq_true rfl⟩ 0 rfl 0 rfl rfl rfl rfl (Nat.le_of_ble_eq_true rfl) dX4_newer_11 ⟨Nat.le_of_ble_eq_true rfl, Nat.le_of_ble_eq_true rfl⟩ rfl rfl ?_
    refine z_if_eqN C (tgt := 21) dX4_newer_14 (by decide) (by omega) (fun c_14 => ?_) (fun c_14 => ?_)
    · refine z_iconst C (v := nI (1)) (by decide) dX4_newer_21 ?_
      refine z_putI C (B' := [(shM t a ta, (zU κ 0 (0) (nI (1)))), (shS a cI, σ), (shS ta cI, τ)]) wu_X4 tyX4_ok nmX4 0 rfl 0 rfl rfl 0 (by decide) rfl wf_X4_19 rfl (by decide +kernel) dX4_newer_22 rfl ?_
      refine z_aload_n C dX4_newer_25 rfl 0 rfl ?_
      refine z_getI C wu_X4 0 rfl 0 rfl rfl 0 (by decide) rfl wf_X4_19 dX4_newer_26 ?_
      refine z_top (y := nI (1)) (zU_self _ _ _ _) ?_
      refine z_if_neN C (tgt := 48) dX4_newer_29 (by decide) (by omega) (fun c_29 => ?_) (fun c_29 => ?_)
      · refine z_iconst C (v := nI (0)) (by decide) dX4_newer_48 ?_
        rw [hQ]; exact z_zret C hr (by decide) dX4_newer_49 ⟨rfl, rfl⟩
      · exact absurd c_29 (by omega)
    · exact absurd c_14 (by omega)
set_option maxHeartbeats 4000000 in
set_option maxRecDepth 100000 in
theorem c_X4_leader (l : Launch) (D : va_G) (cI cZ cJ : ClassId) (t : Nat) (a ta : Nat → Nat) (κ σ τ : zF) (n : Nat) (hI : fl_Iv n σ) : zM l D (tyL cI cZ cJ) yX4_leader cX4_leader 3 (some .int) (zR 1 22) [.ref (t)] [(shM t a ta, κ), (shS a cI, σ), (shS ta cI, τ)] 0 0 (fun r u => r = some (.int (fl_oI (fl_ldr σ n))) ∧ u = [(shM t a ta, (zU κ 0 (0) (nI (0)))), (shS a cI, σ), (shS ta cI, τ)]) := by
  have hn3 := hI.n3
  have hn7 := hI.n7
  refine z_of (by decide) (Nat.le_of_ble_eq_true rfl) rfl ?_
  intro p e s m args below meth c A C hr hin
  obtain ⟨Q, hQ⟩ : ∃ Q, Q = MQ below (zQ (fun r u => r = some (.int (fl_oI (fl_ldr σ n))) ∧ u = [(shM t a ta, (zU κ 0 (0) (nI (0)))), (shS a cI, σ), (shS ta cI, τ)]) D (tyL cI cZ cJ) A) args s 0 0 A := ⟨_, rfl⟩
  rw [← hQ]
  refine z_aload_n C dX4_leader_0 rfl 0 rfl ?_
  refine z_iconst C (v := nI (0)) (by decide) dX4_leader_1 ?_
  refine z_putI C (B' := [(shM t a ta, (zU κ 0 (0) (nI (0)))), (shS a cI, σ), (shS ta cI, τ)]) wu_X4 tyX4_ok nmX4 0 rfl 0 rfl rfl 0 (by decide) rfl wf_X4_19 rfl (by decide +kernel) dX4_leader_2 rfl ?_
  refine z_iconst C (v := -1) (by decide) dX4_leader_5 ?_
  refine z_istore_n C (L' := [(1, .int (-1)), (0, .ref (t))]) dX4_leader_6 rfl (by decide) rfl ?_
  refine z_iconst C (v := nI (0)) (by decide) dX4_leader_7 ?_
  refine z_istore_n C (L' := [(2, .int (nI (0))), (1, .int (-1)), (0, .ref (t))]) dX4_leader_8 rfl (by decide) rfl ?_
  have loop_9 : ∀ (k_9 o : Nat) (r : Option Nat), n < o + k_9 → o ≤ n → (hbs : r = fl_ldr σ o) → zK p l e (zR 1 22) s m args below meth c D A 3 Q 0 0 9 [(2, .int (nI (o))), (1, .int (fl_oI r)), (0, .ref (t))] [] [(shM t a ta, (zU κ 0 (0) (nI (0)))), (shS a cI, σ), (shS ta cI, τ)] := by
    intro k_9
    induction k_9 with
    | zero => intro o r m1_9 m2_9; exact absurd m1_9 (by omega)
    | succ k_9 ih_9 =>
      intro o r m1_9 m2_9 hbs
      refine z_iload_n C dX4_leader_9 rfl 0 rfl ?_
      refine z_aload_n C dX4_leader_10 rfl 2 rfl ?_
      refine z_getR C wu_X4 0 rfl 0 rfl rfl 1 (by decide) rfl wf_X4_10 dX4_leader_11 ?_
      refine z_getIN C wu_X3 1 rfl 0 rfl rfl 0 (by decide) rfl wf_X4_23 dX4_leader_14 ?_
      refine z_top (hI.n0 : _ = nI n) ?_
      refine z_icmp_geN C (tgt := 66) dX4_leader_17 (by decide) (by omega) (by omega) (fun c_17 => ?_) (fun c_17 => ?_)
      · refine z_iload_n C dX4_leader_66 rfl 1 rfl ?_
        rw [hQ]; exact z_iret C hr dX4_leader_67 ⟨congrArg (fun x => some (Value.int x)) (by rw [hbs, show o = n by omega]), rfl⟩
      · refine z_aload_n C dX4_leader_20 rfl 2 rfl ?_
        refine z_getR C wu_X4 0 rfl 0 rfl rfl 1 (by decide) rfl wf_X4_10 dX4_leader_21 ?_
        refine z_iload_n C dX4_leader_24 rfl 0 rfl ?_
        refine z_iconst C (v := nI (2)) (by decide) dX4_leader_25 ?_
        refine z_cV C (st' := [.int (zb (fl_lead σ o))]) (B' := [(shM t a ta, (zU κ 0 (0) (nI (0)))), (shS a cI, σ), (shS ta cI, τ)]) [false, true, false] rfl (c_X3_isUp l D cI cZ cJ a σ n hI o 2 (by omega)) wq_yX3_isUp wm_X4_61 ⟨wn_yX3_isUp, wo_yX3_isUp⟩ ⟨rfl, rfl, Nat.le_of_ble_eq_true rfl, Nat.le_of_ble_eq_true rfl⟩ 1 rfl 0 rfl rfl rfl rfl (Nat.le_of_ble_eq_true rfl) dX4_leader_26 ⟨Nat.le_of_ble_eq_true rfl, Nat.le_of_ble_eq_true rfl⟩ rfl rfl ?_
        refine z_if_eqB C (tgt := 60) dX4_leader_29 (by decide) (fun c_29 => ?_) (fun c_29 => ?_)
        · refine z_iinc C (L' := [(2, .int (nI (o + 1))), (1, .int (fl_oI r)), (0, .ref (t))]) dX4_leader_60 0 rfl (z_inc1 _) (by decide) rfl ?_
          refine z_goto C (tgt := 9) dX4_leader_63 (by decide) ?_
          refine z_sub (L' := [(2, .int (nI (o + 1))), (1, .int (fl_oI r)), (0, .ref (t))]) [0, 1, 2] rfl ?_
          exact ih_9 (o + 1) r (by omega) (by omega) (by rw [fl_ldr, ← hbs]; simp [c_29])
        · rcases r with _ | j
          · refine z_sub (L' := [(2, .int (nI (o))), (1, .int (-1)), (0, .ref (t))]) [0, 1, 2] rfl ?_
            refine z_iload_n C dX4_leader_32 rfl 1 rfl ?_
            refine z_iconst C (v := -1) (by decide) dX4_leader_33 ?_
            refine z_icmp_eq C (tgt := 58) dX4_leader_34 (by decide) (fun c_34 => ?_) (fun c_34 => ?_)
            · refine z_iload_n C dX4_leader_58 rfl 0 rfl ?_
              refine z_istore_n C (L' := [(1, .int (nI (o))), (2, .int (nI (o))), (0, .ref (t))]) dX4_leader_59 rfl (by decide) rfl ?_
              refine z_iinc C (L' := [(2, .int (nI (o + 1))), (1, .int (nI (o))), (0, .ref (t))]) dX4_leader_60 1 rfl (z_inc1 _) (by decide) rfl ?_
              refine z_goto C (tgt := 9) dX4_leader_63 (by decide) ?_
              refine z_sub (L' := [(2, .int (nI (o + 1))), (1, .int (nI (o))), (0, .ref (t))]) [0, 1, 2] rfl ?_
              exact ih_9 (o + 1) (some o) (by omega) (by omega) (by rw [fl_ldr, ← hbs]; simp [c_29])
            · exact absurd rfl c_34
          · refine z_sub (L' := [(2, .int (nI (o))), (1, .int (nI (j))), (0, .ref (t))]) [0, 1, 2] rfl ?_
            have hjn : j < n := Nat.lt_trans (fl_ldr_lt σ o j hbs.symm) (by omega)
            refine z_iload_n C dX4_leader_32 rfl 1 rfl ?_
            refine z_iconst C (v := -1) (by decide) dX4_leader_33 ?_
            refine z_icmp_eq C (tgt := 58) dX4_leader_34 (by decide) (fun c_34 => ?_) (fun c_34 => ?_)
            · exact absurd c_34 (nI_ne_m1 (by omega))
            · refine z_aload_n C dX4_leader_37 rfl 2 rfl ?_
              refine z_getR C wu_X4 0 rfl 0 rfl rfl 1 (by decide) rfl wf_X4_10 dX4_leader_38 ?_
              refine z_getRN C wu_X3 1 rfl 0 rfl rfl 7 (by decide) rfl wf_X4_68 dX4_leader_41 ?_
              refine z_iload_n C dX4_leader_44 rfl 0 rfl ?_
              refine z_iald C 1 rfl 3 0 rfl rfl dX4_leader_45 (by omega) (by decide) ?_
              refine z_aload_n C dX4_leader_46 rfl 2 rfl ?_
              refine z_getR C wu_X4 0 rfl 0 rfl rfl 1 (by decide) rfl wf_X4_10 dX4_leader_47 ?_
              refine z_getRN C wu_X3 1 rfl 0 rfl rfl 7 (by decide) rfl wf_X4_68 dX4_leader_50 ?_
              refine z_iload_n C dX4_leader_53 rfl 1 rfl ?_
              refine z_iald C 1 rfl 3 0 rfl rfl dX4_leader_54 (by omega) (by decide) ?_
              refine z_icmp_le C (tgt := 60) dX4_leader_55 (by decide) (fun c_55 => ?_) (fun c_55 => ?_)
              · refine z_iinc C (L' := [(2, .int (nI (o + 1))), (1, .int (nI (j))), (0, .ref (t))]) dX4_leader_60 0 rfl (z_inc1 _) (by decide) rfl ?_
                refine z_goto C (tgt := 9) dX4_leader_63 (by decide) ?_
                refine z_sub (L' := [(2, .int (nI (o + 1))), (1, .int (nI (j))), (0, .ref (t))]) [0, 1, 2] rfl ?_
                exact ih_9 (o + 1) (some j) (by omega) (by omega) (by rw [fl_ldr, ← hbs]; simp [c_29, Int32.not_lt.mpr c_55])
              · refine z_iload_n C dX4_leader_58 rfl 0 rfl ?_
                refine z_istore_n C (L' := [(1, .int (nI (o))), (2, .int (nI (o))), (0, .ref (t))]) dX4_leader_59 rfl (by decide) rfl ?_
                refine z_iinc C (L' := [(2, .int (nI (o + 1))), (1, .int (nI (o))), (0, .ref (t))]) dX4_leader_60 1 rfl (z_inc1 _) (by decide) rfl ?_
                refine z_goto C (tgt := 9) dX4_leader_63 (by decide) ?_
                refine z_sub (L' := [(2, .int (nI (o + 1))), (1, .int (nI (o))), (0, .ref (t))]) [0, 1, 2] rfl ?_
                exact ih_9 (o + 1) (some o) (by omega) (by omega) (by rw [fl_ldr, ← hbs]; simp [c_29, Int32.not_le.mp c_55])
  refine z_sub (L' := [(2, .int (nI (0))), (1, .int (-1)), (0, .ref (t))]) [0, 1, 2] rfl ?_
  exact loop_9 (n + 1) 0 none (by omega) (by omega) rfl
set_option maxHeartbeats 4000000 in
set_option maxRecDepth 100000 in
theorem c_X4_count (l : Launch) (D : va_G) (cI cZ cJ : ClassId) (t : Nat) (a ta : Nat → Nat) (κ σ τ : zF) (n : Nat) (hI : fl_Iv n σ) (w : Nat) (hw : w < 10) : zM l D (tyL cI cZ cJ) yX4_count cX4_count 2 (some .int) (zR 2 49) [.ref (t), .int (nI (w))] [(shM t a ta, κ), (shS a cI, σ), (shS ta cI, τ)] 0 0 (fun r u => r = some (.int (fl_ofF n σ w)) ∧ u = [(shM t a ta, (zU κ 0 (0) (nI (0)))), (shS a cI, σ), (shS ta cI, τ)]) := by
  have hn3 := hI.n3
  have hn7 := hI.n7
  refine z_of (by decide) (Nat.le_of_ble_eq_true rfl) rfl ?_
  intro p e s m args below meth c A C hr hin
  obtain ⟨Q, hQ⟩ : ∃ Q, Q = MQ below (zQ (fun r u => r = some (.int (fl_ofF n σ w)) ∧ u = [(shM t a ta, (zU κ 0 (0) (nI (0)))), (shS a cI, σ), (shS ta cI, τ)]) D (tyL cI cZ cJ) A) args s 0 0 A := ⟨_, rfl⟩
  rw [← hQ]
  refine z_aload_n C dX4_count_0 rfl 0 rfl ?_
  refine z_iconst C (v := nI (0)) (by decide) dX4_count_1 ?_
  refine z_putI C (B' := [(shM t a ta, (zU κ 0 (0) (nI (0)))), (shS a cI, σ), (shS ta cI, τ)]) wu_X4 tyX4_ok nmX4 0 rfl 0 rfl rfl 0 (by decide) rfl wf_X4_19 rfl (by decide +kernel) dX4_count_2 rfl ?_
  refine z_iload_n C dX4_count_5 rfl 1 rfl ?_
  refine z_iconst C (v := nI (0)) (by decide) dX4_count_6 ?_
  refine z_bipush C (v := nI (9)) (by decide) dX4_count_7 ?_
  refine z_cS C (st' := [.int (nI (1))]) (B' := [(shM t a ta, (zU κ 0 (0) (nI (0)))), (shS a cI, σ), (shS ta cI, τ)]) [false, false, false] rfl (c_X4_isIn_ok l D cI cZ cJ (nI (w)) (nI (0)) (nI (9)) (nI_le2 (by omega) (by omega)) (nI_le2 (by omega) (by omega))) wq_yX4_isIn wm_X4_26 ws_yX4_isIn ⟨rfl, rfl, Nat.le_of_ble_eq_true rfl, Nat.le_of_ble_eq_true rfl⟩ rfl rfl (Nat.le_of_ble_eq_true rfl) dX4_count_9 ⟨Nat.le_of_ble_eq_true rfl, Nat.le_of_ble_eq_true rfl⟩ rfl rfl ?_
  refine z_if_eqN C (tgt := 26) dX4_count_12 (by decide) (by omega) (fun c_12 => ?_) (fun c_12 => ?_)
  · exact absurd c_12 (by omega)
  · refine z_aload_n C dX4_count_15 rfl 0 rfl ?_
    refine z_getR C wu_X4 0 rfl 0 rfl rfl 1 (by decide) rfl wf_X4_10 dX4_count_16 ?_
    refine z_iload_n C dX4_count_19 rfl 1 rfl ?_
    refine z_cV C (st' := [.int (fl_ofF n σ w)]) (B' := [(shM t a ta, (zU κ 0 (0) (nI (0)))), (shS a cI, σ), (shS ta cI, τ)]) [false, true, false] rfl (c_X3_counted l D cI cZ cJ a σ n hI w (by omega)) wq_yX3_counted wm_X4_107 ⟨wn_yX3_counted, wo_yX3_counted⟩ ⟨rfl, rfl, Nat.le_of_ble_eq_true rfl, Nat.le_of_ble_eq_true rfl⟩ 1 rfl 0 rfl rfl rfl rfl (Nat.le_of_ble_eq_true rfl) dX4_count_20 ⟨Nat.le_of_ble_eq_true rfl, Nat.le_of_ble_eq_true rfl⟩ rfl rfl ?_
    refine z_goto C (tgt := 31) dX4_count_23 (by decide) ?_
    rw [hQ]; exact z_iret C hr dX4_count_31 ⟨rfl, rfl⟩
set_option maxHeartbeats 4000000 in
set_option maxRecDepth 100000 in
theorem c_X4_count_b1 (l : Launch) (D : va_G) (cI cZ cJ : ClassId) (t : Nat) (a ta : Nat → Nat) (κ σ τ : zF) (n : Nat) (hI : fl_Iv n σ) (x : Int32) (hx : x < 0 ∨ nI 10 ≤ x) : zM l D (tyL cI cZ cJ) yX4_count cX4_count 2 (some .int) (zR 2 49) [.ref (t), .int (x)] [(shM t a ta, κ), (shS a cI, σ), (shS ta cI, τ)] 0 0 (fun r u => r = some (.int (nI (0))) ∧ u = [(shM t a ta, (zU κ 0 (0) (nI (1)))), (shS a cI, σ), (shS ta cI, τ)]) := by
  have hn3 := hI.n3
  have hn7 := hI.n7
  refine z_of (by decide) (Nat.le_of_ble_eq_true rfl) rfl ?_
  intro p e s m args below meth c A C hr hin
  obtain ⟨Q, hQ⟩ : ∃ Q, Q = MQ below (zQ (fun r u => r = some (.int (nI (0))) ∧ u = [(shM t a ta, (zU κ 0 (0) (nI (1)))), (shS a cI, σ), (shS ta cI, τ)]) D (tyL cI cZ cJ) A) args s 0 0 A := ⟨_, rfl⟩
  rw [← hQ]
  refine z_aload_n C dX4_count_0 rfl 0 rfl ?_
  refine z_iconst C (v := nI (0)) (by decide) dX4_count_1 ?_
  refine z_putI C (B' := [(shM t a ta, (zU κ 0 (0) (nI (0)))), (shS a cI, σ), (shS ta cI, τ)]) wu_X4 tyX4_ok nmX4 0 rfl 0 rfl rfl 0 (by decide) rfl wf_X4_19 rfl (by decide +kernel) dX4_count_2 rfl ?_
  refine z_iload_n C dX4_count_5 rfl 1 rfl ?_
  refine z_iconst C (v := nI (0)) (by decide) dX4_count_6 ?_
  refine z_bipush C (v := nI (9)) (by decide) dX4_count_7 ?_
  refine z_cS C (st' := [.int (nI (0))]) (B' := [(shM t a ta, (zU κ 0 (0) (nI (0)))), (shS a cI, σ), (shS ta cI, τ)]) [false, false, false] rfl (c_X4_isIn_no l D cI cZ cJ x (nI (0)) (nI (9)) (lo_hi 9 hx (by omega))) wq_yX4_isIn wm_X4_26 ws_yX4_isIn ⟨rfl, rfl, Nat.le_of_ble_eq_true rfl, Nat.le_of_ble_eq_true rfl⟩ rfl rfl (Nat.le_of_ble_eq_true rfl) dX4_count_9 ⟨Nat.le_of_ble_eq_true rfl, Nat.le_of_ble_eq_true rfl⟩ rfl rfl ?_
  refine z_if_eqN C (tgt := 26) dX4_count_12 (by decide) (by omega) (fun c_12 => ?_) (fun c_12 => ?_)
  · refine z_aload_n C dX4_count_26 rfl 0 rfl ?_
    refine z_iconst C (v := nI (1)) (by decide) dX4_count_27 ?_
    refine z_cV C (st' := [.int (nI (0))]) (B' := [(shM t a ta, (zU (zU κ 0 (0) (nI (0))) 0 (0) (nI (1)))), (shS a cI, σ), (shS ta cI, τ)]) [true, true, true] rfl (c_X4_no l D cI cZ cJ t a ta (zU κ 0 (0) (nI (0))) σ τ n hI 1) wq_yX4_no wm_X4_30 ⟨wn_yX4_no, wo_yX4_no⟩ ⟨rfl, rfl, Nat.le_of_ble_eq_true rfl, Nat.le_of_ble_eq_true rfl⟩ 0 rfl 0 rfl rfl rfl rfl (Nat.le_of_ble_eq_true rfl) dX4_count_28 ⟨Nat.le_of_ble_eq_true rfl, Nat.le_of_ble_eq_true rfl⟩ rfl rfl ?_
    refine z_eq (B' := [(shM t a ta, (zU κ 0 (0) (nI (1)))), (shS a cI, σ), (shS ta cI, τ)]) (congrArg (fun x => [(shM t a ta, x), (shS a cI, σ), (shS ta cI, τ)]) (zU_tw _ _ _ _ _)) ?_
    rw [hQ]; exact z_iret C hr dX4_count_31 ⟨rfl, rfl⟩
  · exact absurd c_12 (by omega)
set_option maxHeartbeats 4000000 in
set_option maxRecDepth 100000 in
theorem c_X4_harbourTold (l : Launch) (D : va_G) (cI cZ cJ : ClassId) (t : Nat) (a ta : Nat → Nat) (κ σ τ : zF) (n : Nat) (hI : fl_Iv n σ) (h : Nat) (w : Nat) (hh : h < 3) (hw : w < 3) : zM l D (tyL cI cZ cJ) yX4_harbourTold cX4_harbourTold 6 (some .int) (zR 2 43) [.ref (t), .int (nI (h)), .int (nI (w))] [(shM t a ta, κ), (shS a cI, σ), (shS ta cI, τ)] 0 0 (fun r u => r = some (.int ((if w = 2 then fl_oI (fl_nwst σ (nI h) n) else if w = 1 then zb (decide (n / 2 < fl_upIn n σ (nI h))) else nI (fl_upIn n σ (nI h))))) ∧ u = [(shM t a ta, κ), (shS a cI, σ), (shS ta cI, τ)]) := by
  have hn3 := hI.n3
  have hn7 := hI.n7
  refine z_of (by decide) (Nat.le_of_ble_eq_true rfl) rfl ?_
  intro p e s m args below meth c A C hr hin
  obtain ⟨Q, hQ⟩ : ∃ Q, Q = MQ below (zQ (fun r u => r = some (.int ((if w = 2 then fl_oI (fl_nwst σ (nI h) n) else if w = 1 then zb (decide (n / 2 < fl_upIn n σ (nI h))) else nI (fl_upIn n σ (nI h))))) ∧ u = [(shM t a ta, κ), (shS a cI, σ), (shS ta cI, τ)]) D (tyL cI cZ cJ) A) args s 0 0 A := ⟨_, rfl⟩
  rw [← hQ]
  refine z_iconst C (v := nI (0)) (by decide) dX4_harbourTold_0 ?_
  refine z_istore_n C (L' := [(3, .int (nI (0))), (0, .ref (t)), (1, .int (nI (h))), (2, .int (nI (w)))]) dX4_harbourTold_1 rfl (by decide) rfl ?_
  refine z_iconst C (v := -1) (by decide) dX4_harbourTold_2 ?_
  refine z_istore C (L' := [(4, .int (-1)), (3, .int (nI (0))), (0, .ref (t)), (1, .int (nI (h))), (2, .int (nI (w)))]) dX4_harbourTold_3 (by decide) rfl ?_
  refine z_iconst C (v := nI (0)) (by decide) dX4_harbourTold_5 ?_
  refine z_istore C (L' := [(5, .int (nI (0))), (4, .int (-1)), (3, .int (nI (0))), (0, .ref (t)), (1, .int (nI (h))), (2, .int (nI (w)))]) dX4_harbourTold_6 (by decide) rfl ?_
  have loop_8 : ∀ (k_8 o : Nat) (v : Nat) (r : Option Nat), n < o + k_8 → o ≤ n → (hv : v = fl_ct (fun b => decide (¬ σ 7 b = 0 ∧ σ 6 b = nI h)) o) → (hbs : r = fl_nwst σ (nI h) o) → (hv1 : v ≤ o) → zK p l e (zR 2 43) s m args below meth c D A 6 Q 0 0 8 [(5, .int (nI (o))), (4, .int (fl_oI r)), (3, .int (nI (v))), (2, .int (nI (w))), (1, .int (nI (h))), (0, .ref (t))] [] [(shM t a ta, κ), (shS a cI, σ), (shS ta cI, τ)] := by
    intro k_8
    induction k_8 with
    | zero => intro o v r m1_8 m2_8; exact absurd m1_8 (by omega)
    | succ k_8 ih_8 =>
      intro o v r m1_8 m2_8 hv hbs hv1
      refine z_iload C dX4_harbourTold_8 0 rfl ?_
      refine z_aload_n C dX4_harbourTold_10 rfl 5 rfl ?_
      refine z_getR C wu_X4 0 rfl 0 rfl rfl 1 (by decide) rfl wf_X4_10 dX4_harbourTold_11 ?_
      refine z_getIN C wu_X3 1 rfl 0 rfl rfl 0 (by decide) rfl wf_X4_23 dX4_harbourTold_14 ?_
      refine z_top (hI.n0 : _ = nI n) ?_
      refine z_icmp_geN C (tgt := 83) dX4_harbourTold_17 (by decide) (by omega) (by omega) (fun c_17 => ?_) (fun c_17 => ?_)
      · refine z_iload_n C dX4_harbourTold_83 rfl 3 rfl ?_
        refine z_if_neN C (tgt := 91) dX4_harbourTold_84 (by decide) (by omega) (fun c_84 => ?_) (fun c_84 => ?_)
        · refine z_iload_n C dX4_harbourTold_91 rfl 3 rfl ?_
          refine z_iconst C (v := nI (1)) (by decide) dX4_harbourTold_92 ?_
          refine z_icmp_neN C (tgt := 115) dX4_harbourTold_93 (by decide) (by omega) (by omega) (fun c_93 => ?_) (fun c_93 => ?_)
          · refine z_iload C dX4_harbourTold_115 1 rfl ?_
            rw [hQ]; exact z_iret C hr dX4_harbourTold_117 ⟨congrArg (fun x => some (Value.int x)) (by first | (rw [if_neg (by omega), if_neg (by omega), hv, show o = n by omega]; rfl) | (rw [if_pos (by omega), hbs, show o = n by omega]) | (rw [if_neg (by omega), if_pos (by omega), show fl_upIn n σ (nI h) = v by rw [hv, show o = n by omega]; rfl, c_104]; rfl)), rfl⟩
          · refine z_aload_n C dX4_harbourTold_96 rfl 5 rfl ?_
            refine z_getR C wu_X4 0 rfl 0 rfl rfl 1 (by decide) rfl wf_X4_10 dX4_harbourTold_97 ?_
            refine z_iload_n C dX4_harbourTold_100 rfl 2 rfl ?_
            refine z_cV C (st' := [.int (zb (decide (n / 2 < v)))]) (B' := [(shM t a ta, κ), (shS a cI, σ), (shS ta cI, τ)]) [false, true, false] rfl (c_X3_isMore l D cI cZ cJ a σ n hI v (by omega)) wq_yX3_isMore wm_X4_110 ⟨wn_yX3_isMore, wo_yX3_isMore⟩ ⟨rfl, rfl, Nat.le_of_ble_eq_true rfl, Nat.le_of_ble_eq_true rfl⟩ 1 rfl 0 rfl rfl rfl rfl (Nat.le_of_ble_eq_true rfl) dX4_harbourTold_101 ⟨Nat.le_of_ble_eq_true rfl, Nat.le_of_ble_eq_true rfl⟩ rfl rfl ?_
            refine z_if_eqB C (tgt := 111) dX4_harbourTold_104 (by decide) (fun c_104 => ?_) (fun c_104 => ?_)
            · refine z_iconst C (v := nI (0)) (by decide) dX4_harbourTold_111 ?_
              refine z_goto C (tgt := 117) dX4_harbourTold_112 (by decide) ?_
              rw [hQ]; exact z_iret C hr dX4_harbourTold_117 ⟨congrArg (fun x => some (Value.int x)) (by first | (rw [if_neg (by omega), if_neg (by omega), hv, show o = n by omega]; rfl) | (rw [if_pos (by omega), hbs, show o = n by omega]) | (rw [if_neg (by omega), if_pos (by omega), show fl_upIn n σ (nI h) = v by rw [hv, show o = n by omega]; rfl, c_104]; rfl)), rfl⟩
            · refine z_iconst C (v := nI (1)) (by decide) dX4_harbourTold_107 ?_
              refine z_goto C (tgt := 117) dX4_harbourTold_108 (by decide) ?_
              rw [hQ]; exact z_iret C hr dX4_harbourTold_117 ⟨congrArg (fun x => some (Value.int x)) (by first | (rw [if_neg (by omega), if_neg (by omega), hv, show o = n by omega]; rfl) | (rw [if_pos (by omega), hbs, show o = n by omega]) | (rw [if_neg (by omega), if_pos (by omega), show fl_upIn n σ (nI h) = v by rw [hv, show o = n by omega]; rfl, c_104]; rfl)), rfl⟩
        · refine z_iload_n C dX4_harbourTold_87 rfl 2 rfl ?_
          refine z_goto C (tgt := 117) dX4_harbourTold_88 (by decide) ?_
          rw [hQ]; exact z_iret C hr dX4_harbourTold_117 ⟨congrArg (fun x => some (Value.int x)) (by first | (rw [if_neg (by omega), if_neg (by omega), hv, show o = n by omega]; rfl) | (rw [if_pos (by omega), hbs, show o = n by omega]) | (rw [if_neg (by omega), if_pos (by omega), show fl_upIn n σ (nI h) = v by rw [hv, show o = n by omega]; rfl, c_104]; rfl)), rfl⟩
      · refine z_aload_n C dX4_harbourTold_20 rfl 5 rfl ?_
        refine z_getR C wu_X4 0 rfl 0 rfl rfl 1 (by decide) rfl wf_X4_10 dX4_harbourTold_21 ?_
        refine z_getRN C wu_X3 1 rfl 0 rfl rfl 11 (by decide) rfl wf_X4_49 dX4_harbourTold_24 ?_
        refine z_iload C dX4_harbourTold_27 0 rfl ?_
        refine z_iald C 1 rfl 7 0 rfl rfl dX4_harbourTold_29 (by omega) (by decide) ?_
        refine z_if_eq C (tgt := 77) dX4_harbourTold_30 (by decide) (fun c_30 => ?_) (fun c_30 => ?_)
        · refine z_iinc C (L' := [(5, .int (nI (o + 1))), (4, .int (fl_oI r)), (3, .int (nI (v))), (2, .int (nI (w))), (1, .int (nI (h))), (0, .ref (t))]) dX4_harbourTold_77 0 rfl (z_inc1 _) (by decide) rfl ?_
          refine z_goto C (tgt := 8) dX4_harbourTold_80 (by decide) ?_
          refine z_sub (L' := [(5, .int (nI (o + 1))), (4, .int (fl_oI r)), (3, .int (nI (v))), (2, .int (nI (w))), (1, .int (nI (h))), (0, .ref (t))]) [0, 1, 2, 3, 4, 5] rfl ?_
          exact ih_8 (o + 1) _ r (by omega) (by omega) (by rw [fl_ct, ← hv]; simp [c_30]) (by rw [fl_nwst, ← hbs]; simp [c_30]) (by omega)
        · refine z_aload_n C dX4_harbourTold_33 rfl 5 rfl ?_
          refine z_getR C wu_X4 0 rfl 0 rfl rfl 1 (by decide) rfl wf_X4_10 dX4_harbourTold_34 ?_
          refine z_getRN C wu_X3 1 rfl 0 rfl rfl 10 (by decide) rfl wf_X4_46 dX4_harbourTold_37 ?_
          refine z_iload C dX4_harbourTold_40 0 rfl ?_
          refine z_iald C 1 rfl 6 0 rfl rfl dX4_harbourTold_42 (by omega) (by decide) ?_
          refine z_iload_n C dX4_harbourTold_43 rfl 4 rfl ?_
          refine z_icmp_eq C (tgt := 50) dX4_harbourTold_44 (by decide) (fun c_44 => ?_) (fun c_44 => ?_)
          · refine z_iinc C (L' := [(3, .int (nI (v + 1))), (5, .int (nI (o))), (4, .int (fl_oI r)), (2, .int (nI (w))), (1, .int (nI (h))), (0, .ref (t))]) dX4_harbourTold_50 2 rfl (z_inc1 _) (by decide) rfl ?_
            rcases r with _ | j
            · refine z_sub (L' := [(3, .int (nI (v + 1))), (5, .int (nI (o))), (4, .int (-1)), (2, .int (nI (w))), (1, .int (nI (h))), (0, .ref (t))]) [0, 1, 2, 3, 4, 5] rfl ?_
              refine z_iload C dX4_harbourTold_53 2 rfl ?_
              refine z_iconst C (v := -1) (by decide) dX4_harbourTold_55 ?_
              refine z_icmp_eq C (tgt := 73) dX4_harbourTold_56 (by decide) (fun c_56 => ?_) (fun c_56 => ?_)
              · refine z_iload C dX4_harbourTold_73 1 rfl ?_
                refine z_istore C (L' := [(4, .int (nI (o))), (3, .int (nI (v + 1))), (5, .int (nI (o))), (2, .int (nI (w))), (1, .int (nI (h))), (0, .ref (t))]) dX4_harbourTold_75 (by decide) rfl ?_
                refine z_iinc C (L' := [(5, .int (nI (o + 1))), (4, .int (nI (o))), (3, .int (nI (v + 1))), (2, .int (nI (w))), (1, .int (nI (h))), (0, .ref (t))]) dX4_harbourTold_77 2 rfl (z_inc1 _) (by decide) rfl ?_
                refine z_goto C (tgt := 8) dX4_harbourTold_80 (by decide) ?_
                refine z_sub (L' := [(5, .int (nI (o + 1))), (4, .int (nI (o))), (3, .int (nI (v + 1))), (2, .int (nI (w))), (1, .int (nI (h))), (0, .ref (t))]) [0, 1, 2, 3, 4, 5] rfl ?_
                exact ih_8 (o + 1) _ (some o) (by omega) (by omega) (by rw [fl_ct, ← hv]; simp [c_30, c_44]) (by rw [fl_nwst, ← hbs]; simp [c_30, c_44]) (by omega)
              · exact absurd rfl c_56
            · refine z_sub (L' := [(3, .int (nI (v + 1))), (5, .int (nI (o))), (4, .int (nI (j))), (2, .int (nI (w))), (1, .int (nI (h))), (0, .ref (t))]) [0, 1, 2, 3, 4, 5] rfl ?_
              have hjn : j < n := Nat.lt_trans (fl_nwst_lt σ (nI h) o j hbs.symm) (by omega)
              refine z_iload C dX4_harbourTold_53 2 rfl ?_
              refine z_iconst C (v := -1) (by decide) dX4_harbourTold_55 ?_
              refine z_icmp_eq C (tgt := 73) dX4_harbourTold_56 (by decide) (fun c_56 => ?_) (fun c_56 => ?_)
              · exact absurd c_56 (nI_ne_m1 (by omega))
              · refine z_aload_n C dX4_harbourTold_59 rfl 5 rfl ?_
                refine z_getR C wu_X4 0 rfl 0 rfl rfl 1 (by decide) rfl wf_X4_10 dX4_harbourTold_60 ?_
                refine z_iload C dX4_harbourTold_63 2 rfl ?_
                refine z_iload C dX4_harbourTold_65 1 rfl ?_
                refine z_cV C (st' := [.int (zb (fl_nw σ j o))]) (B' := [(shM t a ta, κ), (shS a cI, σ), (shS ta cI, τ)]) [false, true, false] rfl (c_X3_isAsNew l D cI cZ cJ a σ n hI j o (by omega) (by omega)) wq_yX3_isAsNew wm_X4_104 ⟨wn_yX3_isAsNew, wo_yX3_isAsNew⟩ ⟨rfl, rfl, Nat.le_of_ble_eq_true rfl, Nat.le_of_ble_eq_true rfl⟩ 1 rfl 0 rfl rfl rfl rfl (Nat.le_of_ble_eq_true rfl) dX4_harbourTold_67 ⟨Nat.le_of_ble_eq_true rfl, Nat.le_of_ble_eq_true rfl⟩ rfl rfl ?_
                refine z_if_neB C (tgt := 77) dX4_harbourTold_70 (by decide) (fun c_70 => ?_) (fun c_70 => ?_)
                · refine z_iinc C (L' := [(5, .int (nI (o + 1))), (3, .int (nI (v + 1))), (4, .int (nI (j))), (2, .int (nI (w))), (1, .int (nI (h))), (0, .ref (t))]) dX4_harbourTold_77 1 rfl (z_inc1 _) (by decide) rfl ?_
                  refine z_goto C (tgt := 8) dX4_harbourTold_80 (by decide) ?_
                  refine z_sub (L' := [(5, .int (nI (o + 1))), (4, .int (nI (j))), (3, .int (nI (v + 1))), (2, .int (nI (w))), (1, .int (nI (h))), (0, .ref (t))]) [0, 2, 1, 3, 4, 5] rfl ?_
                  exact ih_8 (o + 1) _ (some j) (by omega) (by omega) (by rw [fl_ct, ← hv]; simp [c_30, c_44]) (by rw [fl_nwst, ← hbs]; simp [c_30, c_44, c_70]) (by omega)
                · refine z_iload C dX4_harbourTold_73 1 rfl ?_
                  refine z_istore C (L' := [(4, .int (nI (o))), (3, .int (nI (v + 1))), (5, .int (nI (o))), (2, .int (nI (w))), (1, .int (nI (h))), (0, .ref (t))]) dX4_harbourTold_75 (by decide) rfl ?_
                  refine z_iinc C (L' := [(5, .int (nI (o + 1))), (4, .int (nI (o))), (3, .int (nI (v + 1))), (2, .int (nI (w))), (1, .int (nI (h))), (0, .ref (t))]) dX4_harbourTold_77 2 rfl (z_inc1 _) (by decide) rfl ?_
                  refine z_goto C (tgt := 8) dX4_harbourTold_80 (by decide) ?_
                  refine z_sub (L' := [(5, .int (nI (o + 1))), (4, .int (nI (o))), (3, .int (nI (v + 1))), (2, .int (nI (w))), (1, .int (nI (h))), (0, .ref (t))]) [0, 1, 2, 3, 4, 5] rfl ?_
                  exact ih_8 (o + 1) _ (some o) (by omega) (by omega) (by rw [fl_ct, ← hv]; simp [c_30, c_44]) (by rw [fl_nwst, ← hbs]; simp [c_30, c_44, c_70]) (by omega)
          · refine z_goto C (tgt := 77) dX4_harbourTold_47 (by decide) ?_
            refine z_iinc C (L' := [(5, .int (nI (o + 1))), (4, .int (fl_oI r)), (3, .int (nI (v))), (2, .int (nI (w))), (1, .int (nI (h))), (0, .ref (t))]) dX4_harbourTold_77 0 rfl (z_inc1 _) (by decide) rfl ?_
            refine z_goto C (tgt := 8) dX4_harbourTold_80 (by decide) ?_
            refine z_sub (L' := [(5, .int (nI (o + 1))), (4, .int (fl_oI r)), (3, .int (nI (v))), (2, .int (nI (w))), (1, .int (nI (h))), (0, .ref (t))]) [0, 1, 2, 3, 4, 5] rfl ?_
            exact ih_8 (o + 1) _ r (by omega) (by omega) (by rw [fl_ct, ← hv]; simp [c_44]) (by rw [fl_nwst, ← hbs]; simp [c_44]) (by omega)
  refine z_sub (L' := [(5, .int (nI (0))), (4, .int (-1)), (3, .int (nI (0))), (2, .int (nI (w))), (1, .int (nI (h))), (0, .ref (t))]) [0, 1, 2, 5, 4, 3] rfl ?_
  exact loop_8 (n + 1) 0 _ none (by omega) (by omega) rfl rfl (by omega)
set_option maxHeartbeats 4000000 in
set_option maxRecDepth 100000 in
theorem c_X4_harbour (l : Launch) (D : va_G) (cI cZ cJ : ClassId) (t : Nat) (a ta : Nat → Nat) (κ σ τ : zF) (n : Nat) (hI : fl_Iv n σ) (h : Nat) (w : Nat) (hh : h < 3) (hw : w < 3) : zM l D (tyL cI cZ cJ) yX4_harbour cX4_harbour 3 (some .int) (zR 3 68) [.ref (t), .int (nI (h)), .int (nI (w))] [(shM t a ta, κ), (shS a cI, σ), (shS ta cI, τ)] 0 0 (fun r u => r = some (.int ((if w = 2 then fl_oI (fl_nwst σ (nI h) n) else if w = 1 then zb (decide (n / 2 < fl_upIn n σ (nI h))) else nI (fl_upIn n σ (nI h))))) ∧ u = [(shM t a ta, (zU κ 0 (0) (nI (0)))), (shS a cI, σ), (shS ta cI, τ)]) := by
  have hn3 := hI.n3
  have hn7 := hI.n7
  refine z_of (by decide) (Nat.le_of_ble_eq_true rfl) rfl ?_
  intro p e s m args below meth c A C hr hin
  obtain ⟨Q, hQ⟩ : ∃ Q, Q = MQ below (zQ (fun r u => r = some (.int ((if w = 2 then fl_oI (fl_nwst σ (nI h) n) else if w = 1 then zb (decide (n / 2 < fl_upIn n σ (nI h))) else nI (fl_upIn n σ (nI h))))) ∧ u = [(shM t a ta, (zU κ 0 (0) (nI (0)))), (shS a cI, σ), (shS ta cI, τ)]) D (tyL cI cZ cJ) A) args s 0 0 A := ⟨_, rfl⟩
  rw [← hQ]
  refine z_aload_n C dX4_harbour_0 rfl 0 rfl ?_
  refine z_iconst C (v := nI (0)) (by decide) dX4_harbour_1 ?_
  refine z_putI C (B' := [(shM t a ta, (zU κ 0 (0) (nI (0)))), (shS a cI, σ), (shS ta cI, τ)]) wu_X4 tyX4_ok nmX4 0 rfl 0 rfl rfl 0 (by decide) rfl wf_X4_19 rfl (by decide +kernel) dX4_harbour_2 rfl ?_
  refine z_iload_n C dX4_harbour_5 rfl 1 rfl ?_
  refine z_iconst C (v := nI (0)) (by decide) dX4_harbour_6 ?_
  refine z_iconst C (v := nI (2)) (by decide) dX4_harbour_7 ?_
  refine z_cS C (st' := [.int (nI (1))]) (B' := [(shM t a ta, (zU κ 0 (0) (nI (0)))), (shS a cI, σ), (shS ta cI, τ)]) [false, false, false] rfl (c_X4_isIn_ok l D cI cZ cJ (nI (h)) (nI (0)) (nI (2)) (nI_le2 (by omega) (by omega)) (nI_le2 (by omega) (by omega))) wq_yX4_isIn wm_X4_26 ws_yX4_isIn ⟨rfl, rfl, Nat.le_of_ble_eq_true rfl, Nat.le_of_ble_eq_true rfl⟩ rfl rfl (Nat.le_of_ble_eq_true rfl) dX4_harbour_8 ⟨Nat.le_of_ble_eq_true rfl, Nat.le_of_ble_eq_true rfl⟩ rfl rfl ?_
  refine z_if_eqN C (tgt := 32) dX4_harbour_11 (by decide) (by omega) (fun c_11 => ?_) (fun c_11 => ?_)
  · exact absurd c_11 (by omega)
  · refine z_iload_n C dX4_harbour_14 rfl 2 rfl ?_
    refine z_iconst C (v := nI (0)) (by decide) dX4_harbour_15 ?_
    refine z_iconst C (v := nI (2)) (by decide) dX4_harbour_16 ?_
    refine z_cS C (st' := [.int (nI (1))]) (B' := [(shM t a ta, (zU κ 0 (0) (nI (0)))), (shS a cI, σ), (shS ta cI, τ)]) [false, false, false] rfl (c_X4_isIn_ok l D cI cZ cJ (nI (w)) (nI (0)) (nI (2)) (nI_le2 (by omega) (by omega)) (nI_le2 (by omega) (by omega))) wq_yX4_isIn wm_X4_26 ws_yX4_isIn ⟨rfl, rfl, Nat.le_of_ble_eq_true rfl, Nat.le_of_ble_eq_true rfl⟩ rfl rfl (Nat.le_of_ble_eq_true rfl) dX4_harbour_17 ⟨Nat.le_of_ble_eq_true rfl, Nat.le_of_ble_eq_true rfl⟩ rfl rfl ?_
    refine z_if_eqN C (tgt := 32) dX4_harbour_20 (by decide) (by omega) (fun c_20 => ?_) (fun c_20 => ?_)
    · exact absurd c_20 (by omega)
    · refine z_aload_n C dX4_harbour_23 rfl 0 rfl ?_
      refine z_iload_n C dX4_harbour_24 rfl 1 rfl ?_
      refine z_iload_n C dX4_harbour_25 rfl 2 rfl ?_
      refine z_cV C (st' := [.int ((if w = 2 then fl_oI (fl_nwst σ (nI h) n) else if w = 1 then zb (decide (n / 2 < fl_upIn n σ (nI h))) else nI (fl_upIn n σ (nI h))))]) (B' := [(shM t a ta, (zU κ 0 (0) (nI (0)))), (shS a cI, σ), (shS ta cI, τ)]) [true, true, true] rfl (c_X4_harbourTold l D cI cZ cJ t a ta (zU κ 0 (0) (nI (0))) σ τ n hI h w hh hw) wq_yX4_harbourTold wm_X4_113 ⟨wn_yX4_harbourTold, wo_yX4_harbourTold⟩ ⟨rfl, rfl, Nat.le_of_ble_eq_true rfl, Nat.le_of_ble_eq_true rfl⟩ 0 rfl 0 rfl rfl rfl rfl (Nat.le_of_ble_eq_true rfl) dX4_harbour_26 ⟨Nat.le_of_ble_eq_true rfl, Nat.le_of_ble_eq_true rfl⟩ rfl rfl ?_
      refine z_goto C (tgt := 37) dX4_harbour_29 (by decide) ?_
      rw [hQ]; exact z_iret C hr dX4_harbour_37 ⟨rfl, rfl⟩
set_option maxHeartbeats 4000000 in
set_option maxRecDepth 100000 in
theorem c_X4_harbour_b1 (l : Launch) (D : va_G) (cI cZ cJ : ClassId) (t : Nat) (a ta : Nat → Nat) (κ σ τ : zF) (n : Nat) (hI : fl_Iv n σ) (x : Int32) (w : Int32) (hx : x < 0 ∨ nI 3 ≤ x) : zM l D (tyL cI cZ cJ) yX4_harbour cX4_harbour 3 (some .int) (zR 3 68) [.ref (t), .int (x), .int (w)] [(shM t a ta, κ), (shS a cI, σ), (shS ta cI, τ)] 0 0 (fun r u => r = some (.int (nI (0))) ∧ u = [(shM t a ta, (zU κ 0 (0) (nI (1)))), (shS a cI, σ), (shS ta cI, τ)]) := by
  have hn3 := hI.n3
  have hn7 := hI.n7
  refine z_of (by decide) (Nat.le_of_ble_eq_true rfl) rfl ?_
  intro p e s m args below meth c A C hr hin
  obtain ⟨Q, hQ⟩ : ∃ Q, Q = MQ below (zQ (fun r u => r = some (.int (nI (0))) ∧ u = [(shM t a ta, (zU κ 0 (0) (nI (1)))), (shS a cI, σ), (shS ta cI, τ)]) D (tyL cI cZ cJ) A) args s 0 0 A := ⟨_, rfl⟩
  rw [← hQ]
  refine z_aload_n C dX4_harbour_0 rfl 0 rfl ?_
  refine z_iconst C (v := nI (0)) (by decide) dX4_harbour_1 ?_
  refine z_putI C (B' := [(shM t a ta, (zU κ 0 (0) (nI (0)))), (shS a cI, σ), (shS ta cI, τ)]) wu_X4 tyX4_ok nmX4 0 rfl 0 rfl rfl 0 (by decide) rfl wf_X4_19 rfl (by decide +kernel) dX4_harbour_2 rfl ?_
  refine z_iload_n C dX4_harbour_5 rfl 1 rfl ?_
  refine z_iconst C (v := nI (0)) (by decide) dX4_harbour_6 ?_
  refine z_iconst C (v := nI (2)) (by decide) dX4_harbour_7 ?_
  refine z_cS C (st' := [.int (nI (0))]) (B' := [(shM t a ta, (zU κ 0 (0) (nI (0)))), (shS a cI, σ), (shS ta cI, τ)]) [false, false, false] rfl (c_X4_isIn_no l D cI cZ cJ x (nI (0)) (nI (2)) (lo_hi 2 hx (by omega))) wq_yX4_isIn wm_X4_26 ws_yX4_isIn ⟨rfl, rfl, Nat.le_of_ble_eq_true rfl, Nat.le_of_ble_eq_true rfl⟩ rfl rfl (Nat.le_of_ble_eq_true rfl) dX4_harbour_8 ⟨Nat.le_of_ble_eq_true rfl, Nat.le_of_ble_eq_true rfl⟩ rfl rfl ?_
  refine z_if_eqN C (tgt := 32) dX4_harbour_11 (by decide) (by omega) (fun c_11 => ?_) (fun c_11 => ?_)
  · refine z_aload_n C dX4_harbour_32 rfl 0 rfl ?_
    refine z_iconst C (v := nI (1)) (by decide) dX4_harbour_33 ?_
    refine z_cV C (st' := [.int (nI (0))]) (B' := [(shM t a ta, (zU (zU κ 0 (0) (nI (0))) 0 (0) (nI (1)))), (shS a cI, σ), (shS ta cI, τ)]) [true, true, true] rfl (c_X4_no l D cI cZ cJ t a ta (zU κ 0 (0) (nI (0))) σ τ n hI 1) wq_yX4_no wm_X4_30 ⟨wn_yX4_no, wo_yX4_no⟩ ⟨rfl, rfl, Nat.le_of_ble_eq_true rfl, Nat.le_of_ble_eq_true rfl⟩ 0 rfl 0 rfl rfl rfl rfl (Nat.le_of_ble_eq_true rfl) dX4_harbour_34 ⟨Nat.le_of_ble_eq_true rfl, Nat.le_of_ble_eq_true rfl⟩ rfl rfl ?_
    refine z_eq (B' := [(shM t a ta, (zU κ 0 (0) (nI (1)))), (shS a cI, σ), (shS ta cI, τ)]) (congrArg (fun x => [(shM t a ta, x), (shS a cI, σ), (shS ta cI, τ)]) (zU_tw _ _ _ _ _)) ?_
    rw [hQ]; exact z_iret C hr dX4_harbour_37 ⟨rfl, rfl⟩
  · exact absurd c_11 (by omega)
set_option maxHeartbeats 4000000 in
set_option maxRecDepth 100000 in
theorem c_X4_harbour_b2 (l : Launch) (D : va_G) (cI cZ cJ : ClassId) (t : Nat) (a ta : Nat → Nat) (κ σ τ : zF) (n : Nat) (hI : fl_Iv n σ) (h : Nat) (x : Int32) (hh : h < 3) (hx : x < 0 ∨ nI 3 ≤ x) : zM l D (tyL cI cZ cJ) yX4_harbour cX4_harbour 3 (some .int) (zR 3 68) [.ref (t), .int (nI (h)), .int (x)] [(shM t a ta, κ), (shS a cI, σ), (shS ta cI, τ)] 0 0 (fun r u => r = some (.int (nI (0))) ∧ u = [(shM t a ta, (zU κ 0 (0) (nI (1)))), (shS a cI, σ), (shS ta cI, τ)]) := by
  have hn3 := hI.n3
  have hn7 := hI.n7
  refine z_of (by decide) (Nat.le_of_ble_eq_true rfl) rfl ?_
  intro p e s m args below meth c A C hr hin
  obtain ⟨Q, hQ⟩ : ∃ Q, Q = MQ below (zQ (fun r u => r = some (.int (nI (0))) ∧ u = [(shM t a ta, (zU κ 0 (0) (nI (1)))), (shS a cI, σ), (shS ta cI, τ)]) D (tyL cI cZ cJ) A) args s 0 0 A := ⟨_, rfl⟩
  rw [← hQ]
  refine z_aload_n C dX4_harbour_0 rfl 0 rfl ?_
  refine z_iconst C (v := nI (0)) (by decide) dX4_harbour_1 ?_
  refine z_putI C (B' := [(shM t a ta, (zU κ 0 (0) (nI (0)))), (shS a cI, σ), (shS ta cI, τ)]) wu_X4 tyX4_ok nmX4 0 rfl 0 rfl rfl 0 (by decide) rfl wf_X4_19 rfl (by decide +kernel) dX4_harbour_2 rfl ?_
  refine z_iload_n C dX4_harbour_5 rfl 1 rfl ?_
  refine z_iconst C (v := nI (0)) (by decide) dX4_harbour_6 ?_
  refine z_iconst C (v := nI (2)) (by decide) dX4_harbour_7 ?_
  refine z_cS C (st' := [.int (nI (1))]) (B' := [(shM t a ta, (zU κ 0 (0) (nI (0)))), (shS a cI, σ), (shS ta cI, τ)]) [false, false, false] rfl (c_X4_isIn_ok l D cI cZ cJ (nI (h)) (nI (0)) (nI (2)) (nI_le2 (by omega) (by omega)) (nI_le2 (by omega) (by omega))) wq_yX4_isIn wm_X4_26 ws_yX4_isIn ⟨rfl, rfl, Nat.le_of_ble_eq_true rfl, Nat.le_of_ble_eq_true rfl⟩ rfl rfl (Nat.le_of_ble_eq_true rfl) dX4_harbour_8 ⟨Nat.le_of_ble_eq_true rfl, Nat.le_of_ble_eq_true rfl⟩ rfl rfl ?_
  refine z_if_eqN C (tgt := 32) dX4_harbour_11 (by decide) (by omega) (fun c_11 => ?_) (fun c_11 => ?_)
  · exact absurd c_11 (by omega)
  · refine z_iload_n C dX4_harbour_14 rfl 2 rfl ?_
    refine z_iconst C (v := nI (0)) (by decide) dX4_harbour_15 ?_
    refine z_iconst C (v := nI (2)) (by decide) dX4_harbour_16 ?_
    refine z_cS C (st' := [.int (nI (0))]) (B' := [(shM t a ta, (zU κ 0 (0) (nI (0)))), (shS a cI, σ), (shS ta cI, τ)]) [false, false, false] rfl (c_X4_isIn_no l D cI cZ cJ x (nI (0)) (nI (2)) (lo_hi 2 hx (by omega))) wq_yX4_isIn wm_X4_26 ws_yX4_isIn ⟨rfl, rfl, Nat.le_of_ble_eq_true rfl, Nat.le_of_ble_eq_true rfl⟩ rfl rfl (Nat.le_of_ble_eq_true rfl) dX4_harbour_17 ⟨Nat.le_of_ble_eq_true rfl, Nat.le_of_ble_eq_true rfl⟩ rfl rfl ?_
    refine z_if_eqN C (tgt := 32) dX4_harbour_20 (by decide) (by omega) (fun c_20 => ?_) (fun c_20 => ?_)
    · refine z_aload_n C dX4_harbour_32 rfl 0 rfl ?_
      refine z_iconst C (v := nI (1)) (by decide) dX4_harbour_33 ?_
      refine z_cV C (st' := [.int (nI (0))]) (B' := [(shM t a ta, (zU (zU κ 0 (0) (nI (0))) 0 (0) (nI (1)))), (shS a cI, σ), (shS ta cI, τ)]) [true, true, true] rfl (c_X4_no l D cI cZ cJ t a ta (zU κ 0 (0) (nI (0))) σ τ n hI 1) wq_yX4_no wm_X4_30 ⟨wn_yX4_no, wo_yX4_no⟩ ⟨rfl, rfl, Nat.le_of_ble_eq_true rfl, Nat.le_of_ble_eq_true rfl⟩ 0 rfl 0 rfl rfl rfl rfl (Nat.le_of_ble_eq_true rfl) dX4_harbour_34 ⟨Nat.le_of_ble_eq_true rfl, Nat.le_of_ble_eq_true rfl⟩ rfl rfl ?_
      refine z_eq (B' := [(shM t a ta, (zU κ 0 (0) (nI (1)))), (shS a cI, σ), (shS ta cI, τ)]) (congrArg (fun x => [(shM t a ta, x), (shS a cI, σ), (shS ta cI, τ)]) (zU_tw _ _ _ _ _)) ?_
      rw [hQ]; exact z_iret C hr dX4_harbour_37 ⟨rfl, rfl⟩
    · exact absurd c_20 (by omega)
set_option maxHeartbeats 4000000 in
set_option maxRecDepth 100000 in
theorem c_X4_until (l : Launch) (D : va_G) (cI cZ cJ : ClassId) (t : Nat) (a ta : Nat → Nat) (κ σ τ : zF) (n : Nat) (hI : fl_Iv n σ) : zM l D (tyL cI cZ cJ) yX4_until cX4_until 2 (some .int) (zR 4 102) [.ref (t)] [(shM t a ta, κ), (shS a cI, σ), (shS ta cI, τ)] 0 0 (fun r u => r = some (.int ((fl_unt n 0 (fl_cpy σ τ)).1)) ∧ u = [(shM t a ta, (zU κ 0 (0) (nI (0)))), (shS a cI, σ), (shS ta cI, (fl_unt n 0 (fl_cpy σ τ)).2)]) := by
  have hn3 := hI.n3
  have hn7 := hI.n7
  refine z_of (by decide) (Nat.le_of_ble_eq_true rfl) rfl ?_
  intro p e s m args below meth c A C hr hin
  obtain ⟨Q, hQ⟩ : ∃ Q, Q = MQ below (zQ (fun r u => r = some (.int ((fl_unt n 0 (fl_cpy σ τ)).1)) ∧ u = [(shM t a ta, (zU κ 0 (0) (nI (0)))), (shS a cI, σ), (shS ta cI, (fl_unt n 0 (fl_cpy σ τ)).2)]) D (tyL cI cZ cJ) A) args s 0 0 A := ⟨_, rfl⟩
  rw [← hQ]
  refine z_aload_n C dX4_until_0 rfl 0 rfl ?_
  refine z_iconst C (v := nI (0)) (by decide) dX4_until_1 ?_
  refine z_putI C (B' := [(shM t a ta, (zU κ 0 (0) (nI (0)))), (shS a cI, σ), (shS ta cI, τ)]) wu_X4 tyX4_ok nmX4 0 rfl 0 rfl rfl 0 (by decide) rfl wf_X4_19 rfl (by decide +kernel) dX4_until_2 rfl ?_
  refine z_aload_n C dX4_until_5 rfl 0 rfl ?_
  refine z_getR C wu_X4 0 rfl 0 rfl rfl 2 (by decide) rfl wf_X4_16 dX4_until_6 ?_
  refine z_aload_n C dX4_until_9 rfl 0 rfl ?_
  refine z_getR C wu_X4 0 rfl 0 rfl rfl 1 (by decide) rfl wf_X4_10 dX4_until_10 ?_
  refine z_cV C (st' := []) (B' := [(shM t a ta, (zU κ 0 (0) (nI (0)))), (shS a cI, σ), (shS ta cI, (fl_cpy σ τ))]) [false, true, true] rfl (c_X3_become l D cI cZ cJ a ta σ τ) wq_yX3_become wm_X4_116 ⟨wn_yX3_become, wo_yX3_become⟩ ⟨rfl, rfl, Nat.le_of_ble_eq_true rfl, Nat.le_of_ble_eq_true rfl⟩ 2 rfl 0 rfl rfl rfl rfl (Nat.le_of_ble_eq_true rfl) dX4_until_13 ⟨Nat.le_of_ble_eq_true rfl, Nat.le_of_ble_eq_true rfl⟩ rfl rfl ?_
  refine z_iconst C (v := nI (0)) (by decide) dX4_until_16 ?_
  refine z_istore_n C (L' := [(1, .int (nI (0))), (0, .ref (t))]) dX4_until_17 rfl (by decide) rfl ?_
  have loop_18 : ∀ (k_18 o : Nat) (ρ : zF), 61 < o + k_18 → o ≤ 61 → (hres : fl_unt n o ρ = (fl_unt n 0 (fl_cpy σ τ))) → (hρ : fl_Iv n ρ) → zK p l e (zR 4 102) s m args below meth c D A 2 Q 0 0 18 [(1, .int (nI (o))), (0, .ref (t))] [] [(shM t a ta, (zU κ 0 (0) (nI (0)))), (shS a cI, σ), (shS ta cI, ρ)] := by
    intro k_18
    induction k_18 with
    | zero => intro o ρ m1_18 m2_18; exact absurd m1_18 (by omega)
    | succ k_18 ih_18 =>
      intro o ρ m1_18 m2_18 hres hρ
      refine z_iload_n C dX4_until_18 rfl 0 rfl ?_
      refine z_bipush C (v := nI (60)) (by decide) dX4_until_19 ?_
      refine z_icmp_gtN C (tgt := 49) dX4_until_21 (by decide) (by omega) (by omega) (fun c_21 => ?_) (fun c_21 => ?_)
      · refine z_iconst C (v := -1) (by decide) dX4_until_49 ?_
        rw [hQ]; exact z_iret C hr dX4_until_50 ⟨congrArg (fun x => some (Value.int x)) (by rw [← hres]; first | (rw [fl_unt_go n o ρ (by omega), c_31]; rfl) | (rw [fl_unt_end n o ρ (by omega)])), congrArg (fun x => [(shM t a ta, (zU κ 0 (0) (nI (0)))), (shS a cI, σ), (shS ta cI, x)]) (by rw [← hres]; first | (rw [fl_unt_go n o ρ (by omega), c_31]; rfl) | (rw [fl_unt_end n o ρ (by omega)]))⟩
      · refine z_aload_n C dX4_until_24 rfl 1 rfl ?_
        refine z_getR C wu_X4 0 rfl 0 rfl rfl 2 (by decide) rfl wf_X4_16 dX4_until_25 ?_
        refine z_cV C (st' := [.int (zb (fl_led n ρ))]) (B' := [(shM t a ta, (zU κ 0 (0) (nI (0)))), (shS a cI, σ), (shS ta cI, ρ)]) [false, false, true] rfl (c_X3_isLed l D cI cZ cJ ta ρ n hρ  ) wq_yX3_isLed wm_X4_120 ⟨wn_yX3_isLed, wo_yX3_isLed⟩ ⟨rfl, rfl, Nat.le_of_ble_eq_true rfl, Nat.le_of_ble_eq_true rfl⟩ 2 rfl 0 rfl rfl rfl rfl (Nat.le_of_ble_eq_true rfl) dX4_until_28 ⟨Nat.le_of_ble_eq_true rfl, Nat.le_of_ble_eq_true rfl⟩ rfl rfl ?_
        refine z_if_eqB C (tgt := 36) dX4_until_31 (by decide) (fun c_31 => ?_) (fun c_31 => ?_)
        · refine z_aload_n C dX4_until_36 rfl 1 rfl ?_
          refine z_getR C wu_X4 0 rfl 0 rfl rfl 2 (by decide) rfl wf_X4_16 dX4_until_37 ?_
          have hi_1 : fl_Iv n (fl_hour n ρ) := fl_hour_Iv hρ
          refine z_cV C (st' := []) (B' := [(shM t a ta, (zU κ 0 (0) (nI (0)))), (shS a cI, σ), (shS ta cI, (fl_hour n ρ))]) [false, false, true] rfl (c_X3_pass l D cI cZ cJ ta ρ n hρ  ) wq_yX3_pass wm_X4_124 ⟨wn_yX3_pass, wo_yX3_pass⟩ ⟨rfl, rfl, Nat.le_of_ble_eq_true rfl, Nat.le_of_ble_eq_true rfl⟩ 2 rfl 0 rfl rfl rfl rfl (Nat.le_of_ble_eq_true rfl) dX4_until_40 ⟨Nat.le_of_ble_eq_true rfl, Nat.le_of_ble_eq_true rfl⟩ rfl rfl ?_
          refine z_iinc C (L' := [(1, .int (nI (o + 1))), (0, .ref (t))]) dX4_until_43 0 rfl (z_inc1 _) (by decide) rfl ?_
          refine z_goto C (tgt := 18) dX4_until_46 (by decide) ?_
          refine z_sub (L' := [(1, .int (nI (o + 1))), (0, .ref (t))]) [0, 1] rfl ?_
          exact ih_18 (o + 1) _ (by omega) (by omega) (Eq.trans (by rw [fl_unt_go n o ρ (by omega), c_31]; rfl) hres) (fl_hour_Iv hρ)
        · refine z_iload_n C dX4_until_34 rfl 0 rfl ?_
          rw [hQ]; exact z_iret C hr dX4_until_35 ⟨congrArg (fun x => some (Value.int x)) (by rw [← hres]; first | (rw [fl_unt_go n o ρ (by omega), c_31]; rfl) | (rw [fl_unt_end n o ρ (by omega)])), congrArg (fun x => [(shM t a ta, (zU κ 0 (0) (nI (0)))), (shS a cI, σ), (shS ta cI, x)]) (by rw [← hres]; first | (rw [fl_unt_go n o ρ (by omega), c_31]; rfl) | (rw [fl_unt_end n o ρ (by omega)]))⟩
  refine z_sub (L' := [(1, .int (nI (0))), (0, .ref (t))]) [0, 1] rfl ?_
  exact loop_18 (61 + 1) 0 _ (by omega) (by omega) rfl (fl_cpy_Iv hI)
set_option maxHeartbeats 4000000 in
set_option maxRecDepth 100000 in
theorem c_X4_foresee (l : Launch) (D : va_G) (cI cZ cJ : ClassId) (t : Nat) (a ta : Nat → Nat) (κ σ τ : zF) (n : Nat) (hI : fl_Iv n σ) (h : Nat) (w : Nat) (h1 : 1 ≤ h) (h50 : h ≤ 50) (hw3 : 3 ≤ w) (hw : w < 10) : zM l D (tyL cI cZ cJ) yX4_foresee cX4_foresee 3 (some .int) (zR 5 111) [.ref (t), .int (nI (h)), .int (nI (w))] [(shM t a ta, κ), (shS a cI, σ), (shS ta cI, τ)] 0 0 (fun r u => r = some (.int (fl_ofF n (fl_hours n h (fl_cpy σ τ)) w)) ∧ u = [(shM t a ta, (zU κ 0 (0) (nI (0)))), (shS a cI, σ), (shS ta cI, (fl_hours n h (fl_cpy σ τ)))]) := by
  have hn3 := hI.n3
  have hn7 := hI.n7
  refine z_of (by decide) (Nat.le_of_ble_eq_true rfl) rfl ?_
  intro p e s m args below meth c A C hr hin
  obtain ⟨Q, hQ⟩ : ∃ Q, Q = MQ below (zQ (fun r u => r = some (.int (fl_ofF n (fl_hours n h (fl_cpy σ τ)) w)) ∧ u = [(shM t a ta, (zU κ 0 (0) (nI (0)))), (shS a cI, σ), (shS ta cI, (fl_hours n h (fl_cpy σ τ)))]) D (tyL cI cZ cJ) A) args s 0 0 A := ⟨_, rfl⟩
  rw [← hQ]
  refine z_aload_n C dX4_foresee_0 rfl 0 rfl ?_
  refine z_iconst C (v := nI (0)) (by decide) dX4_foresee_1 ?_
  refine z_putI C (B' := [(shM t a ta, (zU κ 0 (0) (nI (0)))), (shS a cI, σ), (shS ta cI, τ)]) wu_X4 tyX4_ok nmX4 0 rfl 0 rfl rfl 0 (by decide) rfl wf_X4_19 rfl (by decide +kernel) dX4_foresee_2 rfl ?_
  refine z_iload_n C dX4_foresee_5 rfl 1 rfl ?_
  refine z_iconst C (v := nI (1)) (by decide) dX4_foresee_6 ?_
  refine z_bipush C (v := nI (50)) (by decide) dX4_foresee_7 ?_
  refine z_cS C (st' := [.int (nI (1))]) (B' := [(shM t a ta, (zU κ 0 (0) (nI (0)))), (shS a cI, σ), (shS ta cI, τ)]) [false, false, false] rfl (c_X4_isIn_ok l D cI cZ cJ (nI (h)) (nI (1)) (nI (50)) (nI_le2 (by omega) (by omega)) (nI_le2 (by omega) (by omega))) wq_yX4_isIn wm_X4_26 ws_yX4_isIn ⟨rfl, rfl, Nat.le_of_ble_eq_true rfl, Nat.le_of_ble_eq_true rfl⟩ rfl rfl (Nat.le_of_ble_eq_true rfl) dX4_foresee_9 ⟨Nat.le_of_ble_eq_true rfl, Nat.le_of_ble_eq_true rfl⟩ rfl rfl ?_
  refine z_if_neN C (tgt := 21) dX4_foresee_12 (by decide) (by omega) (fun c_12 => ?_) (fun c_12 => ?_)
  · refine z_iload_n C dX4_foresee_21 rfl 2 rfl ?_
    refine z_iconst C (v := nI (3)) (by decide) dX4_foresee_22 ?_
    refine z_bipush C (v := nI (9)) (by decide) dX4_foresee_23 ?_
    refine z_cS C (st' := [.int (nI (1))]) (B' := [(shM t a ta, (zU κ 0 (0) (nI (0)))), (shS a cI, σ), (shS ta cI, τ)]) [false, false, false] rfl (c_X4_isIn_ok l D cI cZ cJ (nI (w)) (nI (3)) (nI (9)) (nI_le2 (by omega) (by omega)) (nI_le2 (by omega) (by omega))) wq_yX4_isIn wm_X4_26 ws_yX4_isIn ⟨rfl, rfl, Nat.le_of_ble_eq_true rfl, Nat.le_of_ble_eq_true rfl⟩ rfl rfl (Nat.le_of_ble_eq_true rfl) dX4_foresee_25 ⟨Nat.le_of_ble_eq_true rfl, Nat.le_of_ble_eq_true rfl⟩ rfl rfl ?_
    refine z_if_neN C (tgt := 37) dX4_foresee_28 (by decide) (by omega) (fun c_28 => ?_) (fun c_28 => ?_)
    · refine z_aload_n C dX4_foresee_37 rfl 0 rfl ?_
      refine z_getR C wu_X4 0 rfl 0 rfl rfl 2 (by decide) rfl wf_X4_16 dX4_foresee_38 ?_
      refine z_aload_n C dX4_foresee_41 rfl 0 rfl ?_
      refine z_getR C wu_X4 0 rfl 0 rfl rfl 1 (by decide) rfl wf_X4_10 dX4_foresee_42 ?_
      refine z_cV C (st' := []) (B' := [(shM t a ta, (zU κ 0 (0) (nI (0)))), (shS a cI, σ), (shS ta cI, (fl_cpy σ τ))]) [false, true, true] rfl (c_X3_become l D cI cZ cJ a ta σ τ) wq_yX3_become wm_X4_116 ⟨wn_yX3_become, wo_yX3_become⟩ ⟨rfl, rfl, Nat.le_of_ble_eq_true rfl, Nat.le_of_ble_eq_true rfl⟩ 2 rfl 0 rfl rfl rfl rfl (Nat.le_of_ble_eq_true rfl) dX4_foresee_45 ⟨Nat.le_of_ble_eq_true rfl, Nat.le_of_ble_eq_true rfl⟩ rfl rfl ?_
      refine z_aload_n C dX4_foresee_48 rfl 0 rfl ?_
      refine z_getR C wu_X4 0 rfl 0 rfl rfl 2 (by decide) rfl wf_X4_16 dX4_foresee_49 ?_
      refine z_iload_n C dX4_foresee_52 rfl 1 rfl ?_
      have hi_1 : fl_Iv n (fl_hours n h ((fl_cpy σ τ))) := fl_hours_Iv (fl_cpy_Iv hI) _
      refine z_cV C (st' := []) (B' := [(shM t a ta, (zU κ 0 (0) (nI (0)))), (shS a cI, σ), (shS ta cI, (fl_hours n h ((fl_cpy σ τ))))]) [false, false, true] rfl (c_X3_passOn l D cI cZ cJ ta ((fl_cpy σ τ)) n (fl_cpy_Iv hI) h (by omega)) wq_yX3_passOn wm_X4_78 ⟨wn_yX3_passOn, wo_yX3_passOn⟩ ⟨rfl, rfl, Nat.le_of_ble_eq_true rfl, Nat.le_of_ble_eq_true rfl⟩ 2 rfl 0 rfl rfl rfl rfl (Nat.le_of_ble_eq_true rfl) dX4_foresee_53 ⟨Nat.le_of_ble_eq_true rfl, Nat.le_of_ble_eq_true rfl⟩ rfl rfl ?_
      refine z_aload_n C dX4_foresee_56 rfl 0 rfl ?_
      refine z_getR C wu_X4 0 rfl 0 rfl rfl 2 (by decide) rfl wf_X4_16 dX4_foresee_57 ?_
      refine z_iload_n C dX4_foresee_60 rfl 2 rfl ?_
      refine z_cV C (st' := [.int (fl_ofF n ((fl_hours n h ((fl_cpy σ τ)))) w)]) (B' := [(shM t a ta, (zU κ 0 (0) (nI (0)))), (shS a cI, σ), (shS ta cI, (fl_hours n h ((fl_cpy σ τ))))]) [false, false, true] rfl (c_X3_counted l D cI cZ cJ ta ((fl_hours n h ((fl_cpy σ τ)))) n hi_1 w (by omega)) wq_yX3_counted wm_X4_107 ⟨wn_yX3_counted, wo_yX3_counted⟩ ⟨rfl, rfl, Nat.le_of_ble_eq_true rfl, Nat.le_of_ble_eq_true rfl⟩ 2 rfl 0 rfl rfl rfl rfl (Nat.le_of_ble_eq_true rfl) dX4_foresee_61 ⟨Nat.le_of_ble_eq_true rfl, Nat.le_of_ble_eq_true rfl⟩ rfl rfl ?_
      rw [hQ]; exact z_iret C hr dX4_foresee_64 ⟨congrArg (fun x => some (Value.int x)) (by simp []), congrArg (fun x => [(shM t a ta, (zU κ 0 (0) (nI (0)))), (shS a cI, σ), (shS ta cI, x)]) (by simp [])⟩
    · exact absurd c_28 (by omega)
  · exact absurd c_12 (by omega)
set_option maxHeartbeats 4000000 in
set_option maxRecDepth 100000 in
theorem c_X4_foresee_b1 (l : Launch) (D : va_G) (cI cZ cJ : ClassId) (t : Nat) (a ta : Nat → Nat) (κ σ τ : zF) (n : Nat) (hI : fl_Iv n σ) (x : Int32) (w : Int32) (hx : x < nI 1 ∨ nI 50 < x) : zM l D (tyL cI cZ cJ) yX4_foresee cX4_foresee 3 (some .int) (zR 5 111) [.ref (t), .int (x), .int (w)] [(shM t a ta, κ), (shS a cI, σ), (shS ta cI, τ)] 0 0 (fun r u => r = some (.int (nI (0))) ∧ u = [(shM t a ta, (zU κ 0 (0) (nI (1)))), (shS a cI, σ), (shS ta cI, τ)]) := by
  have hn3 := hI.n3
  have hn7 := hI.n7
  refine z_of (by decide) (Nat.le_of_ble_eq_true rfl) rfl ?_
  intro p e s m args below meth c A C hr hin
  obtain ⟨Q, hQ⟩ : ∃ Q, Q = MQ below (zQ (fun r u => r = some (.int (nI (0))) ∧ u = [(shM t a ta, (zU κ 0 (0) (nI (1)))), (shS a cI, σ), (shS ta cI, τ)]) D (tyL cI cZ cJ) A) args s 0 0 A := ⟨_, rfl⟩
  rw [← hQ]
  refine z_aload_n C dX4_foresee_0 rfl 0 rfl ?_
  refine z_iconst C (v := nI (0)) (by decide) dX4_foresee_1 ?_
  refine z_putI C (B' := [(shM t a ta, (zU κ 0 (0) (nI (0)))), (shS a cI, σ), (shS ta cI, τ)]) wu_X4 tyX4_ok nmX4 0 rfl 0 rfl rfl 0 (by decide) rfl wf_X4_19 rfl (by decide +kernel) dX4_foresee_2 rfl ?_
  refine z_iload_n C dX4_foresee_5 rfl 1 rfl ?_
  refine z_iconst C (v := nI (1)) (by decide) dX4_foresee_6 ?_
  refine z_bipush C (v := nI (50)) (by decide) dX4_foresee_7 ?_
  refine z_cS C (st' := [.int (nI (0))]) (B' := [(shM t a ta, (zU κ 0 (0) (nI (0)))), (shS a cI, σ), (shS ta cI, τ)]) [false, false, false] rfl (c_X4_isIn_no l D cI cZ cJ x (nI (1)) (nI (50)) (hx)) wq_yX4_isIn wm_X4_26 ws_yX4_isIn ⟨rfl, rfl, Nat.le_of_ble_eq_true rfl, Nat.le_of_ble_eq_true rfl⟩ rfl rfl (Nat.le_of_ble_eq_true rfl) dX4_foresee_9 ⟨Nat.le_of_ble_eq_true rfl, Nat.le_of_ble_eq_true rfl⟩ rfl rfl ?_
  refine z_if_neN C (tgt := 21) dX4_foresee_12 (by decide) (by omega) (fun c_12 => ?_) (fun c_12 => ?_)
  · exact absurd c_12 (by omega)
  · refine z_aload_n C dX4_foresee_15 rfl 0 rfl ?_
    refine z_iconst C (v := nI (1)) (by decide) dX4_foresee_16 ?_
    refine z_cV C (st' := [.int (nI (0))]) (B' := [(shM t a ta, (zU (zU κ 0 (0) (nI (0))) 0 (0) (nI (1)))), (shS a cI, σ), (shS ta cI, τ)]) [true, true, true] rfl (c_X4_no l D cI cZ cJ t a ta (zU κ 0 (0) (nI (0))) σ τ n hI 1) wq_yX4_no wm_X4_30 ⟨wn_yX4_no, wo_yX4_no⟩ ⟨rfl, rfl, Nat.le_of_ble_eq_true rfl, Nat.le_of_ble_eq_true rfl⟩ 0 rfl 0 rfl rfl rfl rfl (Nat.le_of_ble_eq_true rfl) dX4_foresee_17 ⟨Nat.le_of_ble_eq_true rfl, Nat.le_of_ble_eq_true rfl⟩ rfl rfl ?_
    refine z_eq (B' := [(shM t a ta, (zU κ 0 (0) (nI (1)))), (shS a cI, σ), (shS ta cI, τ)]) (congrArg (fun x => [(shM t a ta, x), (shS a cI, σ), (shS ta cI, τ)]) (zU_tw _ _ _ _ _)) ?_
    rw [hQ]; exact z_iret C hr dX4_foresee_20 ⟨rfl, rfl⟩
set_option maxHeartbeats 4000000 in
set_option maxRecDepth 100000 in
theorem c_X4_foresee_b2 (l : Launch) (D : va_G) (cI cZ cJ : ClassId) (t : Nat) (a ta : Nat → Nat) (κ σ τ : zF) (n : Nat) (hI : fl_Iv n σ) (h : Nat) (x : Int32) (h1 : 1 ≤ h) (h50 : h ≤ 50) (hx : x < nI 3 ∨ nI 10 ≤ x) : zM l D (tyL cI cZ cJ) yX4_foresee cX4_foresee 3 (some .int) (zR 5 111) [.ref (t), .int (nI (h)), .int (x)] [(shM t a ta, κ), (shS a cI, σ), (shS ta cI, τ)] 0 0 (fun r u => r = some (.int (nI (0))) ∧ u = [(shM t a ta, (zU κ 0 (0) (nI (2)))), (shS a cI, σ), (shS ta cI, τ)]) := by
  have hn3 := hI.n3
  have hn7 := hI.n7
  refine z_of (by decide) (Nat.le_of_ble_eq_true rfl) rfl ?_
  intro p e s m args below meth c A C hr hin
  obtain ⟨Q, hQ⟩ : ∃ Q, Q = MQ below (zQ (fun r u => r = some (.int (nI (0))) ∧ u = [(shM t a ta, (zU κ 0 (0) (nI (2)))), (shS a cI, σ), (shS ta cI, τ)]) D (tyL cI cZ cJ) A) args s 0 0 A := ⟨_, rfl⟩
  rw [← hQ]
  refine z_aload_n C dX4_foresee_0 rfl 0 rfl ?_
  refine z_iconst C (v := nI (0)) (by decide) dX4_foresee_1 ?_
  refine z_putI C (B' := [(shM t a ta, (zU κ 0 (0) (nI (0)))), (shS a cI, σ), (shS ta cI, τ)]) wu_X4 tyX4_ok nmX4 0 rfl 0 rfl rfl 0 (by decide) rfl wf_X4_19 rfl (by decide +kernel) dX4_foresee_2 rfl ?_
  refine z_iload_n C dX4_foresee_5 rfl 1 rfl ?_
  refine z_iconst C (v := nI (1)) (by decide) dX4_foresee_6 ?_
  refine z_bipush C (v := nI (50)) (by decide) dX4_foresee_7 ?_
  refine z_cS C (st' := [.int (nI (1))]) (B' := [(shM t a ta, (zU κ 0 (0) (nI (0)))), (shS a cI, σ), (shS ta cI, τ)]) [false, false, false] rfl (c_X4_isIn_ok l D cI cZ cJ (nI (h)) (nI (1)) (nI (50)) (nI_le2 (by omega) (by omega)) (nI_le2 (by omega) (by omega))) wq_yX4_isIn wm_X4_26 ws_yX4_isIn ⟨rfl, rfl, Nat.le_of_ble_eq_true rfl, Nat.le_of_ble_eq_true rfl⟩ rfl rfl (Nat.le_of_ble_eq_true rfl) dX4_foresee_9 ⟨Nat.le_of_ble_eq_true rfl, Nat.le_of_ble_eq_true rfl⟩ rfl rfl ?_
  refine z_if_neN C (tgt := 21) dX4_foresee_12 (by decide) (by omega) (fun c_12 => ?_) (fun c_12 => ?_)
  · refine z_iload_n C dX4_foresee_21 rfl 2 rfl ?_
    refine z_iconst C (v := nI (3)) (by decide) dX4_foresee_22 ?_
    refine z_bipush C (v := nI (9)) (by decide) dX4_foresee_23 ?_
    refine z_cS C (st' := [.int (nI (0))]) (B' := [(shM t a ta, (zU κ 0 (0) (nI (0)))), (shS a cI, σ), (shS ta cI, τ)]) [false, false, false] rfl (c_X4_isIn_no l D cI cZ cJ x (nI (3)) (nI (9)) (lo_up 3 9 hx (by omega))) wq_yX4_isIn wm_X4_26 ws_yX4_isIn ⟨rfl, rfl, Nat.le_of_ble_eq_true rfl, Nat.le_of_ble_eq_true rfl⟩ rfl rfl (Nat.le_of_ble_eq_true rfl) dX4_foresee_25 ⟨Nat.le_of_ble_eq_true rfl, Nat.le_of_ble_eq_true rfl⟩ rfl rfl ?_
    refine z_if_neN C (tgt := 37) dX4_foresee_28 (by decide) (by omega) (fun c_28 => ?_) (fun c_28 => ?_)
    · exact absurd c_28 (by omega)
    · refine z_aload_n C dX4_foresee_31 rfl 0 rfl ?_
      refine z_iconst C (v := nI (2)) (by decide) dX4_foresee_32 ?_
      refine z_cV C (st' := [.int (nI (0))]) (B' := [(shM t a ta, (zU (zU κ 0 (0) (nI (0))) 0 (0) (nI (2)))), (shS a cI, σ), (shS ta cI, τ)]) [true, true, true] rfl (c_X4_no l D cI cZ cJ t a ta (zU κ 0 (0) (nI (0))) σ τ n hI 2) wq_yX4_no wm_X4_30 ⟨wn_yX4_no, wo_yX4_no⟩ ⟨rfl, rfl, Nat.le_of_ble_eq_true rfl, Nat.le_of_ble_eq_true rfl⟩ 0 rfl 0 rfl rfl rfl rfl (Nat.le_of_ble_eq_true rfl) dX4_foresee_33 ⟨Nat.le_of_ble_eq_true rfl, Nat.le_of_ble_eq_true rfl⟩ rfl rfl ?_
      refine z_eq (B' := [(shM t a ta, (zU κ 0 (0) (nI (2)))), (shS a cI, σ), (shS ta cI, τ)]) (congrArg (fun x => [(shM t a ta, x), (shS a cI, σ), (shS ta cI, τ)]) (zU_tw _ _ _ _ _)) ?_
      rw [hQ]; exact z_iret C hr dX4_foresee_36 ⟨rfl, rfl⟩
  · exact absurd c_12 (by omega)
set_option maxHeartbeats 4000000 in
set_option maxRecDepth 100000 in
theorem c_X4_advise (l : Launch) (D : va_G) (cI cZ cJ : ClassId) (t : Nat) (a ta : Nat → Nat) (κ σ τ : zF) (n : Nat) (hI : fl_Iv n σ) (b : Nat) (k : Nat) (hb : b < n) (h1 : 1 ≤ k) (h20 : k ≤ 20) (hup : ¬ σ 7 b = 0) : zM l D (tyL cI cZ cJ) yX4_advise cX4_advise 6 (some .int) (zR 5 111) [.ref (t), .int (nI (b)), .int (nI (k))] [(shM t a ta, κ), (shS a cI, σ), (shS ta cI, τ)] 0 0 (fun r u => r = some (.int ((fl_advL n σ b k τ 3).1)) ∧ u = [(shM t a ta, (zU κ 0 (0) (nI (0)))), (shS a cI, σ), (shS ta cI, (fl_advL n σ b k τ 3).2.2)]) := by
  have hn3 := hI.n3
  have hn7 := hI.n7
  refine z_of (by decide) (Nat.le_of_ble_eq_true rfl) rfl ?_
  intro p e s m args below meth c A C hr hin
  obtain ⟨Q, hQ⟩ : ∃ Q, Q = MQ below (zQ (fun r u => r = some (.int ((fl_advL n σ b k τ 3).1)) ∧ u = [(shM t a ta, (zU κ 0 (0) (nI (0)))), (shS a cI, σ), (shS ta cI, (fl_advL n σ b k τ 3).2.2)]) D (tyL cI cZ cJ) A) args s 0 0 A := ⟨_, rfl⟩
  rw [← hQ]
  refine z_aload_n C dX4_advise_0 rfl 0 rfl ?_
  refine z_iconst C (v := nI (0)) (by decide) dX4_advise_1 ?_
  refine z_putI C (B' := [(shM t a ta, (zU κ 0 (0) (nI (0)))), (shS a cI, σ), (shS ta cI, τ)]) wu_X4 tyX4_ok nmX4 0 rfl 0 rfl rfl 0 (by decide) rfl wf_X4_19 rfl (by decide +kernel) dX4_advise_2 rfl ?_
  refine z_aload_n C dX4_advise_5 rfl 0 rfl ?_
  refine z_iload_n C dX4_advise_6 rfl 1 rfl ?_
  refine z_cV C (st' := [.int (nI (1))]) (B' := [(shM t a ta, (zU κ 0 (0) (nI (0)))), (shS a cI, σ), (shS ta cI, τ)]) [true, true, true] rfl (c_X4_isBoat_ok l D cI cZ cJ t a ta (zU κ 0 (0) (nI (0))) σ τ n hI b (by omega)) wq_yX4_isBoat wm_X4_38 ⟨wn_yX4_isBoat, wo_yX4_isBoat⟩ ⟨rfl, rfl, Nat.le_of_ble_eq_true rfl, Nat.le_of_ble_eq_true rfl⟩ 0 rfl 0 rfl rfl rfl rfl (Nat.le_of_ble_eq_true rfl) dX4_advise_7 ⟨Nat.le_of_ble_eq_true rfl, Nat.le_of_ble_eq_true rfl⟩ rfl rfl ?_
  refine z_if_neN C (tgt := 19) dX4_advise_10 (by decide) (by omega) (fun c_10 => ?_) (fun c_10 => ?_)
  · refine z_iload_n C dX4_advise_19 rfl 2 rfl ?_
    refine z_iconst C (v := nI (1)) (by decide) dX4_advise_20 ?_
    refine z_bipush C (v := nI (20)) (by decide) dX4_advise_21 ?_
    refine z_cS C (st' := [.int (nI (1))]) (B' := [(shM t a ta, (zU κ 0 (0) (nI (0)))), (shS a cI, σ), (shS ta cI, τ)]) [false, false, false] rfl (c_X4_isIn_ok l D cI cZ cJ (nI (k)) (nI (1)) (nI (20)) (nI_le2 (by omega) (by omega)) (nI_le2 (by omega) (by omega))) wq_yX4_isIn wm_X4_26 ws_yX4_isIn ⟨rfl, rfl, Nat.le_of_ble_eq_true rfl, Nat.le_of_ble_eq_true rfl⟩ rfl rfl (Nat.le_of_ble_eq_true rfl) dX4_advise_23 ⟨Nat.le_of_ble_eq_true rfl, Nat.le_of_ble_eq_true rfl⟩ rfl rfl ?_
    refine z_if_neN C (tgt := 35) dX4_advise_26 (by decide) (by omega) (fun c_26 => ?_) (fun c_26 => ?_)
    · refine z_aload_n C dX4_advise_35 rfl 0 rfl ?_
      refine z_getR C wu_X4 0 rfl 0 rfl rfl 1 (by decide) rfl wf_X4_10 dX4_advise_36 ?_
      refine z_getRN C wu_X3 1 rfl 0 rfl rfl 11 (by decide) rfl wf_X4_49 dX4_advise_39 ?_
      refine z_iload_n C dX4_advise_42 rfl 1 rfl ?_
      refine z_iald C 1 rfl 7 0 rfl rfl dX4_advise_43 (by omega) (by decide) ?_
      refine z_if_ne C (tgt := 53) dX4_advise_44 (by decide) (fun c_44 => ?_) (fun c_44 => ?_)
      · refine z_iconst C (v := nI (0)) (by decide) dX4_advise_53 ?_
        refine z_istore_n C (L' := [(3, .int (nI (0))), (0, .ref (t)), (1, .int (nI (b))), (2, .int (nI (k)))]) dX4_advise_54 rfl (by decide) rfl ?_
        refine z_iconst C (v := -1) (by decide) dX4_advise_55 ?_
        refine z_istore C (L' := [(4, .int (-1)), (3, .int (nI (0))), (0, .ref (t)), (1, .int (nI (b))), (2, .int (nI (k)))]) dX4_advise_56 (by decide) rfl ?_
        refine z_iconst C (v := nI (0)) (by decide) dX4_advise_58 ?_
        refine z_istore C (L' := [(5, .int (nI (0))), (4, .int (-1)), (3, .int (nI (0))), (0, .ref (t)), (1, .int (nI (b))), (2, .int (nI (k)))]) dX4_advise_59 (by decide) rfl ?_
        have loop_61 : ∀ (k_61 o : Nat) (v : Int32) (g : Int32) (ρ : zF), 3 < o + k_61 → o ≤ 3 → (hres : fl_advL n σ b k τ o = (v, g, ρ)) → zK p l e (zR 5 111) s m args below meth c D A 6 Q 0 0 61 [(5, .int (nI (o))), (4, .int (g)), (3, .int (v)), (2, .int (nI (k))), (1, .int (nI (b))), (0, .ref (t))] [] [(shM t a ta, (zU κ 0 (0) (nI (0)))), (shS a cI, σ), (shS ta cI, ρ)] := by
          intro k_61
          induction k_61 with
          | zero => intro o v g ρ m1_61 m2_61; exact absurd m1_61 (by omega)
          | succ k_61 ih_61 =>
            intro o v g ρ m1_61 m2_61 hres
            refine z_iload C dX4_advise_61 0 rfl ?_
            refine z_iconst C (v := nI (3)) (by decide) dX4_advise_63 ?_
            refine z_icmp_geN C (tgt := 134) dX4_advise_64 (by decide) (by omega) (by omega) (fun c_64 => ?_) (fun c_64 => ?_)
            · refine z_iload_n C dX4_advise_134 rfl 2 rfl ?_
              rw [hQ]; exact z_iret C hr dX4_advise_135 ⟨congrArg (fun x => some (Value.int x)) (by rw [show (3 : Nat) = o by omega, hres]), congrArg (fun x => [(shM t a ta, (zU κ 0 (0) (nI (0)))), (shS a cI, σ), (shS ta cI, x)]) (by rw [show (3 : Nat) = o by omega, hres])⟩
            · refine z_aload_n C dX4_advise_67 rfl 5 rfl ?_
              refine z_getR C wu_X4 0 rfl 0 rfl rfl 2 (by decide) rfl wf_X4_16 dX4_advise_68 ?_
              refine z_aload_n C dX4_advise_71 rfl 5 rfl ?_
              refine z_getR C wu_X4 0 rfl 0 rfl rfl 1 (by decide) rfl wf_X4_10 dX4_advise_72 ?_
              refine z_cV C (st' := []) (B' := [(shM t a ta, (zU κ 0 (0) (nI (0)))), (shS a cI, σ), (shS ta cI, (fl_cpy σ ρ))]) [false, true, true] rfl (c_X3_become l D cI cZ cJ a ta σ ρ) wq_yX3_become wm_X4_116 ⟨wn_yX3_become, wo_yX3_become⟩ ⟨rfl, rfl, Nat.le_of_ble_eq_true rfl, Nat.le_of_ble_eq_true rfl⟩ 2 rfl 0 rfl rfl rfl rfl (Nat.le_of_ble_eq_true rfl) dX4_advise_75 ⟨Nat.le_of_ble_eq_true rfl, Nat.le_of_ble_eq_true rfl⟩ rfl rfl ?_
              refine z_aload_n C dX4_advise_78 rfl 5 rfl ?_
              refine z_getR C wu_X4 0 rfl 0 rfl rfl 2 (by decide) rfl wf_X4_16 dX4_advise_79 ?_
              refine z_getRN C wu_X3 2 rfl 0 rfl rfl 10 (by decide) rfl wf_X4_46 dX4_advise_82 ?_
              refine z_iload_n C dX4_advise_85 rfl 4 rfl ?_
              refine z_iload C dX4_advise_86 0 rfl ?_
              refine z_iast C (B' := [(shM t a ta, (zU κ 0 (0) (nI (0)))), (shS a cI, σ), (shS ta cI, (zU (fl_cpy σ ρ) 6 (b) (nI (o))))]) 2 rfl 6 0 rfl rfl dX4_advise_88 (by omega) (by decide) rfl ?_
              refine z_aload_n C dX4_advise_89 rfl 5 rfl ?_
              refine z_getR C wu_X4 0 rfl 0 rfl rfl 2 (by decide) rfl wf_X4_16 dX4_advise_90 ?_
              refine z_iload_n C dX4_advise_93 rfl 3 rfl ?_
              have hi_1 : fl_Iv n (zU (fl_cpy σ ρ) 6 (b) (nI (o))) := ((fl_cpy_Iv hI).U 6 (b) (nI (o)) (by decide) (by decide) (by decide) (by decide))
              have hi_2 : fl_Iv n (fl_hours n k ((zU (fl_cpy σ ρ) 6 (b) (nI (o))))) := fl_hours_Iv hi_1 _
              refine z_cV C (st' := []) (B' := [(shM t a ta, (zU κ 0 (0) (nI (0)))), (shS a cI, σ), (shS ta cI, (fl_hours n k ((zU (fl_cpy σ ρ) 6 (b) (nI (o))))))]) [false, false, true] rfl (c_X3_passOn l D cI cZ cJ ta ((zU (fl_cpy σ ρ) 6 (b) (nI (o)))) n hi_1 k (by omega)) wq_yX3_passOn wm_X4_78 ⟨wn_yX3_passOn, wo_yX3_passOn⟩ ⟨rfl, rfl, Nat.le_of_ble_eq_true rfl, Nat.le_of_ble_eq_true rfl⟩ 2 rfl 0 rfl rfl rfl rfl (Nat.le_of_ble_eq_true rfl) dX4_advise_94 ⟨Nat.le_of_ble_eq_true rfl, Nat.le_of_ble_eq_true rfl⟩ rfl rfl ?_
              refine z_aload_n C dX4_advise_97 rfl 5 rfl ?_
              refine z_getR C wu_X4 0 rfl 0 rfl rfl 2 (by decide) rfl wf_X4_16 dX4_advise_98 ?_
              refine z_bipush C (v := nI (8)) (by decide) dX4_advise_101 ?_
              refine z_cV C (st' := [.int (fl_ofF n ((fl_hours n k ((zU (fl_cpy σ ρ) 6 (b) (nI (o)))))) 8)]) (B' := [(shM t a ta, (zU κ 0 (0) (nI (0)))), (shS a cI, σ), (shS ta cI, (fl_hours n k ((zU (fl_cpy σ ρ) 6 (b) (nI (o))))))]) [false, false, true] rfl (c_X3_counted l D cI cZ cJ ta ((fl_hours n k ((zU (fl_cpy σ ρ) 6 (b) (nI (o)))))) n hi_2 8 (by omega)) wq_yX3_counted wm_X4_107 ⟨wn_yX3_counted, wo_yX3_counted⟩ ⟨rfl, rfl, Nat.le_of_ble_eq_true rfl, Nat.le_of_ble_eq_true rfl⟩ 2 rfl 0 rfl rfl rfl rfl (Nat.le_of_ble_eq_true rfl) dX4_advise_103 ⟨Nat.le_of_ble_eq_true rfl, Nat.le_of_ble_eq_true rfl⟩ rfl rfl ?_
              refine z_iload C dX4_advise_106 1 rfl ?_
              refine z_icmp_gt C (tgt := 114) dX4_advise_108 (by decide) (fun c_108 => ?_) (fun c_108 => ?_)
              · refine z_iload C dX4_advise_114 0 rfl ?_
                refine z_istore_n C (L' := [(3, .int (nI (o))), (5, .int (nI (o))), (4, .int (g)), (2, .int (nI (k))), (1, .int (nI (b))), (0, .ref (t))]) dX4_advise_116 rfl (by decide) rfl ?_
                refine z_aload_n C dX4_advise_117 rfl 5 rfl ?_
                refine z_getR C wu_X4 0 rfl 0 rfl rfl 2 (by decide) rfl wf_X4_16 dX4_advise_118 ?_
                refine z_bipush C (v := nI (8)) (by decide) dX4_advise_121 ?_
                refine z_cV C (st' := [.int (fl_ofF n ((fl_hours n k ((zU (fl_cpy σ ρ) 6 (b) (nI (o)))))) 8)]) (B' := [(shM t a ta, (zU κ 0 (0) (nI (0)))), (shS a cI, σ), (shS ta cI, (fl_hours n k ((zU (fl_cpy σ ρ) 6 (b) (nI (o))))))]) [false, false, true] rfl (c_X3_counted l D cI cZ cJ ta ((fl_hours n k ((zU (fl_cpy σ ρ) 6 (b) (nI (o)))))) n hi_2 8 (by omega)) wq_yX3_counted wm_X4_107 ⟨wn_yX3_counted, wo_yX3_counted⟩ ⟨rfl, rfl, Nat.le_of_ble_eq_true rfl, Nat.le_of_ble_eq_true rfl⟩ 2 rfl 0 rfl rfl rfl rfl (Nat.le_of_ble_eq_true rfl) dX4_advise_123 ⟨Nat.le_of_ble_eq_true rfl, Nat.le_of_ble_eq_true rfl⟩ rfl rfl ?_
                refine z_istore C (L' := [(4, .int (fl_ofF n ((fl_hours n k ((zU (fl_cpy σ ρ) 6 (b) (nI (o)))))) 8)), (3, .int (nI (o))), (5, .int (nI (o))), (2, .int (nI (k))), (1, .int (nI (b))), (0, .ref (t))]) dX4_advise_126 (by decide) rfl ?_
                refine z_iinc C (L' := [(5, .int (nI (o + 1))), (4, .int (fl_ofF n ((fl_hours n k ((zU (fl_cpy σ ρ) 6 (b) (nI (o)))))) 8)), (3, .int (nI (o))), (2, .int (nI (k))), (1, .int (nI (b))), (0, .ref (t))]) dX4_advise_128 2 rfl (z_inc1 _) (by decide) rfl ?_
                refine z_goto C (tgt := 61) dX4_advise_131 (by decide) ?_
                refine z_sub (L' := [(5, .int (nI (o + 1))), (4, .int (fl_ofF n ((fl_hours n k ((zU (fl_cpy σ ρ) 6 (b) (nI (o)))))) 8)), (3, .int (nI (o))), (2, .int (nI (k))), (1, .int (nI (b))), (0, .ref (t))]) [0, 1, 2, 3, 4, 5] rfl ?_
                exact ih_61 (o + 1) _ _ _ (by omega) (by omega) (by rw [fl_advL, hres]; exact if_pos c_108)
              · refine z_goto C (tgt := 128) dX4_advise_111 (by decide) ?_
                refine z_iinc C (L' := [(5, .int (nI (o + 1))), (4, .int (g)), (3, .int (v)), (2, .int (nI (k))), (1, .int (nI (b))), (0, .ref (t))]) dX4_advise_128 0 rfl (z_inc1 _) (by decide) rfl ?_
                refine z_goto C (tgt := 61) dX4_advise_131 (by decide) ?_
                refine z_sub (L' := [(5, .int (nI (o + 1))), (4, .int (g)), (3, .int (v)), (2, .int (nI (k))), (1, .int (nI (b))), (0, .ref (t))]) [0, 1, 2, 3, 4, 5] rfl ?_
                exact ih_61 (o + 1) _ _ _ (by omega) (by omega) (by rw [fl_advL, hres]; exact if_neg c_108)
        refine z_sub (L' := [(5, .int (nI (0))), (4, .int (-1)), (3, .int (nI (0))), (2, .int (nI (k))), (1, .int (nI (b))), (0, .ref (t))]) [0, 1, 2, 5, 4, 3] rfl ?_
        exact loop_61 (3 + 1) 0 _ _ _ (by omega) (by omega) rfl
      · exact absurd c_44 hup
    · exact absurd c_26 (by omega)
  · exact absurd c_10 (by omega)
set_option maxHeartbeats 4000000 in
set_option maxRecDepth 100000 in
theorem c_X4_advise_b1 (l : Launch) (D : va_G) (cI cZ cJ : ClassId) (t : Nat) (a ta : Nat → Nat) (κ σ τ : zF) (n : Nat) (hI : fl_Iv n σ) (x : Int32) (k : Int32) (hx : x < 0 ∨ nI n ≤ x) : zM l D (tyL cI cZ cJ) yX4_advise cX4_advise 6 (some .int) (zR 5 111) [.ref (t), .int (x), .int (k)] [(shM t a ta, κ), (shS a cI, σ), (shS ta cI, τ)] 0 0 (fun r u => r = some (.int (nI (0))) ∧ u = [(shM t a ta, (zU κ 0 (0) (nI (1)))), (shS a cI, σ), (shS ta cI, τ)]) := by
  have hn3 := hI.n3
  have hn7 := hI.n7
  refine z_of (by decide) (Nat.le_of_ble_eq_true rfl) rfl ?_
  intro p e s m args below meth c A C hr hin
  obtain ⟨Q, hQ⟩ : ∃ Q, Q = MQ below (zQ (fun r u => r = some (.int (nI (0))) ∧ u = [(shM t a ta, (zU κ 0 (0) (nI (1)))), (shS a cI, σ), (shS ta cI, τ)]) D (tyL cI cZ cJ) A) args s 0 0 A := ⟨_, rfl⟩
  rw [← hQ]
  refine z_aload_n C dX4_advise_0 rfl 0 rfl ?_
  refine z_iconst C (v := nI (0)) (by decide) dX4_advise_1 ?_
  refine z_putI C (B' := [(shM t a ta, (zU κ 0 (0) (nI (0)))), (shS a cI, σ), (shS ta cI, τ)]) wu_X4 tyX4_ok nmX4 0 rfl 0 rfl rfl 0 (by decide) rfl wf_X4_19 rfl (by decide +kernel) dX4_advise_2 rfl ?_
  refine z_aload_n C dX4_advise_5 rfl 0 rfl ?_
  refine z_iload_n C dX4_advise_6 rfl 1 rfl ?_
  refine z_cV C (st' := [.int (nI (0))]) (B' := [(shM t a ta, (zU κ 0 (0) (nI (0)))), (shS a cI, σ), (shS ta cI, τ)]) [true, true, true] rfl (c_X4_isBoat_no l D cI cZ cJ t a ta (zU κ 0 (0) (nI (0))) σ τ n hI x (hx)) wq_yX4_isBoat wm_X4_38 ⟨wn_yX4_isBoat, wo_yX4_isBoat⟩ ⟨rfl, rfl, Nat.le_of_ble_eq_true rfl, Nat.le_of_ble_eq_true rfl⟩ 0 rfl 0 rfl rfl rfl rfl (Nat.le_of_ble_eq_true rfl) dX4_advise_7 ⟨Nat.le_of_ble_eq_true rfl, Nat.le_of_ble_eq_true rfl⟩ rfl rfl ?_
  refine z_if_neN C (tgt := 19) dX4_advise_10 (by decide) (by omega) (fun c_10 => ?_) (fun c_10 => ?_)
  · exact absurd c_10 (by omega)
  · refine z_aload_n C dX4_advise_13 rfl 0 rfl ?_
    refine z_iconst C (v := nI (1)) (by decide) dX4_advise_14 ?_
    refine z_cV C (st' := [.int (nI (0))]) (B' := [(shM t a ta, (zU (zU κ 0 (0) (nI (0))) 0 (0) (nI (1)))), (shS a cI, σ), (shS ta cI, τ)]) [true, true, true] rfl (c_X4_no l D cI cZ cJ t a ta (zU κ 0 (0) (nI (0))) σ τ n hI 1) wq_yX4_no wm_X4_30 ⟨wn_yX4_no, wo_yX4_no⟩ ⟨rfl, rfl, Nat.le_of_ble_eq_true rfl, Nat.le_of_ble_eq_true rfl⟩ 0 rfl 0 rfl rfl rfl rfl (Nat.le_of_ble_eq_true rfl) dX4_advise_15 ⟨Nat.le_of_ble_eq_true rfl, Nat.le_of_ble_eq_true rfl⟩ rfl rfl ?_
    refine z_eq (B' := [(shM t a ta, (zU κ 0 (0) (nI (1)))), (shS a cI, σ), (shS ta cI, τ)]) (congrArg (fun x => [(shM t a ta, x), (shS a cI, σ), (shS ta cI, τ)]) (zU_tw _ _ _ _ _)) ?_
    rw [hQ]; exact z_iret C hr dX4_advise_18 ⟨rfl, rfl⟩
set_option maxHeartbeats 4000000 in
set_option maxRecDepth 100000 in
theorem c_X4_advise_b2 (l : Launch) (D : va_G) (cI cZ cJ : ClassId) (t : Nat) (a ta : Nat → Nat) (κ σ τ : zF) (n : Nat) (hI : fl_Iv n σ) (b : Nat) (x : Int32) (hb : b < n) (hx : x < nI 1 ∨ nI 20 < x) : zM l D (tyL cI cZ cJ) yX4_advise cX4_advise 6 (some .int) (zR 5 111) [.ref (t), .int (nI (b)), .int (x)] [(shM t a ta, κ), (shS a cI, σ), (shS ta cI, τ)] 0 0 (fun r u => r = some (.int (nI (0))) ∧ u = [(shM t a ta, (zU κ 0 (0) (nI (2)))), (shS a cI, σ), (shS ta cI, τ)]) := by
  have hn3 := hI.n3
  have hn7 := hI.n7
  refine z_of (by decide) (Nat.le_of_ble_eq_true rfl) rfl ?_
  intro p e s m args below meth c A C hr hin
  obtain ⟨Q, hQ⟩ : ∃ Q, Q = MQ below (zQ (fun r u => r = some (.int (nI (0))) ∧ u = [(shM t a ta, (zU κ 0 (0) (nI (2)))), (shS a cI, σ), (shS ta cI, τ)]) D (tyL cI cZ cJ) A) args s 0 0 A := ⟨_, rfl⟩
  rw [← hQ]
  refine z_aload_n C dX4_advise_0 rfl 0 rfl ?_
  refine z_iconst C (v := nI (0)) (by decide) dX4_advise_1 ?_
  refine z_putI C (B' := [(shM t a ta, (zU κ 0 (0) (nI (0)))), (shS a cI, σ), (shS ta cI, τ)]) wu_X4 tyX4_ok nmX4 0 rfl 0 rfl rfl 0 (by decide) rfl wf_X4_19 rfl (by decide +kernel) dX4_advise_2 rfl ?_
  refine z_aload_n C dX4_advise_5 rfl 0 rfl ?_
  refine z_iload_n C dX4_advise_6 rfl 1 rfl ?_
  refine z_cV C (st' := [.int (nI (1))]) (B' := [(shM t a ta, (zU κ 0 (0) (nI (0)))), (shS a cI, σ), (shS ta cI, τ)]) [true, true, true] rfl (c_X4_isBoat_ok l D cI cZ cJ t a ta (zU κ 0 (0) (nI (0))) σ τ n hI b (by omega)) wq_yX4_isBoat wm_X4_38 ⟨wn_yX4_isBoat, wo_yX4_isBoat⟩ ⟨rfl, rfl, Nat.le_of_ble_eq_true rfl, Nat.le_of_ble_eq_true rfl⟩ 0 rfl 0 rfl rfl rfl rfl (Nat.le_of_ble_eq_true rfl) dX4_advise_7 ⟨Nat.le_of_ble_eq_true rfl, Nat.le_of_ble_eq_true rfl⟩ rfl rfl ?_
  refine z_if_neN C (tgt := 19) dX4_advise_10 (by decide) (by omega) (fun c_10 => ?_) (fun c_10 => ?_)
  · refine z_iload_n C dX4_advise_19 rfl 2 rfl ?_
    refine z_iconst C (v := nI (1)) (by decide) dX4_advise_20 ?_
    refine z_bipush C (v := nI (20)) (by decide) dX4_advise_21 ?_
    refine z_cS C (st' := [.int (nI (0))]) (B' := [(shM t a ta, (zU κ 0 (0) (nI (0)))), (shS a cI, σ), (shS ta cI, τ)]) [false, false, false] rfl (c_X4_isIn_no l D cI cZ cJ x (nI (1)) (nI (20)) (hx)) wq_yX4_isIn wm_X4_26 ws_yX4_isIn ⟨rfl, rfl, Nat.le_of_ble_eq_true rfl, Nat.le_of_ble_eq_true rfl⟩ rfl rfl (Nat.le_of_ble_eq_true rfl) dX4_advise_23 ⟨Nat.le_of_ble_eq_true rfl, Nat.le_of_ble_eq_true rfl⟩ rfl rfl ?_
    refine z_if_neN C (tgt := 35) dX4_advise_26 (by decide) (by omega) (fun c_26 => ?_) (fun c_26 => ?_)
    · exact absurd c_26 (by omega)
    · refine z_aload_n C dX4_advise_29 rfl 0 rfl ?_
      refine z_iconst C (v := nI (2)) (by decide) dX4_advise_30 ?_
      refine z_cV C (st' := [.int (nI (0))]) (B' := [(shM t a ta, (zU (zU κ 0 (0) (nI (0))) 0 (0) (nI (2)))), (shS a cI, σ), (shS ta cI, τ)]) [true, true, true] rfl (c_X4_no l D cI cZ cJ t a ta (zU κ 0 (0) (nI (0))) σ τ n hI 2) wq_yX4_no wm_X4_30 ⟨wn_yX4_no, wo_yX4_no⟩ ⟨rfl, rfl, Nat.le_of_ble_eq_true rfl, Nat.le_of_ble_eq_true rfl⟩ 0 rfl 0 rfl rfl rfl rfl (Nat.le_of_ble_eq_true rfl) dX4_advise_31 ⟨Nat.le_of_ble_eq_true rfl, Nat.le_of_ble_eq_true rfl⟩ rfl rfl ?_
      refine z_eq (B' := [(shM t a ta, (zU κ 0 (0) (nI (2)))), (shS a cI, σ), (shS ta cI, τ)]) (congrArg (fun x => [(shM t a ta, x), (shS a cI, σ), (shS ta cI, τ)]) (zU_tw _ _ _ _ _)) ?_
      rw [hQ]; exact z_iret C hr dX4_advise_34 ⟨rfl, rfl⟩
  · exact absurd c_10 (by omega)
set_option maxHeartbeats 4000000 in
set_option maxRecDepth 100000 in
theorem c_X4_advise_b3 (l : Launch) (D : va_G) (cI cZ cJ : ClassId) (t : Nat) (a ta : Nat → Nat) (κ σ τ : zF) (n : Nat) (hI : fl_Iv n σ) (b : Nat) (k : Nat) (hb : b < n) (h1 : 1 ≤ k) (h20 : k ≤ 20) (hup : σ 7 b = 0) : zM l D (tyL cI cZ cJ) yX4_advise cX4_advise 6 (some .int) (zR 5 111) [.ref (t), .int (nI (b)), .int (nI (k))] [(shM t a ta, κ), (shS a cI, σ), (shS ta cI, τ)] 0 0 (fun r u => r = some (.int (nI (0))) ∧ u = [(shM t a ta, (zU κ 0 (0) (nI (3)))), (shS a cI, σ), (shS ta cI, τ)]) := by
  have hn3 := hI.n3
  have hn7 := hI.n7
  refine z_of (by decide) (Nat.le_of_ble_eq_true rfl) rfl ?_
  intro p e s m args below meth c A C hr hin
  obtain ⟨Q, hQ⟩ : ∃ Q, Q = MQ below (zQ (fun r u => r = some (.int (nI (0))) ∧ u = [(shM t a ta, (zU κ 0 (0) (nI (3)))), (shS a cI, σ), (shS ta cI, τ)]) D (tyL cI cZ cJ) A) args s 0 0 A := ⟨_, rfl⟩
  rw [← hQ]
  refine z_aload_n C dX4_advise_0 rfl 0 rfl ?_
  refine z_iconst C (v := nI (0)) (by decide) dX4_advise_1 ?_
  refine z_putI C (B' := [(shM t a ta, (zU κ 0 (0) (nI (0)))), (shS a cI, σ), (shS ta cI, τ)]) wu_X4 tyX4_ok nmX4 0 rfl 0 rfl rfl 0 (by decide) rfl wf_X4_19 rfl (by decide +kernel) dX4_advise_2 rfl ?_
  refine z_aload_n C dX4_advise_5 rfl 0 rfl ?_
  refine z_iload_n C dX4_advise_6 rfl 1 rfl ?_
  refine z_cV C (st' := [.int (nI (1))]) (B' := [(shM t a ta, (zU κ 0 (0) (nI (0)))), (shS a cI, σ), (shS ta cI, τ)]) [true, true, true] rfl (c_X4_isBoat_ok l D cI cZ cJ t a ta (zU κ 0 (0) (nI (0))) σ τ n hI b (by omega)) wq_yX4_isBoat wm_X4_38 ⟨wn_yX4_isBoat, wo_yX4_isBoat⟩ ⟨rfl, rfl, Nat.le_of_ble_eq_true rfl, Nat.le_of_ble_eq_true rfl⟩ 0 rfl 0 rfl rfl rfl rfl (Nat.le_of_ble_eq_true rfl) dX4_advise_7 ⟨Nat.le_of_ble_eq_true rfl, Nat.le_of_ble_eq_true rfl⟩ rfl rfl ?_
  refine z_if_neN C (tgt := 19) dX4_advise_10 (by decide) (by omega) (fun c_10 => ?_) (fun c_10 => ?_)
  · refine z_iload_n C dX4_advise_19 rfl 2 rfl ?_
    refine z_iconst C (v := nI (1)) (by decide) dX4_advise_20 ?_
    refine z_bipush C (v := nI (20)) (by decide) dX4_advise_21 ?_
    refine z_cS C (st' := [.int (nI (1))]) (B' := [(shM t a ta, (zU κ 0 (0) (nI (0)))), (shS a cI, σ), (shS ta cI, τ)]) [false, false, false] rfl (c_X4_isIn_ok l D cI cZ cJ (nI (k)) (nI (1)) (nI (20)) (nI_le2 (by omega) (by omega)) (nI_le2 (by omega) (by omega))) wq_yX4_isIn wm_X4_26 ws_yX4_isIn ⟨rfl, rfl, Nat.le_of_ble_eq_true rfl, Nat.le_of_ble_eq_true rfl⟩ rfl rfl (Nat.le_of_ble_eq_true rfl) dX4_advise_23 ⟨Nat.le_of_ble_eq_true rfl, Nat.le_of_ble_eq_true rfl⟩ rfl rfl ?_
    refine z_if_neN C (tgt := 35) dX4_advise_26 (by decide) (by omega) (fun c_26 => ?_) (fun c_26 => ?_)
    · refine z_aload_n C dX4_advise_35 rfl 0 rfl ?_
      refine z_getR C wu_X4 0 rfl 0 rfl rfl 1 (by decide) rfl wf_X4_10 dX4_advise_36 ?_
      refine z_getRN C wu_X3 1 rfl 0 rfl rfl 11 (by decide) rfl wf_X4_49 dX4_advise_39 ?_
      refine z_iload_n C dX4_advise_42 rfl 1 rfl ?_
      refine z_iald C 1 rfl 7 0 rfl rfl dX4_advise_43 (by omega) (by decide) ?_
      refine z_if_ne C (tgt := 53) dX4_advise_44 (by decide) (fun c_44 => ?_) (fun c_44 => ?_)
      · exact absurd hup c_44
      · refine z_aload_n C dX4_advise_47 rfl 0 rfl ?_
        refine z_iconst C (v := nI (3)) (by decide) dX4_advise_48 ?_
        refine z_cV C (st' := [.int (nI (0))]) (B' := [(shM t a ta, (zU (zU κ 0 (0) (nI (0))) 0 (0) (nI (3)))), (shS a cI, σ), (shS ta cI, τ)]) [true, true, true] rfl (c_X4_no l D cI cZ cJ t a ta (zU κ 0 (0) (nI (0))) σ τ n hI 3) wq_yX4_no wm_X4_30 ⟨wn_yX4_no, wo_yX4_no⟩ ⟨rfl, rfl, Nat.le_of_ble_eq_true rfl, Nat.le_of_ble_eq_true rfl⟩ 0 rfl 0 rfl rfl rfl rfl (Nat.le_of_ble_eq_true rfl) dX4_advise_49 ⟨Nat.le_of_ble_eq_true rfl, Nat.le_of_ble_eq_true rfl⟩ rfl rfl ?_
        refine z_eq (B' := [(shM t a ta, (zU κ 0 (0) (nI (3)))), (shS a cI, σ), (shS ta cI, τ)]) (congrArg (fun x => [(shM t a ta, x), (shS a cI, σ), (shS ta cI, τ)]) (zU_tw _ _ _ _ _)) ?_
        rw [hQ]; exact z_iret C hr dX4_advise_52 ⟨rfl, rfl⟩
    · exact absurd c_26 (by omega)
  · exact absurd c_10 (by omega)
set_option maxHeartbeats 4000000 in
set_option maxRecDepth 100000 in
theorem c_X4_mean (l : Launch) (D : va_G) (cI cZ cJ : ClassId) (t : Nat) (a ta : Nat → Nat) (κ σ τ : zF) (n : Nat) (hI : fl_Iv n σ) : zM l D (tyL cI cZ cJ) yX4_mean cX4_mean 3 (some .double) (zR 0 0) [.ref (t)] [(shM t a ta, κ), (shS a cI, σ), (shS ta cI, τ)] 0 0 (fun r u => r = some (.double (FP.ddiv (FP.i2d (nI (fl_sm (fl_kn σ) n))) (FP.i2d (nI (n))))) ∧ u = [(shM t a ta, (zU κ 0 (0) (nI (0)))), (shS a cI, σ), (shS ta cI, τ)]) := by
  have hn3 := hI.n3
  have hn7 := hI.n7
  refine z_of (by decide) (Nat.le_of_ble_eq_true rfl) rfl ?_
  intro p e s m args below meth c A C hr hin
  obtain ⟨Q, hQ⟩ : ∃ Q, Q = MQ below (zQ (fun r u => r = some (.double (FP.ddiv (FP.i2d (nI (fl_sm (fl_kn σ) n))) (FP.i2d (nI (n))))) ∧ u = [(shM t a ta, (zU κ 0 (0) (nI (0)))), (shS a cI, σ), (shS ta cI, τ)]) D (tyL cI cZ cJ) A) args s 0 0 A := ⟨_, rfl⟩
  rw [← hQ]
  refine z_aload_n C dX4_mean_0 rfl 0 rfl ?_
  refine z_iconst C (v := nI (0)) (by decide) dX4_mean_1 ?_
  refine z_putI C (B' := [(shM t a ta, (zU κ 0 (0) (nI (0)))), (shS a cI, σ), (shS ta cI, τ)]) wu_X4 tyX4_ok nmX4 0 rfl 0 rfl rfl 0 (by decide) rfl wf_X4_19 rfl (by decide +kernel) dX4_mean_2 rfl ?_
  refine z_iconst C (v := nI (0)) (by decide) dX4_mean_5 ?_
  refine z_istore_n C (L' := [(1, .int (nI (0))), (0, .ref (t))]) dX4_mean_6 rfl (by decide) rfl ?_
  refine z_iconst C (v := nI (0)) (by decide) dX4_mean_7 ?_
  refine z_istore_n C (L' := [(2, .int (nI (0))), (1, .int (nI (0))), (0, .ref (t))]) dX4_mean_8 rfl (by decide) rfl ?_
  have loop_9 : ∀ (k_9 o : Nat) (v : Nat), n < o + k_9 → o ≤ n → (hv : v = fl_sm (fl_kn σ) o) → (hv1 : v ≤ 10 * o) → zK p l e (zR 0 0) s m args below meth c D A 3 Q 0 0 9 [(2, .int (nI (o))), (1, .int (nI (v))), (0, .ref (t))] [] [(shM t a ta, (zU κ 0 (0) (nI (0)))), (shS a cI, σ), (shS ta cI, τ)] := by
    intro k_9
    induction k_9 with
    | zero => intro o v m1_9 m2_9; exact absurd m1_9 (by omega)
    | succ k_9 ih_9 =>
      intro o v m1_9 m2_9 hv hv1
      refine z_iload_n C dX4_mean_9 rfl 0 rfl ?_
      refine z_aload_n C dX4_mean_10 rfl 2 rfl ?_
      refine z_getR C wu_X4 0 rfl 0 rfl rfl 1 (by decide) rfl wf_X4_10 dX4_mean_11 ?_
      refine z_getIN C wu_X3 1 rfl 0 rfl rfl 0 (by decide) rfl wf_X4_23 dX4_mean_14 ?_
      refine z_top (hI.n0 : _ = nI n) ?_
      refine z_icmp_geN C (tgt := 38) dX4_mean_17 (by decide) (by omega) (by omega) (fun c_17 => ?_) (fun c_17 => ?_)
      · refine z_iload_n C dX4_mean_38 rfl 1 rfl ?_
        refine z_i2d C dX4_mean_39 ?_
        refine z_aload_n C dX4_mean_40 rfl 2 rfl ?_
        refine z_getR C wu_X4 0 rfl 0 rfl rfl 1 (by decide) rfl wf_X4_10 dX4_mean_41 ?_
        refine z_getIN C wu_X3 1 rfl 0 rfl rfl 0 (by decide) rfl wf_X4_23 dX4_mean_44 ?_
        refine z_top (hI.n0 : _ = nI n) ?_
        refine z_i2d C dX4_mean_47 ?_
        refine z_ddiv C (fl_dd (by rw [hv, show o = n by omega]; have := fl_sm_le (f := fl_kn σ) (fun i hi => hI.knT hi) n (Nat.le_refl n); omega) (by omega) (by omega)) dX4_mean_48 ?_
        rw [hQ]; exact z_dret C hr dX4_mean_49 ⟨congrArg (fun x => some (Value.double x)) (by rw [hv, show o = n by omega]), rfl⟩
      · refine z_iload_n C dX4_mean_20 rfl 1 rfl ?_
        refine z_aload_n C dX4_mean_21 rfl 2 rfl ?_
        refine z_getR C wu_X4 0 rfl 0 rfl rfl 1 (by decide) rfl wf_X4_10 dX4_mean_22 ?_
        refine z_getRN C wu_X3 1 rfl 0 rfl rfl 13 (by decide) rfl wf_X4_58 dX4_mean_25 ?_
        refine z_iload_n C dX4_mean_28 rfl 0 rfl ?_
        refine z_iald C 1 rfl 9 0 rfl rfl dX4_mean_29 (by omega) (by decide) ?_
        refine z_top (y := nI (fl_kn σ o)) (hI.kn (by omega)) ?_
        have hb_1 := hI.knT (i := o) (by omega)
        refine z_iaddN C dX4_mean_30 ?_
        refine z_istore_n C (L' := [(1, .int (nI (v + (fl_kn σ o)))), (2, .int (nI (o))), (0, .ref (t))]) dX4_mean_31 rfl (by decide) rfl ?_
        refine z_iinc C (L' := [(2, .int (nI (o + 1))), (1, .int (nI (v + (fl_kn σ o)))), (0, .ref (t))]) dX4_mean_32 1 rfl (z_inc1 _) (by decide) rfl ?_
        refine z_goto C (tgt := 9) dX4_mean_35 (by decide) ?_
        refine z_sub (L' := [(2, .int (nI (o + 1))), (1, .int (nI (v + (fl_kn σ o)))), (0, .ref (t))]) [0, 1, 2] rfl ?_
        exact ih_9 (o + 1) _ (by omega) (by omega) (by rw [fl_sm, ← hv]) (by omega)
  refine z_sub (L' := [(2, .int (nI (0))), (1, .int (nI (0))), (0, .ref (t))]) [0, 1, 2] rfl ?_
  exact loop_9 (n + 1) 0 _ (by omega) (by omega) rfl (by omega)
set_option maxHeartbeats 4000000 in
set_option maxRecDepth 100000 in
theorem c_X4_digest (l : Launch) (D : va_G) (cI cZ cJ : ClassId) (t : Nat) (a ta : Nat → Nat) (κ σ τ : zF) (n : Nat) (hI : fl_Iv n σ) : zM l D (tyL cI cZ cJ) yX4_digest cX4_digest 6 (some .long) (zR 2 49) [.ref (t)] [(shM t a ta, κ), (shS a cI, σ), (shS ta cI, τ)] 0 0 (fun r u => r = some (.long (fl_dA n σ n)) ∧ u = [(shM t a ta, (zU κ 0 (0) (nI (0)))), (shS a cI, σ), (shS ta cI, τ)]) := by
  have hn3 := hI.n3
  have hn7 := hI.n7
  refine z_of (by decide) (Nat.le_of_ble_eq_true rfl) rfl ?_
  intro p e s m args below meth c A C hr hin
  obtain ⟨Q, hQ⟩ : ∃ Q, Q = MQ below (zQ (fun r u => r = some (.long (fl_dA n σ n)) ∧ u = [(shM t a ta, (zU κ 0 (0) (nI (0)))), (shS a cI, σ), (shS ta cI, τ)]) D (tyL cI cZ cJ) A) args s 0 0 A := ⟨_, rfl⟩
  rw [← hQ]
  refine z_aload_n C dX4_digest_0 rfl 0 rfl ?_
  refine z_iconst C (v := nI (0)) (by decide) dX4_digest_1 ?_
  refine z_putI C (B' := [(shM t a ta, (zU κ 0 (0) (nI (0)))), (shS a cI, σ), (shS ta cI, τ)]) wu_X4 tyX4_ok nmX4 0 rfl 0 rfl rfl 0 (by decide) rfl wf_X4_19 rfl (by decide +kernel) dX4_digest_2 rfl ?_
  refine z_ldc2 C wc_X4_127 dX4_digest_5 ?_
  refine z_lstore_n C (L' := [(1, .long (1759)), (0, .ref (t))]) dX4_digest_8 rfl (by decide) rfl ?_
  refine z_iconst C (v := nI (0)) (by decide) dX4_digest_9 ?_
  refine z_istore_n C (L' := [(3, .int (nI (0))), (1, .long (1759)), (0, .ref (t))]) dX4_digest_10 rfl (by decide) rfl ?_
  have loop_11 : ∀ (k_11 o : Nat) (d : Int64), 10 < o + k_11 → o ≤ 10 → (hd : d = fl_dF (fl_ofF n σ) o 1759) → zK p l e (zR 2 49) s m args below meth c D A 6 Q 0 0 11 [(3, .int (nI (o))), (1, .long (d)), (0, .ref (t))] [] [(shM t a ta, (zU κ 0 (0) (nI (0)))), (shS a cI, σ), (shS ta cI, τ)] := by
    intro k_11
    induction k_11 with
    | zero => intro o d m1_11 m2_11; exact absurd m1_11 (by omega)
    | succ k_11 ih_11 =>
      intro o d m1_11 m2_11 hd
      refine z_iload_n C dX4_digest_11 rfl 0 rfl ?_
      refine z_bipush C (v := nI (9)) (by decide) dX4_digest_12 ?_
      refine z_icmp_gtN C (tgt := 39) dX4_digest_14 (by decide) (by omega) (by omega) (fun c_14 => ?_) (fun c_14 => ?_)
      · refine z_iconst C (v := nI (0)) (by decide) dX4_digest_39 ?_
        refine z_istore_n C (L' := [(3, .int (nI (0))), (1, .long (d)), (0, .ref (t))]) dX4_digest_40 rfl (by decide) rfl ?_
        have loop_41 : ∀ (k_41 b : Nat) (d2 : Int64), n < b + k_41 → b ≤ n → (hd2 : d2 = fl_dA n σ b) → zK p l e (zR 2 49) s m args below meth c D A 6 Q 0 0 41 [(3, .int (nI (b))), (1, .long (d2)), (0, .ref (t))] [] [(shM t a ta, (zU κ 0 (0) (nI (0)))), (shS a cI, σ), (shS ta cI, τ)] := by
          intro k_41
          induction k_41 with
          | zero => intro b d2 m1_41 m2_41; exact absurd m1_41 (by omega)
          | succ k_41 ih_41 =>
            intro b d2 m1_41 m2_41 hd2
            refine z_iload_n C dX4_digest_41 rfl 0 rfl ?_
            refine z_aload_n C dX4_digest_42 rfl 2 rfl ?_
            refine z_getR C wu_X4 0 rfl 0 rfl rfl 1 (by decide) rfl wf_X4_10 dX4_digest_43 ?_
            refine z_getIN C wu_X3 1 rfl 0 rfl rfl 0 (by decide) rfl wf_X4_23 dX4_digest_46 ?_
            refine z_top (hI.n0 : _ = nI n) ?_
            refine z_icmp_geN C (tgt := 144) dX4_digest_49 (by decide) (by omega) (by omega) (fun c_49 => ?_) (fun c_49 => ?_)
            · refine z_lload_n C dX4_digest_144 rfl 1 rfl ?_
              rw [hQ]; exact z_lret C hr dX4_digest_145 ⟨congrArg (fun x => some (Value.long x)) (by rw [hd2, show b = n by omega]), rfl⟩
            · refine z_iconst C (v := nI (0)) (by decide) dX4_digest_52 ?_
              refine z_istore C (L' := [(4, .int (nI (0))), (3, .int (nI (b))), (1, .long (d2)), (0, .ref (t))]) dX4_digest_53 (by decide) rfl ?_
              have loop_55 : ∀ (k_55 i : Nat) (d3 : Int64), 10 < i + k_55 → i ≤ 10 → (hd3 : d3 = fl_dF (fl_ofB σ b) i d2) → zK p l e (zR 2 49) s m args below meth c D A 6 Q 0 0 55 [(4, .int (nI (i))), (3, .int (nI (b))), (1, .long (d3)), (0, .ref (t))] [] [(shM t a ta, (zU κ 0 (0) (nI (0)))), (shS a cI, σ), (shS ta cI, τ)] := by
                intro k_55
                induction k_55 with
                | zero => intro i d3 m1_55 m2_55; exact absurd m1_55 (by omega)
                | succ k_55 ih_55 =>
                  intro i d3 m1_55 m2_55 hd3
                  refine z_iload C dX4_digest_55 0 rfl ?_
                  refine z_bipush C (v := nI (9)) (by decide) dX4_digest_57 ?_
                  refine z_icmp_gtN C (tgt := 83) dX4_digest_59 (by decide) (by omega) (by omega) (fun c_59 => ?_) (fun c_59 => ?_)
                  · refine z_iconst C (v := nI (0)) (by decide) dX4_digest_83 ?_
                    refine z_istore C (L' := [(4, .int (nI (0))), (3, .int (nI (b))), (1, .long (d3)), (0, .ref (t))]) dX4_digest_84 (by decide) rfl ?_
                    have loop_86 : ∀ (k_86 k : Nat) (d4 : Int64), (fl_ln σ b) < k + k_86 → k ≤ (fl_ln σ b) → (hd4 : d4 = fl_dE n σ b k (fl_dF (fl_ofB σ b) 10 d2)) → zK p l e (zR 2 49) s m args below meth c D A 6 Q 0 0 86 [(4, .int (nI (k))), (3, .int (nI (b))), (1, .long (d4)), (0, .ref (t))] [] [(shM t a ta, (zU κ 0 (0) (nI (0)))), (shS a cI, σ), (shS ta cI, τ)] := by
                      intro k_86
                      induction k_86 with
                      | zero => intro k d4 m1_86 m2_86; exact absurd m1_86 (by omega)
                      | succ k_86 ih_86 =>
                        intro k d4 m1_86 m2_86 hd4
                        have hlb := hI.lnT (i := b) (by omega)
                        refine z_iload C dX4_digest_86 0 rfl ?_
                        refine z_aload_n C dX4_digest_88 rfl 3 rfl ?_
                        refine z_getR C wu_X4 0 rfl 0 rfl rfl 1 (by decide) rfl wf_X4_10 dX4_digest_89 ?_
                        refine z_getRN C wu_X3 1 rfl 0 rfl rfl 12 (by decide) rfl wf_X4_65 dX4_digest_92 ?_
                        refine z_iload_n C dX4_digest_95 rfl 1 rfl ?_
                        refine z_iald C 1 rfl 8 0 rfl rfl dX4_digest_96 (by omega) (by decide) ?_
                        refine z_top (y := nI (fl_ln σ b)) (hI.ln (by omega)) ?_
                        have hb_1 := hI.lnT (i := b) (by omega)
                        refine z_icmp_geN C (tgt := 138) dX4_digest_97 (by decide) (by omega) (by omega) (fun c_97 => ?_) (fun c_97 => ?_)
                        · refine z_iinc C (L' := [(3, .int (nI (b + 1))), (4, .int (nI (k))), (1, .long (d4)), (0, .ref (t))]) dX4_digest_138 1 rfl (z_inc1 _) (by decide) rfl ?_
                          refine z_goto C (tgt := 41) dX4_digest_141 (by decide) ?_
                          refine z_sub (L' := [(3, .int (nI (b + 1))), (1, .long (d4)), (0, .ref (t))]) [0, 2, 3] rfl ?_
                          exact ih_41 (b + 1) _ (by omega) (by omega) (by rw [fl_dA, fl_dB, ← hd2, hd4, show k = fl_ln σ b by omega])
                        · refine z_iconst C (v := nI (0)) (by decide) dX4_digest_100 ?_
                          refine z_istore C (L' := [(5, .int (nI (0))), (4, .int (nI (k))), (3, .int (nI (b))), (1, .long (d4)), (0, .ref (t))]) dX4_digest_101 (by decide) rfl ?_
                          have loop_103 : ∀ (k_103 q : Nat) (d5 : Int64), 3 < q + k_103 → q ≤ 3 → (hd5 : d5 = fl_dF (fl_ofE n σ b k) q d4) → zK p l e (zR 2 49) s m args below meth c D A 6 Q 0 0 103 [(5, .int (nI (q))), (4, .int (nI (k))), (3, .int (nI (b))), (1, .long (d5)), (0, .ref (t))] [] [(shM t a ta, (zU κ 0 (0) (nI (0)))), (shS a cI, σ), (shS ta cI, τ)] := by
                            intro k_103
                            induction k_103 with
                            | zero => intro q d5 m1_103 m2_103; exact absurd m1_103 (by omega)
                            | succ k_103 ih_103 =>
                              intro q d5 m1_103 m2_103 hd5
                              refine z_iload C dX4_digest_103 0 rfl ?_
                              refine z_iconst C (v := nI (2)) (by decide) dX4_digest_105 ?_
                              refine z_icmp_gtN C (tgt := 132) dX4_digest_106 (by decide) (by omega) (by omega) (fun c_106 => ?_) (fun c_106 => ?_)
                              · refine z_iinc C (L' := [(4, .int (nI (k + 1))), (5, .int (nI (q))), (3, .int (nI (b))), (1, .long (d5)), (0, .ref (t))]) dX4_digest_132 1 rfl (z_inc1 _) (by decide) rfl ?_
                                refine z_goto C (tgt := 86) dX4_digest_135 (by decide) ?_
                                refine z_sub (L' := [(4, .int (nI (k + 1))), (3, .int (nI (b))), (1, .long (d5)), (0, .ref (t))]) [0, 2, 3, 4] rfl ?_
                                exact ih_86 (k + 1) _ (by omega) (by omega) (by rw [fl_dE, ← hd4, hd5, show q = 3 by omega])
                              · refine z_lload_n C dX4_digest_109 rfl 3 rfl ?_
                                refine z_ldc2 C wc_X4_129 dX4_digest_110 ?_
                                refine z_lmul C dX4_digest_113 ?_
                                refine z_aload_n C dX4_digest_114 rfl 4 rfl ?_
                                refine z_iload_n C dX4_digest_115 rfl 2 rfl ?_
                                refine z_iload C dX4_digest_116 1 rfl ?_
                                refine z_iload C dX4_digest_118 0 rfl ?_
                                refine z_cV C (st' := [.int (fl_ofE n σ b k q), .long (d5 * 31)]) (B' := [(shM t a ta, (zU κ 0 (0) (nI (0)))), (shS a cI, σ), (shS ta cI, τ)]) [true, true, true] rfl (c_X4_entryTold l D cI cZ cJ t a ta (zU κ 0 (0) (nI (0))) σ τ n hI b k q (by omega) (by omega) (by omega)) wq_yX4_entryTold wm_X4_100 ⟨wn_yX4_entryTold, wo_yX4_entryTold⟩ ⟨rfl, rfl, Nat.le_of_ble_eq_true rfl, Nat.le_of_ble_eq_true rfl⟩ 0 rfl 0 rfl rfl rfl rfl (Nat.le_of_ble_eq_true rfl) dX4_digest_120 ⟨Nat.le_of_ble_eq_true rfl, Nat.le_of_ble_eq_true rfl⟩ rfl rfl ?_
                                refine z_i2l C (v := (fl_ofE n σ b k q).toInt64) rfl dX4_digest_123 ?_
                                refine z_ladd C dX4_digest_124 ?_
                                refine z_lstore_n C (L' := [(1, .long ((d5 * 31) + ((fl_ofE n σ b k q).toInt64))), (5, .int (nI (q))), (4, .int (nI (k))), (3, .int (nI (b))), (0, .ref (t))]) dX4_digest_125 rfl (by decide) rfl ?_
                                refine z_iinc C (L' := [(5, .int (nI (q + 1))), (1, .long ((d5 * 31) + ((fl_ofE n σ b k q).toInt64))), (4, .int (nI (k))), (3, .int (nI (b))), (0, .ref (t))]) dX4_digest_126 1 rfl (z_inc1 _) (by decide) rfl ?_
                                refine z_goto C (tgt := 103) dX4_digest_129 (by decide) ?_
                                refine z_sub (L' := [(5, .int (nI (q + 1))), (4, .int (nI (k))), (3, .int (nI (b))), (1, .long ((d5 * 31) + ((fl_ofE n σ b k q).toInt64))), (0, .ref (t))]) [0, 2, 3, 1, 4] rfl ?_
                                exact ih_103 (q + 1) _ (by omega) (by omega) (by rw [fl_dF, ← hd5])
                          refine z_sub (L' := [(5, .int (nI (0))), (4, .int (nI (k))), (3, .int (nI (b))), (1, .long (d4)), (0, .ref (t))]) [0, 1, 2, 3, 4] rfl ?_
                          exact loop_103 (3 + 1) 0 _ (by omega) (by omega) rfl
                    refine z_sub (L' := [(4, .int (nI (0))), (3, .int (nI (b))), (1, .long (d3)), (0, .ref (t))]) [0, 1, 2, 3] rfl ?_
                    exact loop_86 ((fl_ln σ b) + 1) 0 _ (by omega) (by omega) (by rw [hd3, show i = 10 by omega]; rfl)
                  · refine z_lload_n C dX4_digest_62 rfl 2 rfl ?_
                    refine z_ldc2 C wc_X4_129 dX4_digest_63 ?_
                    refine z_lmul C dX4_digest_66 ?_
                    refine z_aload_n C dX4_digest_67 rfl 3 rfl ?_
                    refine z_iload_n C dX4_digest_68 rfl 1 rfl ?_
                    refine z_iload C dX4_digest_69 0 rfl ?_
                    refine z_cV C (st' := [.int (fl_ofB σ b i), .long (d3 * 31)]) (B' := [(shM t a ta, (zU κ 0 (0) (nI (0)))), (shS a cI, σ), (shS ta cI, τ)]) [true, true, true] rfl (c_X4_boatTold l D cI cZ cJ t a ta (zU κ 0 (0) (nI (0))) σ τ n hI b i (by omega) (by omega)) wq_yX4_boatTold wm_X4_87 ⟨wn_yX4_boatTold, wo_yX4_boatTold⟩ ⟨rfl, rfl, Nat.le_of_ble_eq_true rfl, Nat.le_of_ble_eq_true rfl⟩ 0 rfl 0 rfl rfl rfl rfl (Nat.le_of_ble_eq_true rfl) dX4_digest_71 ⟨Nat.le_of_ble_eq_true rfl, Nat.le_of_ble_eq_true rfl⟩ rfl rfl ?_
                    refine z_i2l C (v := (fl_ofB σ b i).toInt64) rfl dX4_digest_74 ?_
                    refine z_ladd C dX4_digest_75 ?_
                    refine z_lstore_n C (L' := [(1, .long ((d3 * 31) + ((fl_ofB σ b i).toInt64))), (4, .int (nI (i))), (3, .int (nI (b))), (0, .ref (t))]) dX4_digest_76 rfl (by decide) rfl ?_
                    refine z_iinc C (L' := [(4, .int (nI (i + 1))), (1, .long ((d3 * 31) + ((fl_ofB σ b i).toInt64))), (3, .int (nI (b))), (0, .ref (t))]) dX4_digest_77 1 rfl (z_inc1 _) (by decide) rfl ?_
                    refine z_goto C (tgt := 55) dX4_digest_80 (by decide) ?_
                    refine z_sub (L' := [(4, .int (nI (i + 1))), (3, .int (nI (b))), (1, .long ((d3 * 31) + ((fl_ofB σ b i).toInt64))), (0, .ref (t))]) [0, 2, 1, 3] rfl ?_
                    exact ih_55 (i + 1) _ (by omega) (by omega) (by rw [fl_dF, ← hd3])
              refine z_sub (L' := [(4, .int (nI (0))), (3, .int (nI (b))), (1, .long (d2)), (0, .ref (t))]) [0, 1, 2, 3] rfl ?_
              exact loop_55 (10 + 1) 0 _ (by omega) (by omega) rfl
        refine z_sub (L' := [(3, .int (nI (0))), (1, .long (d)), (0, .ref (t))]) [0, 1, 2] rfl ?_
        exact loop_41 (n + 1) 0 _ (by omega) (by omega) (by rw [hd, show o = 10 by omega]; rfl)
      · refine z_lload_n C dX4_digest_17 rfl 1 rfl ?_
        refine z_ldc2 C wc_X4_129 dX4_digest_18 ?_
        refine z_lmul C dX4_digest_21 ?_
        refine z_aload_n C dX4_digest_22 rfl 2 rfl ?_
        refine z_getR C wu_X4 0 rfl 0 rfl rfl 1 (by decide) rfl wf_X4_10 dX4_digest_23 ?_
        refine z_iload_n C dX4_digest_26 rfl 0 rfl ?_
        refine z_cV C (st' := [.int (fl_ofF n σ o), .long (d * 31)]) (B' := [(shM t a ta, (zU κ 0 (0) (nI (0)))), (shS a cI, σ), (shS ta cI, τ)]) [false, true, false] rfl (c_X3_counted l D cI cZ cJ a σ n hI o (by omega)) wq_yX3_counted wm_X4_107 ⟨wn_yX3_counted, wo_yX3_counted⟩ ⟨rfl, rfl, Nat.le_of_ble_eq_true rfl, Nat.le_of_ble_eq_true rfl⟩ 1 rfl 0 rfl rfl rfl rfl (Nat.le_of_ble_eq_true rfl) dX4_digest_27 ⟨Nat.le_of_ble_eq_true rfl, Nat.le_of_ble_eq_true rfl⟩ rfl rfl ?_
        refine z_i2l C (v := (fl_ofF n σ o).toInt64) rfl dX4_digest_30 ?_
        refine z_ladd C dX4_digest_31 ?_
        refine z_lstore_n C (L' := [(1, .long ((d * 31) + ((fl_ofF n σ o).toInt64))), (3, .int (nI (o))), (0, .ref (t))]) dX4_digest_32 rfl (by decide) rfl ?_
        refine z_iinc C (L' := [(3, .int (nI (o + 1))), (1, .long ((d * 31) + ((fl_ofF n σ o).toInt64))), (0, .ref (t))]) dX4_digest_33 1 rfl (z_inc1 _) (by decide) rfl ?_
        refine z_goto C (tgt := 11) dX4_digest_36 (by decide) ?_
        refine z_sub (L' := [(3, .int (nI (o + 1))), (1, .long ((d * 31) + ((fl_ofF n σ o).toInt64))), (0, .ref (t))]) [0, 1, 2] rfl ?_
        exact ih_11 (o + 1) _ (by omega) (by omega) (by rw [fl_dF, ← hd])
  refine z_sub (L' := [(3, .int (nI (0))), (1, .long (1759)), (0, .ref (t))]) [0, 1, 2] rfl ?_
  exact loop_11 (10 + 1) 0 _ (by omega) (by omega) rfl
