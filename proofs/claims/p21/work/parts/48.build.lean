/-! the two fleets are made, and sixteen things done to them -/
theorem smK_0 {n : Nat} {σ : zF} : smK n (fl_begP n n σ) (fun _ _ => 0) [] := fun i hi k hk => by
  rw [begP_ln hi] at hk
  exact absurd hk (Nat.not_lt_zero k)
set_option maxHeartbeats 4000000 in
set_option maxRecDepth 100000 in
theorem c_L_build (l : Launch) (hlt : l.stackTraces = false) (D : va_G) (cI cZ cB cE : ClassId) (n0 t : Nat) (fa ta : Nat → Nat) (σ τ : zF) (hI : fl_Iv n0 σ) (b0 N : Nat) (xs : Nat → Int32) (hN : N < 1000)  : zMx l D (tyL cI cZ cB cE) b0 N xs yL_build cL_build 5 (some (.object "FleetTermsLaw$Sim")) ({ frames := 9, cells := 16017, slots := 176075, locals := 211 } : Room) [.ref (t), .ref (b0)] [(shT t fa ta, zZ), (shF fa cI cZ, σ), (shF ta cI cZ, τ)] 16017 176075 (fun r u => ∃ (n : Nat) (a g : Nat → Nat) (σ' : zF) (en : Nat → Nat → Nat) (ps : List (Nat × Int32 × Int32)), r = some (.ref (a 0)) ∧ fA n 2240 σ' ∧ smK n σ' en ps ∧ u = [(smS cB a n g σ', zZ), (smG cE n g σ' en, zZ), (smP cI ps, zZ), (shT t fa ta, zZ), (shF fa cI cZ, σ'), (shF ta cI cZ, τ)]) := by
  have hn3 := hI.n3
  have hn7 := hI.n7
  refine z_ofX (by decide) (Nat.le_of_ble_eq_true rfl) rfl ?_
  intro p e s m args below meth c A C hr hX hbl hbA
  obtain ⟨Q, hQ⟩ : ∃ Q, Q = MQ below (zQ (fun r u => ∃ (n : Nat) (a g : Nat → Nat) (σ' : zF) (en : Nat → Nat → Nat) (ps : List (Nat × Int32 × Int32)), r = some (.ref (a 0)) ∧ fA n 2240 σ' ∧ smK n σ' en ps ∧ u = [(smS cB a n g σ', zZ), (smG cE n g σ' en, zZ), (smP cI ps, zZ), (shT t fa ta, zZ), (shF fa cI cZ, σ'), (shF ta cI cZ, τ)]) D (tyL cI cZ cB cE) A) args s 16017 176075 A := ⟨_, rfl⟩
  rw [← hQ]
  refine z_iconst C (v := nI (3)) (by decide) dL_build_0 ?_
  refine z_aload_n C dL_build_1 rfl 1 rfl ?_
  refine z_iconst C (v := nI (0)) (by decide) dL_build_2 ?_
  refine z_callX C hX hbl hbA [false, false, false] rfl (c_L_cell l D cI cZ cB cE b0 N xs (0) (by omega) (by omega)) wq_yL_cell wm_L_82 ws_yL_cell ⟨rfl, rfl, Nat.le_of_ble_eq_true rfl, Nat.le_of_ble_eq_true rfl⟩ rfl rfl (Nat.le_of_ble_eq_true rfl) dL_build_3 ⟨(Nat.le_of_ble_eq_true rfl), (Nat.le_of_ble_eq_true rfl)⟩ ?_
  rintro r9 w9 ⟨rfl, rfl⟩
  refine z_eq (B' := [(shT t fa ta, zZ), (shF fa cI cZ, σ), (shF ta cI cZ, τ)]) rfl ?_
  refine z_iconst C (v := nI (5)) (by decide) dL_build_6 ?_
  refine z_cS C (st' := [.int (nI (bw (cw xs N (0)) (5))), .int (nI (3))]) (B' := [(shT t fa ta, zZ), (shF fa cI cZ, σ), (shF ta cI cZ, τ)]) [false, false, false] rfl (c_L_below l D cI cZ cB cE (cw xs N (0)) (5) (by omega) (by omega)) wq_yL_below wm_L_15 ws_yL_below ⟨rfl, rfl, Nat.le_of_ble_eq_true rfl, Nat.le_of_ble_eq_true rfl⟩ rfl rfl (Nat.le_of_ble_eq_true rfl) dL_build_7 ⟨(Nat.le_of_ble_eq_true rfl), (Nat.le_of_ble_eq_true rfl)⟩ rfl rfl ?_
  have hw_1 := bw_lt (cw xs N (0)) (k := 5) (by omega)
  generalize bw (cw xs N (0)) (5) = w_1 at hw_1
  refine z_iaddN C dL_build_10 ?_
  obtain ⟨n, hnE⟩ : ∃ n, n = 3 + w_1 := ⟨_, rfl⟩
  rw [← hnE]
  have hn3 : 3 ≤ n := by omega
  have hn7 : n ≤ 7 := by omega
  refine z_istore_n C (L' := [(2, .int (nI (n))), (0, .ref (t)), (1, .ref (b0))]) dL_build_11 rfl (by decide) rfl ?_
  refine z_aload_n C dL_build_12 rfl 1 rfl ?_
  refine z_iload_n C dL_build_13 rfl 0 rfl ?_
  refine z_cV C (st' := [.int (nI (n / 2 + 1))]) (B' := [(shT t fa ta, zZ), (shF fa cI cZ, (fl_begP n n σ)), (shF ta cI cZ, τ)]) [true, true, true] rfl (c_X2_fleet l D cI cZ cB cE t fa ta σ τ n0 hI n hn3 hn7) wq_yX2_fleet wm_L_86 ⟨wn_yX2_fleet, wo_yX2_fleet⟩ ⟨rfl, rfl, Nat.le_of_ble_eq_true rfl, Nat.le_of_ble_eq_true rfl⟩ 0 rfl 0 rfl rfl rfl rfl (Nat.le_of_ble_eq_true rfl) dL_build_14 ⟨(Nat.le_of_ble_eq_true rfl), (Nat.le_of_ble_eq_true rfl)⟩ rfl rfl ?_
  have hA0 : fA n 0 (fl_begP n n σ) := fA_beg hn3 hn7 hI.u7
  refine z_iload_n C dL_build_17 rfl 0 rfl ?_
  refine z_iconst C (v := nI (2)) (by decide) dL_build_18 ?_
  refine z_idivN C dL_build_19 (by omega) (by omega) (by omega) ?_
  refine z_iconst C (v := nI (1)) (by decide) dL_build_20 ?_
  refine z_iaddN C dL_build_21 ?_
  refine z_icmp_eqN C (tgt := 27) dL_build_22 (by decide) (by omega) (by omega) (fun c_22 => ?_) (fun c_22 => ?_)
  · refine z_new C (ci := 4) (fs := [.int 0, .int 0, .int 0, .int 0, .null]) wu_X4 tyX4_ok wl_L_10 wz_X4 wi_X4 rfl (fun j hj => by rcases (show j = 0 ∨ j = 1 ∨ j = 2 ∨ j = 3 ∨ j = 4 by omega) with rfl | rfl | rfl | rfl | rfl <;> rfl) ⟨by show _ ≤ 16017; omega, by show _ ≤ 176075; omega⟩ dL_build_27 (fun q4 => ?_)
    refine z_eq (B' := [(shT t fa ta, zZ), (shF fa cI cZ, (fl_begP n n σ)), (shF ta cI cZ, τ), ([(q4, .inr (.inr (.inr (4, [.int 0, .int 0, .int 0, .int 0, .null]))))], zZ)]) rfl ?_
    refine z_dup C rfl dL_build_30 ?_
    refine z_iload_n C dL_build_31 rfl 0 rfl ?_
    refine z_callI (ret := none) C [false, false, false, true] rfl (c_X4_init l D cI cZ cB cE q4 n hn3 hn7 σ) wq_yX4_init wm_L_89 ⟨rfl, wn_yX4_init⟩ ⟨rfl, rfl, Nat.le_of_ble_eq_true rfl, Nat.le_of_ble_eq_true rfl⟩ rfl rfl (Nat.le_of_ble_eq_true rfl) dL_build_32 ⟨by show _ ≤ 16017; omega, by show _ ≤ 176075; omega⟩ ?_
    rintro r9 w9 ⟨rfl, a, g, ha0, rfl⟩
    subst ha0
    refine z_eq (B' := [(shT t fa ta, zZ), (shF fa cI cZ, (fl_begP n n σ)), (shF ta cI cZ, τ), (smS cB a n g ((fl_begP n n σ)), zZ), (smG cE n g ((fl_begP n n σ)) ((fun _ _ => 0)), zZ), (smP cI ([]), zZ)]) rfl ?_
    refine z_wperm (B' := [(smS cB a n g ((fl_begP n n σ)), zZ), (smG cE n g ((fl_begP n n σ)) ((fun _ _ => 0)), zZ), (smP cI ([]), zZ), (shT t fa ta, zZ), (shF fa cI cZ, (fl_begP n n σ)), (shF ta cI cZ, τ)]) (zW_perm (List.perm_append_comm (l₁ := [(shT t fa ta, zZ), (shF fa cI cZ, (fl_begP n n σ)), (shF ta cI cZ, τ)]) (l₂ := [(smS cB a n g ((fl_begP n n σ)), zZ), (smG cE n g ((fl_begP n n σ)) ((fun _ _ => 0)), zZ), (smP cI ([]), zZ)]))) ?_
    refine z_astore_n C (L' := [(3, .ref (a 0)), (2, .int (nI (n))), (0, .ref (t)), (1, .ref (b0))]) dL_build_35 rfl (by decide) rfl ?_
    refine z_iconst C (v := nI (0)) (by decide) dL_build_36 ?_
    refine z_istore C (L' := [(4, .int (nI (0))), (3, .ref (a 0)), (2, .int (nI (n))), (0, .ref (t)), (1, .ref (b0))]) dL_build_37 (by decide) rfl ?_
    have loop_39 : ∀ (k_39 k : Nat) (ρ : zF) (gg : Nat → Nat) (ee : Nat → Nat → Nat) (pp : List (Nat × Int32 × Int32)) (cc : Nat) (ss : Nat), 16 < k + k_39 → k ≤ 16 → (hAρ : fA n (140 * k) ρ) → (hkρ : smK n ρ ee pp) → (hcc : cc ≤ 17 + 1000 * k) → (hss : ss ≤ 75 + 11000 * k) → zK p l e ({ frames := 9, cells := 16017, slots := 176075, locals := 211 } : Room) s m args below meth c D A 5 Q cc ss 39 [(0, .ref (t)), (1, .ref (b0)), (3, .ref (a 0)), (4, .int (nI (k)))] [] [(smS cB a n gg ρ, zZ), (smG cE n gg ρ ee, zZ), (smP cI pp, zZ), (shT t fa ta, zZ), (shF fa cI cZ, ρ), (shF ta cI cZ, τ)] := by
      intro k_39
      induction k_39 with
      | zero => intro k ρ gg ee pp cc ss m1_39 m2_39; exact absurd m1_39 (by omega)
      | succ k_39 ih_39 =>
        intro k ρ gg ee pp cc ss m1_39 m2_39 hAρ hkρ hcc hss
        refine z_iload C dL_build_39 3 rfl ?_
        refine z_bipush C (v := nI (16)) (by decide) dL_build_41 ?_
        refine z_icmp_geN C (tgt := 77) dL_build_43 (by decide) (by omega) (by omega) (fun c_43 => ?_) (fun c_43 => ?_)
        · refine z_aload_n C dL_build_77 rfl 2 rfl ?_
          refine z_widen (k := 16017) (n := 176075) (by omega) (by omega) ?_
          rw [hQ]; exact z_aret C hr dL_build_78 ⟨n, a, gg, ρ, ee, pp, rfl, hAρ.mono (by omega), hkρ, rfl⟩
        · refine z_aload_n C dL_build_46 rfl 0 rfl ?_
          refine z_aload_n C dL_build_47 rfl 2 rfl ?_
          refine z_aload_n C dL_build_48 rfl 1 rfl ?_
          refine z_iload C dL_build_49 3 rfl ?_
          refine z_callX C hX hbl hbA [false, false, false, false, false, false] rfl (c_L_cell l D cI cZ cB cE b0 N xs (k) (by omega) (by omega)) wq_yL_cell wm_L_82 ws_yL_cell ⟨rfl, rfl, Nat.le_of_ble_eq_true rfl, Nat.le_of_ble_eq_true rfl⟩ rfl rfl (Nat.le_of_ble_eq_true rfl) dL_build_51 ⟨(by show _ ≤ 16017; omega), (by show _ ≤ 176075; omega)⟩ ?_
          rintro r9 w9 ⟨rfl, rfl⟩
          refine z_eq (B' := [(smS cB a n gg ρ, zZ), (smG cE n gg ρ ee, zZ), (smP cI pp, zZ), (shT t fa ta, zZ), (shF fa cI cZ, ρ), (shF ta cI cZ, τ)]) rfl ?_
          refine z_iconst C (v := nI (2)) (by decide) dL_build_54 ?_
          refine z_ishr C dL_build_55 ?_
          refine z_sipush C (v := nI (263)) (by decide) dL_build_56 ?_
          refine z_iload C dL_build_59 3 rfl ?_
          refine z_imulN C dL_build_61 ?_
          refine z_iadd C dL_build_62 ?_
          refine z_callSHx C (n := 3) [true, true, true, true, true, true] rfl (c_L_act l hlt D cI cZ cB cE n t (140 * k) a gg fa ta ρ τ ee pp hAρ (by omega) hkρ (((cw xs N (k)) >>> (nI (2) &&& 31)) + (nI (263 * k)))) wk_yL_act wi_L ⟨by decide, by decide, by decide +kernel⟩ wm_L_92 ws_yL_act ⟨rfl, rfl, Nat.le_of_ble_eq_true rfl, Nat.le_of_ble_eq_true rfl⟩ rfl rfl (Nat.le_of_ble_eq_true rfl) dL_build_63 ⟨by show _ ≤ 16017; omega, by show _ ≤ 176075; omega⟩ ?_
          rintro r9 w9 ⟨rfl, σ1, g1, e1, p1, hA1, hk1, rfl⟩
          refine z_eq (B' := [(smS cB a n g1 σ1, zZ), (smG cE n g1 σ1 e1, zZ), (smP cI p1, zZ), (shT t fa ta, zZ), (shF fa cI cZ, σ1), (shF ta cI cZ, τ)]) rfl ?_
          refine z_if_neN C (tgt := 71) dL_build_66 (by decide) (by omega) (fun c_66 => ?_) (fun c_66 => ?_)
          · refine z_iinc C (L' := [(4, .int (nI (k + 1))), (0, .ref (t)), (1, .ref (b0)), (3, .ref (a 0))]) dL_build_71 3 rfl (z_inc1 _) (by decide) rfl ?_
            refine z_goto C (tgt := 39) dL_build_74 (by decide) ?_
            refine z_sub (L' := [(0, .ref (t)), (1, .ref (b0)), (3, .ref (a 0)), (4, .int (nI (k + 1)))]) [1, 2, 3, 0] rfl ?_
            exact ih_39 (k + 1) σ1 g1 e1 p1 (cc + 1000) (ss + 11000) (by omega) (by omega) (hA1.mono (by omega)) hk1 (by omega) (by omega)
          · exact absurd c_66 (by omega)
    refine z_sub (L' := [(0, .ref (t)), (1, .ref (b0)), (3, .ref (a 0)), (4, .int (nI (0)))]) [3, 4, 1, 0] rfl ?_
    exact loop_39 (16 + 1) 0 (fl_begP n n σ) g (fun _ _ => 0) [] (0 + 1 + 16) (0 + 5 + 70) (by omega) (by omega) hA0 smK_0 (by omega) (by omega)
  · exact absurd rfl c_22
