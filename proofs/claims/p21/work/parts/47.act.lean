/-! the law's own helpers: a number below another, a cell of the script, something done to both, the two fleets -/
theorem fA.Vb {n N : Nat} {σ : zF} (h : fA n N σ) : fl_Vb n σ := fun i hi => (h.vb hi).2.2
theorem fA.Lb {n N : Nat} {σ : zF} (h : fA n N σ) (hN : N ≤ 1000000) : fl_Lb n σ := fun i hi => by
  obtain ⟨h1, h2, h3⟩ := h.lastT (by omega) hi
  exact ⟨h1, by omega⟩
theorem pool_w (x p y i : va_W) : (x ++ (p ++ (y ++ i))).Perm (x ++ ((p ++ i) ++ y)) := by
  refine List.Perm.append_left _ ?_
  rw [List.append_assoc]
  exact List.Perm.append_left _ List.perm_append_comm
theorem pool_add (S G T0 N0 R0 O0 : zB) (cI : ClassId) (ps : List (Nat × Int32 × Int32)) (e : Nat) (x y : Int32) : (zW [S, G, (smP cI ps, zZ), T0, N0, R0, O0, ([(e, .inl (cI, 2))], zU (zU zZ 0 0 x) 0 1 y)]).Perm (zW [S, G, (smP cI (ps ++ [(e, x, y)]), zZ), T0, N0, R0, O0]) := by
  have hp : zW1 0 (smP cI (ps ++ [(e, x, y)])) zZ = zW1 0 (smP cI ps) zZ ++ [(e, .inl (cI, 2, .inl (en2 x y)))] := by
    rw [smP_w, smP_w, List.map_append]
    rfl
  have key := pool_w (zW [S, G]) (zW1 0 (smP cI ps) zZ) (zW [T0, N0, R0, O0]) [(e, .inl (cI, 2, .inl (en2 x y)))]
  have e1 : zW [S, G, (smP cI ps, zZ), T0, N0, R0, O0, ([(e, .inl (cI, 2))], zU (zU zZ 0 0 x) 0 1 y)] = zW [S, G] ++ (zW1 0 (smP cI ps) zZ ++ (zW [T0, N0, R0, O0] ++ [(e, .inl (cI, 2, .inl (en2 x y)))])) := by
    show zW1 0 S.1 S.2 ++ (zW1 0 G.1 G.2 ++ (_ ++ (zW1 0 T0.1 T0.2 ++ (zW1 0 N0.1 N0.2 ++ (zW1 0 R0.1 R0.2 ++ (zW1 0 O0.1 O0.2 ++ ([(e, .inl (cI, 2, .inl (en2 x y)))] ++ []))))))) = (zW1 0 S.1 S.2 ++ (zW1 0 G.1 G.2 ++ [])) ++ (_ ++ ((zW1 0 T0.1 T0.2 ++ (zW1 0 N0.1 N0.2 ++ (zW1 0 R0.1 R0.2 ++ (zW1 0 O0.1 O0.2 ++ [])))) ++ _))
    simp only [List.append_assoc, List.append_nil, List.nil_append]
  have e2 : zW [S, G, (smP cI (ps ++ [(e, x, y)]), zZ), T0, N0, R0, O0] = zW [S, G] ++ ((zW1 0 (smP cI ps) zZ ++ [(e, .inl (cI, 2, .inl (en2 x y)))]) ++ zW [T0, N0, R0, O0]) := by
    rw [← hp]
    show zW1 0 S.1 S.2 ++ (zW1 0 G.1 G.2 ++ (_ ++ _)) = (zW1 0 S.1 S.2 ++ (zW1 0 G.1 G.2 ++ [])) ++ (_ ++ _)
    simp only [List.append_assoc, List.append_nil, List.nil_append]
  rw [e1, e2]
  exact key
theorem lead_no {σ : zF} {b : Nat} (h : σ 7 b = 0 ∨ ¬ σ 5 b = nI 2) : fl_lead σ b = false := by
  unfold fl_lead
  rw [decide_eq_false_iff_not]
  exact fun z => h.elim z.1 (fun q => q z.2)
set_option maxHeartbeats 4000000 in
set_option maxRecDepth 100000 in
theorem c_L_below (l : Launch) (D : va_G) (cI cZ cB cE : ClassId) (v : Int32) (k : Nat) (h0 : 0 < k) (h31 : k < 2 ^ 31) : zM l D (tyL cI cZ cB cE) yL_below cL_below 2 (some .int) (zR 0 0) [.int (v), .int (nI (k))] [] 0 0 (fun r u => r = some (.int (nI (bw v k))) ∧ u = []) := by
  refine z_of (by decide) (Nat.le_of_ble_eq_true rfl) rfl ?_
  intro p e s m args below meth c A C hr hin
  obtain ⟨Q, hQ⟩ : ∃ Q, Q = MQ below (zQ (fun r u => r = some (.int (nI (bw v k))) ∧ u = []) D (tyL cI cZ cB cE) A) args s 0 0 A := ⟨_, rfl⟩
  rw [← hQ]
  refine z_iload_n C dL_below_0 rfl 0 rfl ?_
  refine z_ldc C wc_L_7 dL_below_1 ?_
  refine z_iand C dL_below_3 ?_
  refine z_iload_n C dL_below_4 rfl 1 rfl ?_
  refine z_irem C (nI_ne0 h0 h31) dL_below_5 ?_
  rw [hQ]; exact z_iret C hr dL_below_6 ⟨congrArg (fun x => some (Value.int x)) (by exact bw_eq v h0 h31), rfl⟩
set_option maxHeartbeats 4000000 in
set_option maxRecDepth 100000 in
theorem c_L_cell (l : Launch) (D : va_G) (cI cZ cB cE : ClassId) (b0 N : Nat) (xs : Nat → Int32) (k : Nat) (hk : k < 100) (hN : N < 1000) : zMx l D (tyL cI cZ cB cE) b0 N xs yL_cell cL_cell 2 (some .int) (zR 0 0) [.ref (b0), .int (nI (k))] [] 0 0 (fun r u => r = some (.int (cw xs N k)) ∧ u = []) := by
  refine z_ofX (by decide) (Nat.le_of_ble_eq_true rfl) rfl ?_
  intro p e s m args below meth c A C hr hX hbl hbA
  obtain ⟨Q, hQ⟩ : ∃ Q, Q = MQ below (zQ (fun r u => r = some (.int (cw xs N k)) ∧ u = []) D (tyL cI cZ cB cE) A) args s 0 0 A := ⟨_, rfl⟩
  rw [← hQ]
  refine z_iload_n C dL_cell_0 rfl 1 rfl ?_
  refine z_aload_n C dL_cell_1 rfl 0 rfl ?_
  refine z_slen C hX hbl hbA dL_cell_2 ?_
  refine z_icmp_geN C (tgt := 12) dL_cell_3 (by decide) (by omega) (by omega) (fun c_3 => ?_) (fun c_3 => ?_)
  · refine z_ldc C wc_L_8 dL_cell_12 ?_
    refine z_iload_n C dL_cell_14 rfl 1 rfl ?_
    refine z_iconst C (v := nI (3)) (by decide) dL_cell_15 ?_
    refine z_iaddN C dL_cell_16 ?_
    refine z_imul C dL_cell_17 ?_
    rw [hQ]; exact z_iret C hr dL_cell_18 ⟨congrArg (fun x => some (Value.int x)) (by rw [cw, if_neg (by omega), nI_add]), rfl⟩
  · refine z_aload_n C dL_cell_6 rfl 0 rfl ?_
    refine z_iload_n C dL_cell_7 rfl 1 rfl ?_
    refine z_sld C hX hbl hbA (by omega) (by omega) dL_cell_8 ?_
    refine z_goto C (tgt := 18) dL_cell_9 (by decide) ?_
    rw [hQ]; exact z_iret C hr dL_cell_18 ⟨congrArg (fun x => some (Value.int x)) (by rw [cw, if_pos (by omega)]), rfl⟩
set_option maxHeartbeats 4000000 in
set_option maxRecDepth 100000 in
theorem c_L_act (l : Launch) (hlt : l.stackTraces = false) (D : va_G) (cI cZ cB cE : ClassId) (n t N : Nat) (a g fa ta : Nat → Nat) (σ τ : zF) (en : Nat → Nat → Nat) (ps : List (Nat × Int32 × Int32)) (hA : fA n N σ) (hN : N < 100000) (hk : smK n σ en ps) (x : Int32) : zMH l D (tyL cI cZ cB cE) yL_act cL_act 13 (some .boolean) [(459, 486, 504, 71), (487, 501, 504, 71)] ({ frames := 8, cells := 1000, slots := 11000, locals := 179 } : Room) [.ref (t), .ref (a 0), .int (x)] [(smS cB a n g σ, zZ), (smG cE n g σ en, zZ), (smP cI ps, zZ), (shT t fa ta, zZ), (shF fa cI cZ, σ), (shF ta cI cZ, τ)] 1000 11000 (fun r u => r = some (.int (nI 1)) ∧ ∃ (σ' : zF) (g' : Nat → Nat) (en' : Nat → Nat → Nat) (ps' : List (Nat × Int32 × Int32)), fA n (N + 140) σ' ∧ smK n σ' en' ps' ∧ u = [(smS cB a n g' σ', zZ), (smG cE n g' σ' en', zZ), (smP cI ps', zZ), (shT t fa ta, zZ), (shF fa cI cZ, σ'), (shF ta cI cZ, τ)]) := by
  refine z_ofH (by decide) (Nat.le_of_ble_eq_true rfl) rfl ?_
  intro p e s m args below meth c A C hr htab
  obtain ⟨Q, hQ⟩ : ∃ Q, Q = MQ below (zQ (fun r u => r = some (.int (nI 1)) ∧ ∃ (σ' : zF) (g' : Nat → Nat) (en' : Nat → Nat → Nat) (ps' : List (Nat × Int32 × Int32)), fA n (N + 140) σ' ∧ smK n σ' en' ps' ∧ u = [(smS cB a n g' σ', zZ), (smG cE n g' σ' en', zZ), (smP cI ps', zZ), (shT t fa ta, zZ), (shF fa cI cZ, σ'), (shF ta cI cZ, τ)]) D (tyL cI cZ cB cE) A) args s 1000 11000 A := ⟨_, rfl⟩
  rw [← hQ]
  have hI := hA.iv
  have hn3 := hI.n3
  have hn7 := hI.n7
  refine z_iload_n C dL_act_0 rfl 2 rfl ?_
  refine z_iconst C (v := nI (4)) (by decide) dL_act_1 ?_
  refine z_ishr C dL_act_2 ?_
  refine z_aload_n C dL_act_3 rfl 1 rfl ?_
  refine z_sget C 0 rfl 4 (by decide) (v := .ref (a 1)) rfl wf_L_9 dL_act_4 ?_
  refine z_alenB C 0 rfl dL_act_7 ?_
  refine z_cS C (st' := [.int (nI (bw (x >>> (nI (4) &&& 31)) (n)))]) (B' := [(smS cB a n g σ, zZ), (smG cE n g σ en, zZ), (smP cI ps, zZ), (shT t fa ta, zZ), (shF fa cI cZ, σ), (shF ta cI cZ, τ)]) [false, false, false, false, false, false] rfl (c_L_below l D cI cZ cB cE (x >>> (nI (4) &&& 31)) (n) (by omega) (by omega)) wq_yL_below wm_L_15 ws_yL_below ⟨rfl, rfl, Nat.le_of_ble_eq_true rfl, Nat.le_of_ble_eq_true rfl⟩ rfl rfl (Nat.le_of_ble_eq_true rfl) dL_act_8 ⟨(Nat.le_of_ble_eq_true rfl), (Nat.le_of_ble_eq_true rfl)⟩ rfl rfl ?_
  have hw_1 := bw_lt (x >>> (nI (4) &&& 31)) (k := n) (by omega)
  generalize bw (x >>> (nI (4) &&& 31)) (n) = w_1 at hw_1
  refine z_istore_n C (L' := [(3, .int (nI (w_1))), (0, .ref (t)), (1, .ref (a 0)), (2, .int (x))]) dL_act_11 rfl (by decide) rfl ?_
  refine z_aload_n C dL_act_12 rfl 2 rfl ?_
  refine z_sget C 0 rfl 4 (by decide) (v := .ref (a 1)) rfl wf_L_9 dL_act_13 ?_
  refine z_iload_n C dL_act_16 rfl 0 rfl ?_
  refine z_aB C 0 rfl (i := w_1) (by omega) (by omega) dL_act_17 ?_
  refine z_astore C (L' := [(4, .ref (a (2 + (w_1)))), (3, .int (nI (w_1))), (0, .ref (t)), (1, .ref (a 0)), (2, .int (x))]) dL_act_18 (by decide) rfl ?_
  refine z_iload_n C dL_act_20 rfl 4 rfl ?_
  refine z_bipush C (v := nI (16)) (by decide) dL_act_21 ?_
  refine z_cS C (st' := [.int (nI (bw (x) (16)))]) (B' := [(smS cB a n g σ, zZ), (smG cE n g σ en, zZ), (smP cI ps, zZ), (shT t fa ta, zZ), (shF fa cI cZ, σ), (shF ta cI cZ, τ)]) [false, false, false, false, false, false] rfl (c_L_below l D cI cZ cB cE (x) (16) (by omega) (by omega)) wq_yL_below wm_L_15 ws_yL_below ⟨rfl, rfl, Nat.le_of_ble_eq_true rfl, Nat.le_of_ble_eq_true rfl⟩ rfl rfl (Nat.le_of_ble_eq_true rfl) dL_act_23 ⟨(Nat.le_of_ble_eq_true rfl), (Nat.le_of_ble_eq_true rfl)⟩ rfl rfl ?_
  have hw_2 := bw_lt (x) (k := 16) (by omega)
  generalize bw (x) (16) = w_2 at hw_2
  have K_80 : zK p l e ({ frames := 8, cells := 1000, slots := 11000, locals := 179 } : Room) s m args below meth c D A 13 Q 0 0 80 [(4, .ref (a (2 + (w_1)))), (3, .int (nI (w_1))), (0, .ref (t)), (1, .ref (a 0)), (2, .int (x))] [] [(smS cB a n g σ, zZ), (smG cE n g σ en, zZ), (smP cI ps, zZ), (shT t fa ta, zZ), (shF fa cI cZ, σ), (shF ta cI cZ, τ)] := by
    refine z_iconst C (v := nI (2)) (by decide) dL_act_80 ?_
    refine z_iload_n C dL_act_81 rfl 4 rfl ?_
    refine z_bipush C (v := nI (8)) (by decide) dL_act_82 ?_
    refine z_ishr C dL_act_84 ?_
    refine z_bipush C (v := nI (8)) (by decide) dL_act_85 ?_
    refine z_cS C (st' := [.int (nI (bw (x >>> (nI (8) &&& 31)) (8))), .int (nI (2))]) (B' := [(smS cB a n g σ, zZ), (smG cE n g σ en, zZ), (smP cI ps, zZ), (shT t fa ta, zZ), (shF fa cI cZ, σ), (shF ta cI cZ, τ)]) [false, false, false, false, false, false] rfl (c_L_below l D cI cZ cB cE (x >>> (nI (8) &&& 31)) (8) (by omega) (by omega)) wq_yL_below wm_L_15 ws_yL_below ⟨rfl, rfl, Nat.le_of_ble_eq_true rfl, Nat.le_of_ble_eq_true rfl⟩ rfl rfl (Nat.le_of_ble_eq_true rfl) dL_act_87 ⟨(Nat.le_of_ble_eq_true rfl), (Nat.le_of_ble_eq_true rfl)⟩ rfl rfl ?_
    have hw_3 := bw_lt (x >>> (nI (8) &&& 31)) (k := 8) (by omega)
    generalize bw (x >>> (nI (8) &&& 31)) (8) = w_3 at hw_3
    refine z_iaddN C dL_act_90 ?_
    refine z_istore C (L' := [(5, .int (nI (2 + w_3))), (4, .ref (a (2 + (w_1)))), (3, .int (nI (w_1))), (0, .ref (t)), (1, .ref (a 0)), (2, .int (x))]) dL_act_91 (by decide) rfl ?_
    refine z_aload C dL_act_93 1 rfl ?_
    refine z_bget C 0 rfl (i := w_1) (by omega) 0 (by decide) (v := .int (σ 1 (w_1))) rfl wf_L_21 dL_act_95 ?_
    refine z_istore C (L' := [(6, .int (σ 1 (w_1))), (5, .int (nI (2 + w_3))), (4, .ref (a (2 + (w_1)))), (3, .int (nI (w_1))), (0, .ref (t)), (1, .ref (a 0)), (2, .int (x))]) dL_act_98 (by decide) rfl ?_
    refine z_aload C dL_act_100 2 rfl ?_
    refine z_iload C dL_act_102 1 rfl ?_
    refine z_bput C (B' := [(smS cB a n g ((zU σ 1 (w_1) (nI (2 + w_3)))), zZ), (smG cE n g ((zU σ 1 (w_1) (nI (2 + w_3)))) en, zZ), (smP cI ps, zZ), (shT t fa ta, zZ), (shF fa cI cZ, σ), (shF ta cI cZ, τ)]) 0 rfl (i := w_1) (by omega) 0 1 (by decide) rfl rfl wf_L_21 rfl dL_act_104 rfl ?_
    refine z_aload_n C dL_act_107 rfl 4 rfl ?_
    refine z_iload_n C dL_act_108 rfl 3 rfl ?_
    refine z_iload C dL_act_109 1 rfl ?_
    refine z_cV C (st' := [.int (σ 1 (w_1))]) (B' := [(smS cB a n g ((zU σ 1 (w_1) (nI (2 + w_3)))), zZ), (smG cE n g ((zU σ 1 (w_1) (nI (2 + w_3)))) en, zZ), (smP cI ps, zZ), (shT t fa ta, zZ), (shF fa cI cZ, (zU σ 1 w_1 (nI (2 + w_3)))), (shF ta cI cZ, τ)]) [false, false, false, true, true, true] rfl (c_X2_setPatience l D cI cZ cB cE t fa ta σ τ n hI w_1 (2 + w_3) (by omega) (by omega) (by omega)) wq_yX2_setPatience wm_L_27 ⟨wn_yX2_setPatience, wo_yX2_setPatience⟩ ⟨rfl, rfl, Nat.le_of_ble_eq_true rfl, Nat.le_of_ble_eq_true rfl⟩ 3 rfl 0 rfl rfl rfl rfl (Nat.le_of_ble_eq_true rfl) dL_act_111 ⟨(Nat.le_of_ble_eq_true rfl), (Nat.le_of_ble_eq_true rfl)⟩ rfl rfl ?_
    refine z_iload C dL_act_114 0 rfl ?_
    refine z_icmp_ne C (tgt := 123) dL_act_116 (by decide) (fun c_116 => ?_) (fun c_116 => ?_)
    · exact absurd rfl c_116
    · refine z_iconst C (v := nI (1)) (by decide) dL_act_119 ?_
      refine z_goto C (tgt := 124) dL_act_120 (by decide) ?_
      refine z_widen (k := 1000) (n := 11000) (by omega) (by omega) ?_
      rw [hQ]; exact z_zret C hr nar_1 dL_act_124 ⟨rfl, ((zU σ 1 w_1 (nI (2 + w_3)))), g, en, ps, (fA_pat hA w_1 (k := (2 + w_3)) (by omega) (by omega)).mono (by omega), hk, rfl⟩
  have K_125 : zK p l e ({ frames := 8, cells := 1000, slots := 11000, locals := 179 } : Room) s m args below meth c D A 13 Q 0 0 125 [(4, .ref (a (2 + (w_1)))), (3, .int (nI (w_1))), (0, .ref (t)), (1, .ref (a 0)), (2, .int (x))] [] [(smS cB a n g σ, zZ), (smG cE n g σ en, zZ), (smP cI ps, zZ), (shT t fa ta, zZ), (shF fa cI cZ, σ), (shF ta cI cZ, τ)] := by
    refine z_aload C dL_act_125 0 rfl ?_
    refine z_bget C 0 rfl (i := w_1) (by omega) 5 (by decide) (v := .int (σ 6 (w_1))) rfl wf_L_32 dL_act_127 ?_
    refine z_istore C (L' := [(5, .int (σ 6 (w_1))), (4, .ref (a (2 + (w_1)))), (3, .int (nI (w_1))), (0, .ref (t)), (1, .ref (a 0)), (2, .int (x))]) dL_act_130 (by decide) rfl ?_
    refine z_aload C dL_act_132 1 rfl ?_
    refine z_iload_n C dL_act_134 rfl 5 rfl ?_
    refine z_bipush C (v := nI (8)) (by decide) dL_act_135 ?_
    refine z_ishr C dL_act_137 ?_
    refine z_iconst C (v := nI (3)) (by decide) dL_act_138 ?_
    refine z_cS C (st' := [.int (nI (bw (x >>> (nI (8) &&& 31)) (3))), .ref (a (2 + (w_1)))]) (B' := [(smS cB a n g σ, zZ), (smG cE n g σ en, zZ), (smP cI ps, zZ), (shT t fa ta, zZ), (shF fa cI cZ, σ), (shF ta cI cZ, τ)]) [false, false, false, false, false, false] rfl (c_L_below l D cI cZ cB cE (x >>> (nI (8) &&& 31)) (3) (by omega) (by omega)) wq_yL_below wm_L_15 ws_yL_below ⟨rfl, rfl, Nat.le_of_ble_eq_true rfl, Nat.le_of_ble_eq_true rfl⟩ rfl rfl (Nat.le_of_ble_eq_true rfl) dL_act_139 ⟨(Nat.le_of_ble_eq_true rfl), (Nat.le_of_ble_eq_true rfl)⟩ rfl rfl ?_
    have hw_4 := bw_lt (x >>> (nI (8) &&& 31)) (k := 3) (by omega)
    generalize bw (x >>> (nI (8) &&& 31)) (3) = w_4 at hw_4
    refine z_if_neN C (tgt := 156) dL_act_142 (by decide) (by omega) (fun c_142 => ?_) (fun c_142 => ?_)
    · refine z_iconst C (v := nI (0)) (by decide) dL_act_156 ?_
      refine z_bput C (B' := [(smS cB a n g ((zU σ 6 (w_1) (nI (0)))), zZ), (smG cE n g ((zU σ 6 (w_1) (nI (0)))) en, zZ), (smP cI ps, zZ), (shT t fa ta, zZ), (shF fa cI cZ, σ), (shF ta cI cZ, τ)]) 0 rfl (i := w_1) (by omega) 5 6 (by decide) rfl rfl wf_L_32 rfl dL_act_157 rfl ?_
      refine z_aload_n C dL_act_160 rfl 3 rfl ?_
      refine z_iload_n C dL_act_161 rfl 2 rfl ?_
      refine z_aload C dL_act_162 1 rfl ?_
      refine z_bget C 0 rfl (i := w_1) (by omega) 5 (by decide) (v := .int ((zU σ 6 (w_1) (nI (0))) 6 (w_1))) rfl wf_L_32 dL_act_164 ?_
      refine z_top (y := nI (0)) (zU_self _ _ _ _) ?_
      refine z_cV C (st' := [.int (σ 6 (w_1))]) (B' := [(smS cB a n g ((zU σ 6 (w_1) (nI (0)))), zZ), (smG cE n g ((zU σ 6 (w_1) (nI (0)))) en, zZ), (smP cI ps, zZ), (shT t fa ta, zZ), (shF fa cI cZ, (zU σ 6 w_1 (nI 0))), (shF ta cI cZ, τ)]) [false, false, false, true, true, true] rfl (c_X2_go l D cI cZ cB cE t fa ta σ τ n hI w_1 0 (by omega) (by omega)) wq_yX2_go wm_L_35 ⟨wn_yX2_go, wo_yX2_go⟩ ⟨rfl, rfl, Nat.le_of_ble_eq_true rfl, Nat.le_of_ble_eq_true rfl⟩ 3 rfl 0 rfl rfl rfl rfl (Nat.le_of_ble_eq_true rfl) dL_act_167 ⟨(Nat.le_of_ble_eq_true rfl), (Nat.le_of_ble_eq_true rfl)⟩ rfl rfl ?_
      refine z_iload C dL_act_170 0 rfl ?_
      refine z_icmp_ne C (tgt := 179) dL_act_172 (by decide) (fun c_172 => ?_) (fun c_172 => ?_)
      · exact absurd rfl c_172
      · refine z_iconst C (v := nI (1)) (by decide) dL_act_175 ?_
        refine z_goto C (tgt := 180) dL_act_176 (by decide) ?_
        refine z_widen (k := 1000) (n := 11000) (by omega) (by omega) ?_
        rw [hQ]; exact z_zret C hr nar_1 dL_act_180 ⟨rfl, ((zU σ 6 w_1 (nI 0))), g, en, ps, (fA_port hA w_1 (nI 0)).mono (by omega), hk, rfl⟩
    · refine z_iload_n C dL_act_145 rfl 5 rfl ?_
      refine z_bipush C (v := nI (6)) (by decide) dL_act_146 ?_
      refine z_ishr C dL_act_148 ?_
      refine z_iconst C (v := nI (3)) (by decide) dL_act_149 ?_
      refine z_cS C (st' := [.int (nI (bw (x >>> (nI (6) &&& 31)) (3))), .ref (a (2 + (w_1)))]) (B' := [(smS cB a n g σ, zZ), (smG cE n g σ en, zZ), (smP cI ps, zZ), (shT t fa ta, zZ), (shF fa cI cZ, σ), (shF ta cI cZ, τ)]) [false, false, false, false, false, false] rfl (c_L_below l D cI cZ cB cE (x >>> (nI (6) &&& 31)) (3) (by omega) (by omega)) wq_yL_below wm_L_15 ws_yL_below ⟨rfl, rfl, Nat.le_of_ble_eq_true rfl, Nat.le_of_ble_eq_true rfl⟩ rfl rfl (Nat.le_of_ble_eq_true rfl) dL_act_150 ⟨(Nat.le_of_ble_eq_true rfl), (Nat.le_of_ble_eq_true rfl)⟩ rfl rfl ?_
      have hw_5 := bw_lt (x >>> (nI (6) &&& 31)) (k := 3) (by omega)
      generalize bw (x >>> (nI (6) &&& 31)) (3) = w_5 at hw_5
      refine z_goto C (tgt := 157) dL_act_153 (by decide) ?_
      refine z_bput C (B' := [(smS cB a n g ((zU σ 6 (w_1) (nI (w_5)))), zZ), (smG cE n g ((zU σ 6 (w_1) (nI (w_5)))) en, zZ), (smP cI ps, zZ), (shT t fa ta, zZ), (shF fa cI cZ, σ), (shF ta cI cZ, τ)]) 0 rfl (i := w_1) (by omega) 5 6 (by decide) rfl rfl wf_L_32 rfl dL_act_157 rfl ?_
      refine z_aload_n C dL_act_160 rfl 3 rfl ?_
      refine z_iload_n C dL_act_161 rfl 2 rfl ?_
      refine z_aload C dL_act_162 1 rfl ?_
      refine z_bget C 0 rfl (i := w_1) (by omega) 5 (by decide) (v := .int ((zU σ 6 (w_1) (nI (w_5))) 6 (w_1))) rfl wf_L_32 dL_act_164 ?_
      refine z_top (y := nI (w_5)) (zU_self _ _ _ _) ?_
      refine z_cV C (st' := [.int (σ 6 (w_1))]) (B' := [(smS cB a n g ((zU σ 6 (w_1) (nI (w_5)))), zZ), (smG cE n g ((zU σ 6 (w_1) (nI (w_5)))) en, zZ), (smP cI ps, zZ), (shT t fa ta, zZ), (shF fa cI cZ, (zU σ 6 w_1 (nI w_5))), (shF ta cI cZ, τ)]) [false, false, false, true, true, true] rfl (c_X2_go l D cI cZ cB cE t fa ta σ τ n hI w_1 w_5 (by omega) (by omega)) wq_yX2_go wm_L_35 ⟨wn_yX2_go, wo_yX2_go⟩ ⟨rfl, rfl, Nat.le_of_ble_eq_true rfl, Nat.le_of_ble_eq_true rfl⟩ 3 rfl 0 rfl rfl rfl rfl (Nat.le_of_ble_eq_true rfl) dL_act_167 ⟨(Nat.le_of_ble_eq_true rfl), (Nat.le_of_ble_eq_true rfl)⟩ rfl rfl ?_
      refine z_iload C dL_act_170 0 rfl ?_
      refine z_icmp_ne C (tgt := 179) dL_act_172 (by decide) (fun c_172 => ?_) (fun c_172 => ?_)
      · exact absurd rfl c_172
      · refine z_iconst C (v := nI (1)) (by decide) dL_act_175 ?_
        refine z_goto C (tgt := 180) dL_act_176 (by decide) ?_
        refine z_widen (k := 1000) (n := 11000) (by omega) (by omega) ?_
        rw [hQ]; exact z_zret C hr nar_1 dL_act_180 ⟨rfl, ((zU σ 6 w_1 (nI w_5))), g, en, ps, (fA_port hA w_1 (nI w_5)).mono (by omega), hk, rfl⟩
  have K_181 : zK p l e ({ frames := 8, cells := 1000, slots := 11000, locals := 179 } : Room) s m args below meth c D A 13 Q 0 0 181 [(4, .ref (a (2 + (w_1)))), (3, .int (nI (w_1))), (0, .ref (t)), (1, .ref (a 0)), (2, .int (x))] [] [(smS cB a n g σ, zZ), (smG cE n g σ en, zZ), (smP cI ps, zZ), (shT t fa ta, zZ), (shF fa cI cZ, σ), (shF ta cI cZ, τ)] := by
    refine z_aload C dL_act_181 0 rfl ?_
    refine z_aload C dL_act_183 0 rfl ?_
    refine z_bget C 0 rfl (i := w_1) (by omega) 6 (by decide) (v := .int (σ 7 (w_1))) rfl wf_L_38 dL_act_185 ?_
    refine z_if_ne C (tgt := 195) dL_act_188 (by decide) (fun c_188 => ?_) (fun c_188 => ?_)
    · refine z_iconst C (v := nI (0)) (by decide) dL_act_195 ?_
      refine z_bputZ C (B' := [(smS cB a n g ((zU σ 7 (w_1) (nI (0)))), zZ), (smG cE n g ((zU σ 7 (w_1) (nI (0)))) en, zZ), (smP cI ps, zZ), (shT t fa ta, zZ), (shF fa cI cZ, σ), (shF ta cI cZ, τ)]) 0 rfl (i := w_1) (by omega) wf_L_38 (Or.inl rfl) dL_act_196 rfl ?_
      refine z_aload C dL_act_199 0 rfl ?_
      refine z_bget C 0 rfl (i := w_1) (by omega) 6 (by decide) (v := .int ((zU σ 7 (w_1) (nI (0))) 7 (w_1))) rfl wf_L_38 dL_act_201 ?_
      refine z_top (y := nI (0)) (zU_self _ _ _ _) ?_
      refine z_if_eqN C (tgt := 229) dL_act_204 (by decide) (by omega) (fun c_204 => ?_) (fun c_204 => ?_)
      · refine z_aload_n C dL_act_229 rfl 2 rfl ?_
        refine z_iload_n C dL_act_230 rfl 1 rfl ?_
        refine z_cV C (st' := [.int (zb (decide (σ 7 w_1 = 0)))]) (B' := [(smS cB a n g ((zU σ 7 (w_1) (nI (0)))), zZ), (smG cE n g ((zU σ 7 (w_1) (nI (0)))) en, zZ), (smP cI ps, zZ), (shT t fa ta, zZ), (shF fa cI cZ, (if σ 7 w_1 = 0 then fl_raise σ w_1 else zU σ 7 w_1 (nI 0))), (shF ta cI cZ, τ)]) [false, false, false, true, true, true] rfl (c_X2_sink l D cI cZ cB cE t fa ta σ τ n hI w_1 (by omega)) wq_yX2_sink wm_L_51 ⟨wn_yX2_sink, wo_yX2_sink⟩ ⟨rfl, rfl, Nat.le_of_ble_eq_true rfl, Nat.le_of_ble_eq_true rfl⟩ 3 rfl 0 rfl rfl rfl rfl (Nat.le_of_ble_eq_true rfl) dL_act_231 ⟨(Nat.le_of_ble_eq_true rfl), (Nat.le_of_ble_eq_true rfl)⟩ rfl rfl ?_
        refine z_eq (B' := [(smS cB a n g ((zU σ 7 (w_1) (nI (0)))), zZ), (smG cE n g ((zU σ 7 (w_1) (nI (0)))) en, zZ), (smP cI ps, zZ), (shT t fa ta, zZ), (shF fa cI cZ, (zU σ 7 w_1 (nI 0))), (shF ta cI cZ, τ)]) (by rw [if_neg c_188]) ?_
        refine z_aload C dL_act_234 0 rfl ?_
        refine z_bget C 0 rfl (i := w_1) (by omega) 6 (by decide) (v := .int ((zU σ 7 (w_1) (nI (0))) 7 (w_1))) rfl wf_L_38 dL_act_236 ?_
        refine z_top (y := nI (0)) (zU_self _ _ _ _) ?_
        refine z_icmp_ne C (tgt := 246) dL_act_239 (by decide) (fun c_239 => ?_) (fun c_239 => ?_)
        · exact absurd (by rw [decide_eq_false c_188]; rfl) c_239
        · refine z_iconst C (v := nI (1)) (by decide) dL_act_242 ?_
          refine z_goto C (tgt := 247) dL_act_243 (by decide) ?_
          refine z_widen (k := 1000) (n := 11000) (by omega) (by omega) ?_
          rw [hQ]; exact z_zret C hr nar_1 dL_act_247 ⟨rfl, ((zU σ 7 w_1 (nI 0))), g, en, ps, (fA_down hA w_1).mono (by omega), hk, rfl⟩
      · exact absurd c_204 (by omega)
    · refine z_iconst C (v := nI (1)) (by decide) dL_act_191 ?_
      refine z_goto C (tgt := 196) dL_act_192 (by decide) ?_
      refine z_bputZ C (B' := [(smS cB a n g ((zU σ 7 (w_1) (nI (1)))), zZ), (smG cE n g ((zU σ 7 (w_1) (nI (1)))) en, zZ), (smP cI ps, zZ), (shT t fa ta, zZ), (shF fa cI cZ, σ), (shF ta cI cZ, τ)]) 0 rfl (i := w_1) (by omega) wf_L_38 (Or.inr rfl) dL_act_196 rfl ?_
      refine z_aload C dL_act_199 0 rfl ?_
      refine z_bget C 0 rfl (i := w_1) (by omega) 6 (by decide) (v := .int ((zU σ 7 (w_1) (nI (1))) 7 (w_1))) rfl wf_L_38 dL_act_201 ?_
      refine z_top (y := nI (1)) (zU_self _ _ _ _) ?_
      refine z_if_eqN C (tgt := 229) dL_act_204 (by decide) (by omega) (fun c_204 => ?_) (fun c_204 => ?_)
      · exact absurd c_204 (by omega)
      · refine z_aload C dL_act_207 0 rfl ?_
        refine z_iconst C (v := nI (0)) (by decide) dL_act_209 ?_
        refine z_bput C (B' := [(smS cB a n g ((zU (zU σ 7 (w_1) (nI (1))) 5 (w_1) (nI (0)))), zZ), (smG cE n g ((zU (zU σ 7 (w_1) (nI (1))) 5 (w_1) (nI (0)))) en, zZ), (smP cI ps, zZ), (shT t fa ta, zZ), (shF fa cI cZ, σ), (shF ta cI cZ, τ)]) 0 rfl (i := w_1) (by omega) 4 5 (by decide) rfl rfl wf_L_42 rfl dL_act_210 rfl ?_
        refine z_aload C dL_act_213 0 rfl ?_
        refine z_aload C dL_act_215 0 rfl ?_
        refine z_bget C 0 rfl (i := w_1) (by omega) 0 (by decide) (v := .int ((zU (zU σ 7 (w_1) (nI (1))) 5 (w_1) (nI (0))) 1 (w_1))) rfl wf_L_21 dL_act_217 ?_
        refine z_top (y := σ 1 (w_1)) rfl ?_
        refine z_bput C (B' := [(smS cB a n g ((zU (zU (zU σ 7 (w_1) (nI (1))) 5 (w_1) (nI (0))) 2 (w_1) (σ 1 (w_1)))), zZ), (smG cE n g ((zU (zU (zU σ 7 (w_1) (nI (1))) 5 (w_1) (nI (0))) 2 (w_1) (σ 1 (w_1)))) en, zZ), (smP cI ps, zZ), (shT t fa ta, zZ), (shF fa cI cZ, σ), (shF ta cI cZ, τ)]) 0 rfl (i := w_1) (by omega) 1 2 (by decide) rfl rfl wf_L_45 rfl dL_act_220 rfl ?_
        refine z_aload C dL_act_223 0 rfl ?_
        refine z_iconst C (v := nI (0)) (by decide) dL_act_225 ?_
        refine z_bput C (B' := [(smS cB a n g ((zU (zU (zU (zU σ 7 (w_1) (nI (1))) 5 (w_1) (nI (0))) 2 (w_1) (σ 1 (w_1))) 9 (w_1) (nI (0)))), zZ), (smG cE n g ((zU (zU (zU (zU σ 7 (w_1) (nI (1))) 5 (w_1) (nI (0))) 2 (w_1) (σ 1 (w_1))) 9 (w_1) (nI (0)))) en, zZ), (smP cI ps, zZ), (shT t fa ta, zZ), (shF fa cI cZ, σ), (shF ta cI cZ, τ)]) 0 rfl (i := w_1) (by omega) 7 9 (by decide) rfl rfl wf_L_48 rfl dL_act_226 rfl ?_
        refine z_aload_n C dL_act_229 rfl 2 rfl ?_
        refine z_iload_n C dL_act_230 rfl 1 rfl ?_
        refine z_cV C (st' := [.int (zb (decide (σ 7 w_1 = 0)))]) (B' := [(smS cB a n g ((zU (zU (zU (zU σ 7 (w_1) (nI (1))) 5 (w_1) (nI (0))) 2 (w_1) (σ 1 (w_1))) 9 (w_1) (nI (0)))), zZ), (smG cE n g ((zU (zU (zU (zU σ 7 (w_1) (nI (1))) 5 (w_1) (nI (0))) 2 (w_1) (σ 1 (w_1))) 9 (w_1) (nI (0)))) en, zZ), (smP cI ps, zZ), (shT t fa ta, zZ), (shF fa cI cZ, (if σ 7 w_1 = 0 then fl_raise σ w_1 else zU σ 7 w_1 (nI 0))), (shF ta cI cZ, τ)]) [false, false, false, true, true, true] rfl (c_X2_sink l D cI cZ cB cE t fa ta σ τ n hI w_1 (by omega)) wq_yX2_sink wm_L_51 ⟨wn_yX2_sink, wo_yX2_sink⟩ ⟨rfl, rfl, Nat.le_of_ble_eq_true rfl, Nat.le_of_ble_eq_true rfl⟩ 3 rfl 0 rfl rfl rfl rfl (Nat.le_of_ble_eq_true rfl) dL_act_231 ⟨(Nat.le_of_ble_eq_true rfl), (Nat.le_of_ble_eq_true rfl)⟩ rfl rfl ?_
        refine z_eq (B' := [(smS cB a n g ((zU (zU (zU (zU σ 7 (w_1) (nI (1))) 5 (w_1) (nI (0))) 2 (w_1) (σ 1 (w_1))) 9 (w_1) (nI (0)))), zZ), (smG cE n g ((zU (zU (zU (zU σ 7 (w_1) (nI (1))) 5 (w_1) (nI (0))) 2 (w_1) (σ 1 (w_1))) 9 (w_1) (nI (0)))) en, zZ), (smP cI ps, zZ), (shT t fa ta, zZ), (shF fa cI cZ, (fl_raise σ w_1)), (shF ta cI cZ, τ)]) (by rw [if_pos c_188]) ?_
        refine z_aload C dL_act_234 0 rfl ?_
        refine z_bget C 0 rfl (i := w_1) (by omega) 6 (by decide) (v := .int ((zU (zU (zU (zU σ 7 (w_1) (nI (1))) 5 (w_1) (nI (0))) 2 (w_1) (σ 1 (w_1))) 9 (w_1) (nI (0))) 7 (w_1))) rfl wf_L_38 dL_act_236 ?_
        refine z_top (y := nI (1)) (show (zU σ 7 (w_1) (nI (1))) 7 (w_1) = _ from zU_self _ _ _ _) ?_
        refine z_icmp_ne C (tgt := 246) dL_act_239 (by decide) (fun c_239 => ?_) (fun c_239 => ?_)
        · exact absurd (by rw [decide_eq_true c_188]; rfl) c_239
        · refine z_iconst C (v := nI (1)) (by decide) dL_act_242 ?_
          refine z_goto C (tgt := 247) dL_act_243 (by decide) ?_
          refine z_widen (k := 1000) (n := 11000) (by omega) (by omega) ?_
          rw [hQ]; exact z_zret C hr nar_1 dL_act_247 ⟨rfl, ((fl_raise σ w_1)), g, en, ps, (fA_raise hA w_1).mono (by omega), hk, rfl⟩
  have K_248 : zK p l e ({ frames := 8, cells := 1000, slots := 11000, locals := 179 } : Room) s m args below meth c D A 13 Q 0 0 248 [(4, .ref (a (2 + (w_1)))), (3, .int (nI (w_1))), (0, .ref (t)), (1, .ref (a 0)), (2, .int (x))] [] [(smS cB a n g σ, zZ), (smG cE n g σ en, zZ), (smP cI ps, zZ), (shT t fa ta, zZ), (shF fa cI cZ, σ), (shF ta cI cZ, τ)] := by
    refine z_iload_n C dL_act_248 rfl 4 rfl ?_
    refine z_bipush C (v := nI (9)) (by decide) dL_act_249 ?_
    refine z_ishr C dL_act_251 ?_
    refine z_iconst C (v := nI (2)) (by decide) dL_act_252 ?_
    refine z_cS C (st' := [.int (nI (bw (x >>> (nI (9) &&& 31)) (2)))]) (B' := [(smS cB a n g σ, zZ), (smG cE n g σ en, zZ), (smP cI ps, zZ), (shT t fa ta, zZ), (shF fa cI cZ, σ), (shF ta cI cZ, τ)]) [false, false, false, false, false, false] rfl (c_L_below l D cI cZ cB cE (x >>> (nI (9) &&& 31)) (2) (by omega) (by omega)) wq_yL_below wm_L_15 ws_yL_below ⟨rfl, rfl, Nat.le_of_ble_eq_true rfl, Nat.le_of_ble_eq_true rfl⟩ rfl rfl (Nat.le_of_ble_eq_true rfl) dL_act_253 ⟨(Nat.le_of_ble_eq_true rfl), (Nat.le_of_ble_eq_true rfl)⟩ rfl rfl ?_
    have hw_6 := bw_lt (x >>> (nI (9) &&& 31)) (k := 2) (by omega)
    generalize bw (x >>> (nI (9) &&& 31)) (2) = w_6 at hw_6
    refine z_if_neN C (tgt := 261) dL_act_256 (by decide) (by omega) (fun c_256 => ?_) (fun c_256 => ?_)
    · refine z_iconst C (v := nI (0)) (by decide) dL_act_261 ?_
      refine z_istore C (L' := [(5, .int (nI (0))), (4, .ref (a (2 + (w_1)))), (3, .int (nI (w_1))), (0, .ref (t)), (1, .ref (a 0)), (2, .int (x))]) dL_act_262 (by decide) rfl ?_
      have loop_264 : ∀ (k_264 o : Nat) (ρ : zF), n < o + k_264 → o ≤ n → (hAρ : fA n N ρ) → (hkρ : smK n ρ en ps) → zK p l e ({ frames := 8, cells := 1000, slots := 11000, locals := 179 } : Room) s m args below meth c D A 13 Q 0 0 264 [(0, .ref (t)), (1, .ref (a 0)), (5, .int (nI (o)))] [] [(smS cB a n g ρ, zZ), (smG cE n g ρ en, zZ), (smP cI ps, zZ), (shT t fa ta, zZ), (shF fa cI cZ, ρ), (shF ta cI cZ, τ)] := by
        intro k_264
        induction k_264 with
        | zero => intro o ρ m1_264 m2_264; exact absurd m1_264 (by omega)
        | succ k_264 ih_264 =>
          intro o ρ m1_264 m2_264 hAρ hkρ
          refine z_iload C dL_act_264 2 rfl ?_
          refine z_aload_n C dL_act_266 rfl 1 rfl ?_
          refine z_sget C 0 rfl 4 (by decide) (v := .ref (a 1)) rfl wf_L_9 dL_act_267 ?_
          refine z_alenB C 0 rfl dL_act_270 ?_
          refine z_icmp_geN C (tgt := 317) dL_act_271 (by decide) (by omega) (by omega) (fun c_271 => ?_) (fun c_271 => ?_)
          · refine z_iconst C (v := nI (1)) (by decide) dL_act_317 ?_
            refine z_widen (k := 1000) (n := 11000) (by omega) (by omega) ?_
            rw [hQ]; exact z_zret C hr nar_1 dL_act_318 ⟨rfl, ρ, g, en, ps, (hAρ).mono (by omega), hkρ, rfl⟩
          · refine z_aload_n C dL_act_274 rfl 1 rfl ?_
            refine z_sget C 0 rfl 4 (by decide) (v := .ref (a 1)) rfl wf_L_9 dL_act_275 ?_
            refine z_iload C dL_act_278 2 rfl ?_
            refine z_aB C 0 rfl (i := o) (by omega) (by omega) dL_act_280 ?_
            refine z_bget C 0 rfl (i := o) (by omega) 5 (by decide) (v := .int (ρ 6 (o))) rfl wf_L_32 dL_act_281 ?_
            refine z_istore C (L' := [(6, .int (ρ 6 (o))), (0, .ref (t)), (1, .ref (a 0)), (5, .int (nI (o)))]) dL_act_284 (by decide) rfl ?_
            refine z_aload_n C dL_act_286 rfl 2 rfl ?_
            refine z_sget C 0 rfl 4 (by decide) (v := .ref (a 1)) rfl wf_L_9 dL_act_287 ?_
            refine z_iload C dL_act_290 3 rfl ?_
            refine z_aB C 0 rfl (i := o) (by omega) (by omega) dL_act_292 ?_
            refine z_iconst C (v := nI (0)) (by decide) dL_act_293 ?_
            refine z_bput C (B' := [(smS cB a n g ((zU ρ 6 (o) (nI (0)))), zZ), (smG cE n g ((zU ρ 6 (o) (nI (0)))) en, zZ), (smP cI ps, zZ), (shT t fa ta, zZ), (shF fa cI cZ, ρ), (shF ta cI cZ, τ)]) 0 rfl (i := o) (by omega) 5 6 (by decide) rfl rfl wf_L_32 rfl dL_act_294 rfl ?_
            refine z_aload_n C dL_act_297 rfl 1 rfl ?_
            refine z_iload C dL_act_298 3 rfl ?_
            refine z_iconst C (v := nI (0)) (by decide) dL_act_300 ?_
            refine z_cV C (st' := [.int (ρ 6 (o))]) (B' := [(smS cB a n g ((zU ρ 6 (o) (nI (0)))), zZ), (smG cE n g ((zU ρ 6 (o) (nI (0)))) en, zZ), (smP cI ps, zZ), (shT t fa ta, zZ), (shF fa cI cZ, (zU ρ 6 o (nI 0))), (shF ta cI cZ, τ)]) [false, false, false, true, true, true] rfl (c_X2_go l D cI cZ cB cE t fa ta ρ τ n hAρ.iv o 0 (by omega) (by omega)) wq_yX2_go wm_L_35 ⟨wn_yX2_go, wo_yX2_go⟩ ⟨rfl, rfl, Nat.le_of_ble_eq_true rfl, Nat.le_of_ble_eq_true rfl⟩ 3 rfl 0 rfl rfl rfl rfl (Nat.le_of_ble_eq_true rfl) dL_act_301 ⟨(Nat.le_of_ble_eq_true rfl), (Nat.le_of_ble_eq_true rfl)⟩ rfl rfl ?_
            refine z_iload C dL_act_304 0 rfl ?_
            refine z_icmp_eq C (tgt := 311) dL_act_306 (by decide) (fun c_306 => ?_) (fun c_306 => ?_)
            · refine z_iinc C (L' := [(5, .int (nI (o + 1))), (6, .int (ρ 6 (o))), (0, .ref (t)), (1, .ref (a 0))]) dL_act_311 3 rfl (z_inc1 _) (by decide) rfl ?_
              refine z_goto C (tgt := 264) dL_act_314 (by decide) ?_
              refine z_sub (L' := [(0, .ref (t)), (1, .ref (a 0)), (5, .int (nI (o + 1)))]) [2, 3, 0] rfl ?_
              exact ih_264 (o + 1) (zU ρ 6 o (nI 0)) (by omega) (by omega) (fA_port hAρ o (nI 0)) hkρ
            · exact absurd rfl c_306
      refine z_sub (L' := [(0, .ref (t)), (1, .ref (a 0)), (5, .int (nI (0)))]) [3, 4, 0] rfl ?_
      exact loop_264 (n + 1) 0 σ (by omega) (by omega) hA hk
    · refine z_iconst C (v := nI (1)) (by decide) dL_act_259 ?_
      refine z_widen (k := 1000) (n := 11000) (by omega) (by omega) ?_
      rw [hQ]; exact z_zret C hr nar_1 dL_act_260 ⟨rfl, σ, g, en, ps, (hA).mono (by omega), hk, rfl⟩
  have K_319 : zK p l e ({ frames := 8, cells := 1000, slots := 11000, locals := 179 } : Room) s m args below meth c D A 13 Q 0 0 319 [(4, .ref (a (2 + (w_1)))), (3, .int (nI (w_1))), (0, .ref (t)), (1, .ref (a 0)), (2, .int (x))] [] [(smS cB a n g σ, zZ), (smG cE n g σ en, zZ), (smP cI ps, zZ), (shT t fa ta, zZ), (shF fa cI cZ, σ), (shF ta cI cZ, τ)] := by
    refine z_iconst C (v := nI (1)) (by decide) dL_act_319 ?_
    refine z_iload_n C dL_act_320 rfl 4 rfl ?_
    refine z_bipush C (v := nI (8)) (by decide) dL_act_321 ?_
    refine z_ishr C dL_act_323 ?_
    refine z_iconst C (v := nI (2)) (by decide) dL_act_324 ?_
    refine z_cS C (st' := [.int (nI (bw (x >>> (nI (8) &&& 31)) (2))), .int (nI (1))]) (B' := [(smS cB a n g σ, zZ), (smG cE n g σ en, zZ), (smP cI ps, zZ), (shT t fa ta, zZ), (shF fa cI cZ, σ), (shF ta cI cZ, τ)]) [false, false, false, false, false, false] rfl (c_L_below l D cI cZ cB cE (x >>> (nI (8) &&& 31)) (2) (by omega) (by omega)) wq_yL_below wm_L_15 ws_yL_below ⟨rfl, rfl, Nat.le_of_ble_eq_true rfl, Nat.le_of_ble_eq_true rfl⟩ rfl rfl (Nat.le_of_ble_eq_true rfl) dL_act_325 ⟨(Nat.le_of_ble_eq_true rfl), (Nat.le_of_ble_eq_true rfl)⟩ rfl rfl ?_
    have hw_7 := bw_lt (x >>> (nI (8) &&& 31)) (k := 2) (by omega)
    generalize bw (x >>> (nI (8) &&& 31)) (2) = w_7 at hw_7
    refine z_iaddN C dL_act_328 ?_
    refine z_istore C (L' := [(5, .int (nI (1 + w_7))), (4, .ref (a (2 + (w_1)))), (3, .int (nI (w_1))), (0, .ref (t)), (1, .ref (a 0)), (2, .int (x))]) dL_act_329 (by decide) rfl ?_
    refine z_iconst C (v := nI (0)) (by decide) dL_act_331 ?_
    refine z_istore C (L' := [(6, .int (nI (0))), (5, .int (nI (1 + w_7))), (4, .ref (a (2 + (w_1)))), (3, .int (nI (w_1))), (0, .ref (t)), (1, .ref (a 0)), (2, .int (x))]) dL_act_332 (by decide) rfl ?_
    have loop_334 : ∀ (k_334 k : Nat) (ρ : zF) (gg : Nat → Nat) (ee : Nat → Nat → Nat) (pp : List (Nat × Int32 × Int32)) (cc : Nat) (ss : Nat), (1 + w_7) < k + k_334 → k ≤ (1 + w_7) → (hAρ : fA n N ρ) → (hkρ : smK n ρ ee pp) → (hcc : cc ≤ 21 * k) → (hss : ss ≤ 98 * k) → zK p l e ({ frames := 8, cells := 1000, slots := 11000, locals := 179 } : Room) s m args below meth c D A 13 Q cc ss 334 [(0, .ref (t)), (1, .ref (a 0)), (2, .int (x)), (3, .int (nI (w_1))), (5, .int (nI (1 + w_7))), (6, .int (nI (k)))] [] [(smS cB a n gg ρ, zZ), (smG cE n gg ρ ee, zZ), (smP cI pp, zZ), (shT t fa ta, zZ), (shF fa cI cZ, ρ), (shF ta cI cZ, τ)] := by
      intro k_334
      induction k_334 with
      | zero => intro k ρ gg ee pp cc ss m1_334 m2_334; exact absurd m1_334 (by omega)
      | succ k_334 ih_334 =>
        intro k ρ gg ee pp cc ss m1_334 m2_334 hAρ hkρ hcc hss
        refine z_iload C dL_act_334 5 rfl ?_
        refine z_iload C dL_act_336 4 rfl ?_
        refine z_icmp_geN C (tgt := 525) dL_act_338 (by decide) (by omega) (by omega) (fun c_338 => ?_) (fun c_338 => ?_)
        · refine z_iconst C (v := nI (1)) (by decide) dL_act_525 ?_
          refine z_widen (k := 1000) (n := 11000) (by omega) (by omega) ?_
          rw [hQ]; exact z_zret C hr nar_1 dL_act_526 ⟨rfl, ρ, gg, ee, pp, (hAρ).mono (by omega), hkρ, rfl⟩
        · refine z_iconst C (v := nI (0)) (by decide) dL_act_341 ?_
          refine z_istore C (L' := [(7, .int (nI (0))), (0, .ref (t)), (1, .ref (a 0)), (2, .int (x)), (3, .int (nI (w_1))), (5, .int (nI (1 + w_7))), (6, .int (nI (k)))]) dL_act_342 (by decide) rfl ?_
          have loop_344 : ∀ (k_344 o : Nat) (ρ : zF) (gg : Nat → Nat) (ee : Nat → Nat → Nat) (pp : List (Nat × Int32 × Int32)) (cc : Nat) (ss : Nat), n < o + k_344 → o ≤ n → (hAρ : fA n N ρ) → (hkρ : smK n ρ ee pp) → (hcc : cc ≤ 21 * k + 3 * o) → (hss : ss ≤ 98 * k + 14 * o) → zK p l e ({ frames := 8, cells := 1000, slots := 11000, locals := 179 } : Room) s m args below meth c D A 13 Q cc ss 344 [(0, .ref (t)), (1, .ref (a 0)), (2, .int (x)), (3, .int (nI (w_1))), (5, .int (nI (1 + w_7))), (6, .int (nI (k))), (7, .int (nI (o)))] [] [(smS cB a n gg ρ, zZ), (smG cE n gg ρ ee, zZ), (smP cI pp, zZ), (shT t fa ta, zZ), (shF fa cI cZ, ρ), (shF ta cI cZ, τ)] := by
            intro k_344
            induction k_344 with
            | zero => intro o ρ gg ee pp cc ss m1_344 m2_344; exact absurd m1_344 (by omega)
            | succ k_344 ih_344 =>
              intro o ρ gg ee pp cc ss m1_344 m2_344 hAρ hkρ hcc hss
              refine z_iload C dL_act_344 6 rfl ?_
              refine z_aload_n C dL_act_346 rfl 1 rfl ?_
              refine z_sget C 0 rfl 4 (by decide) (v := .ref (a 1)) rfl wf_L_9 dL_act_347 ?_
              refine z_alenB C 0 rfl dL_act_350 ?_
              refine z_icmp_geN C (tgt := 519) dL_act_351 (by decide) (by omega) (by omega) (fun c_351 => ?_) (fun c_351 => ?_)
              · refine z_iinc C (L' := [(6, .int (nI (k + 1))), (0, .ref (t)), (1, .ref (a 0)), (2, .int (x)), (3, .int (nI (w_1))), (5, .int (nI (1 + w_7))), (7, .int (nI (o)))]) dL_act_519 5 rfl (z_inc1 _) (by decide) rfl ?_
                refine z_goto C (tgt := 334) dL_act_522 (by decide) ?_
                refine z_sub (L' := [(0, .ref (t)), (1, .ref (a 0)), (2, .int (x)), (3, .int (nI (w_1))), (5, .int (nI (1 + w_7))), (6, .int (nI (k + 1)))]) [1, 2, 3, 4, 5, 0] rfl ?_
                exact ih_334 (k + 1) ρ gg ee pp cc ss (by omega) (by omega) hAρ hkρ (by omega) (by omega)
              · refine z_aload_n C dL_act_354 rfl 1 rfl ?_
                refine z_sget C 0 rfl 4 (by decide) (v := .ref (a 1)) rfl wf_L_9 dL_act_355 ?_
                refine z_iload C dL_act_358 6 rfl ?_
                refine z_aB C 0 rfl (i := o) (by omega) (by omega) dL_act_360 ?_
                refine z_astore C (L' := [(8, .ref (a (2 + (o)))), (0, .ref (t)), (1, .ref (a 0)), (2, .int (x)), (3, .int (nI (w_1))), (5, .int (nI (1 + w_7))), (6, .int (nI (k))), (7, .int (nI (o)))]) dL_act_361 (by decide) rfl ?_
                refine z_iload_n C dL_act_363 rfl 3 rfl ?_
                refine z_iconst C (v := nI (3)) (by decide) dL_act_364 ?_
                refine z_ishr C dL_act_365 ?_
                refine z_bipush C (v := nI (37)) (by decide) dL_act_366 ?_
                refine z_iload C dL_act_368 7 rfl ?_
                refine z_imulN C dL_act_370 ?_
                refine z_iadd C dL_act_371 ?_
                refine z_bipush C (v := nI (11)) (by decide) dL_act_372 ?_
                refine z_iload C dL_act_374 6 rfl ?_
                refine z_imulN C dL_act_376 ?_
                refine z_iadd C dL_act_377 ?_
                refine z_bipush C (v := nI (100)) (by decide) dL_act_378 ?_
                refine z_cS C (st' := [.int (nI (bw (((x >>> (nI (3) &&& 31)) + (nI (37 * o))) + (nI (11 * k))) (100)))]) (B' := [(smS cB a n gg ρ, zZ), (smG cE n gg ρ ee, zZ), (smP cI pp, zZ), (shT t fa ta, zZ), (shF fa cI cZ, ρ), (shF ta cI cZ, τ)]) [false, false, false, false, false, false] rfl (c_L_below l D cI cZ cB cE (((x >>> (nI (3) &&& 31)) + (nI (37 * o))) + (nI (11 * k))) (100) (by omega) (by omega)) wq_yL_below wm_L_15 ws_yL_below ⟨rfl, rfl, Nat.le_of_ble_eq_true rfl, Nat.le_of_ble_eq_true rfl⟩ rfl rfl (Nat.le_of_ble_eq_true rfl) dL_act_380 ⟨(by show _ ≤ 1000; omega), (by show _ ≤ 11000; omega)⟩ rfl rfl ?_
                have hw_8 := bw_lt (((x >>> (nI (3) &&& 31)) + (nI (37 * o))) + (nI (11 * k))) (k := 100) (by omega)
                generalize bw (((x >>> (nI (3) &&& 31)) + (nI (37 * o))) + (nI (11 * k))) (100) = w_8 at hw_8
                refine z_istore C (L' := [(9, .int (nI (w_8))), (8, .ref (a (2 + (o)))), (0, .ref (t)), (1, .ref (a 0)), (2, .int (x)), (3, .int (nI (w_1))), (5, .int (nI (1 + w_7))), (6, .int (nI (k))), (7, .int (nI (o)))]) dL_act_383 (by decide) rfl ?_
                refine z_aload C dL_act_385 1 rfl ?_
                refine z_bget C 0 rfl (i := o) (by omega) 6 (by decide) (v := .int (ρ 7 (o))) rfl wf_L_38 dL_act_387 ?_
                refine z_if_eq C (tgt := 417) dL_act_390 (by decide) (fun c_390 => ?_) (fun c_390 => ?_)
                · refine z_iconst C (v := nI (0)) (by decide) dL_act_417 ?_
                  refine z_istore C (L' := [(10, .int (nI (0))), (9, .int (nI (w_8))), (8, .ref (a (2 + (o)))), (0, .ref (t)), (1, .ref (a 0)), (2, .int (x)), (3, .int (nI (w_1))), (5, .int (nI (1 + w_7))), (6, .int (nI (k))), (7, .int (nI (o)))]) dL_act_418 (by decide) rfl ?_
                  refine z_iload C dL_act_420 0 rfl ?_
                  refine z_if_neN C (tgt := 434) dL_act_422 (by decide) (by omega) (fun c_422 => ?_) (fun c_422 => ?_)
                  · exact absurd c_422 (by omega)
                  · refine z_iload C dL_act_425 9 rfl ?_
                    refine z_iload_n C dL_act_427 rfl 6 rfl ?_
                    refine z_icmp_eqN C (tgt := 434) dL_act_428 (by decide) (by omega) (by omega) (fun c_428 => ?_) (fun c_428 => ?_)
                    · refine z_iconst C (v := nI (1)) (by decide) dL_act_434 ?_
                      refine z_newA C (N := 1) (t := 3) (cA := cE) wl_L_59 wa_over_I rfl (by omega) ⟨by show _ ≤ 1000; omega, by show _ ≤ 11000; omega⟩ dL_act_435 (fun q_435 => ?_)
                      refine z_eq (B' := [(smS cB a n gg ρ, zZ), (smG cE n gg ρ ee, zZ), (smP cI pp, zZ), (shT t fa ta, zZ), (shF fa cI cZ, ρ), (shF ta cI cZ, τ), ([(q_435, zQr cE (1) (fun _ => none))], zZ)]) rfl ?_
                      refine z_dup C rfl dL_act_438 ?_
                      refine z_iconst C (v := nI (0)) (by decide) dL_act_439 ?_
                      refine z_iconst C (v := nI (2)) (by decide) dL_act_440 ?_
                      refine z_newa C (atype := .int) (ty := .int) (cA := cI) 0 wa_int rfl rfl rfl (C.2.2.2.2.2.1.2 0 _ rfl).2 (by omega) (by decide) ⟨by show _ ≤ 1000; omega, by show _ ≤ 11000; omega⟩ dL_act_441 (fun q_441 => ?_)
                      refine z_eq (B' := [(smS cB a n gg ρ, zZ), (smG cE n gg ρ ee, zZ), (smP cI pp, zZ), (shT t fa ta, zZ), (shF fa cI cZ, ρ), (shF ta cI cZ, τ), ([(q_435, zQr cE (1) (fun _ => none))], zZ), ([(q_441, .inl (cI, 2))], zZ)]) rfl ?_
                      refine z_dup C rfl dL_act_443 ?_
                      refine z_iconst C (v := nI (0)) (by decide) dL_act_444 ?_
                      refine z_aload C dL_act_445 2 rfl ?_
                      refine z_bget C 0 rfl (i := o) (by omega) 2 (by decide) (v := .int (ρ 3 (o))) rfl wf_L_61 dL_act_447 ?_
                      refine z_iast C (B' := [(smS cB a n gg ρ, zZ), (smG cE n gg ρ ee, zZ), (smP cI pp, zZ), (shT t fa ta, zZ), (shF fa cI cZ, ρ), (shF ta cI cZ, τ), ([(q_435, zQr cE (1) (fun _ => none))], zZ), ([(q_441, .inl (cI, 2))], (zU zZ 0 (0) (ρ 3 (o))))]) 7 rfl 0 0 rfl rfl dL_act_450 (by omega) (by omega) rfl ?_
                      refine z_dup C rfl dL_act_451 ?_
                      refine z_iconst C (v := nI (1)) (by decide) dL_act_452 ?_
                      refine z_iload C dL_act_453 1 rfl ?_
                      refine z_iast C (B' := [(smS cB a n gg ρ, zZ), (smG cE n gg ρ ee, zZ), (smP cI pp, zZ), (shT t fa ta, zZ), (shF fa cI cZ, ρ), (shF ta cI cZ, τ), ([(q_435, zQr cE (1) (fun _ => none))], zZ), ([(q_441, .inl (cI, 2))], (zU (zU zZ 0 (0) (ρ 3 (o))) 0 (1) (nI (w_8))))]) 7 rfl 0 0 rfl rfl dL_act_455 (by omega) (by omega) rfl ?_
                      refine z_astA C (f2 := fun _ => 0) (B' := [(smS cB a n gg ρ, zZ), (smG cE n gg ρ ee, zZ), (smP cI pp, zZ), (shT t fa ta, zZ), (shF fa cI cZ, ρ), (shF ta cI cZ, τ), ([(q_435, zQr cE (1) (va_up (fun _ => none) (0) (some (q_441))))], zZ), ([(q_441, .inl (cI, 2))], (zU (zU zZ 0 (0) (ρ 3 (o))) 0 (1) (nI (w_8))))]) 6 7 rfl rfl 0 0 3 0 rfl (Or.inr rfl) rfl rfl wa_over_I dL_act_456 (by decide) (by decide) rfl ?_
                      refine z_astore C (L' := [(11, .ref (q_435)), (10, .int (nI (0))), (9, .int (nI (w_8))), (8, .ref (a (2 + (o)))), (0, .ref (t)), (1, .ref (a 0)), (2, .int (x)), (3, .int (nI (w_1))), (5, .int (nI (1 + w_7))), (6, .int (nI (k))), (7, .int (nI (o)))]) dL_act_457 (by decide) rfl ?_
                      refine z_wperm (B' := [(smS cB a n gg ρ, zZ), (smG cE n gg ρ ee, zZ), (smP cI (pp ++ [(q_441, ρ 3 (o), nI (w_8))]), zZ), (shT t fa ta, zZ), (shF fa cI cZ, ρ), (shF ta cI cZ, τ), ([(q_435, zQr cE (1) (va_up (fun _ => none) (0) (some (q_441))))], zZ)]) (pool_add _ _ _ _ _ _ cI pp q_441 (ρ 3 (o)) (nI (w_8))) ?_
                      refine z_aload_n C dL_act_459 rfl 4 rfl ?_
                      refine z_iload C dL_act_460 10 rfl ?_
                      refine z_iload C dL_act_462 2 rfl ?_
                      refine z_catchV C [false, false, false, true, true, true, false] rfl rfl (c_X2_write_b3 l hlt D cI cZ cB cE t fa ta ρ τ n hAρ.iv (o) (w_8) (by omega) (by omega) (lead_no (Or.inl c_390))) wq_yX2_write wm_L_64 ⟨wn_yX2_write, wo_yX2_write⟩ ⟨rfl, rfl, Nat.le_of_ble_eq_true rfl, Nat.le_of_ble_eq_true rfl⟩ 3 rfl 0 rfl rfl rfl rfl (Nat.le_of_ble_eq_true rfl) dL_act_464 ⟨by show _ ≤ 1000; omega, by show _ ≤ 11000; omega⟩ [] ⟨459, 486, 504, 71⟩ [⟨487, 501, 504, 71⟩] (htab.trans rfl) (fun z hz => nomatch hz) (by decide) (by decide) wl_L_71 wt_IllegalStateException (fun q9 => ?_)
                      refine z_astore C (L' := [(12, .ref (q9)), (11, .ref (q_435)), (10, .int (nI (0))), (9, .int (nI (w_8))), (8, .ref (a (2 + (o)))), (0, .ref (t)), (1, .ref (a 0)), (2, .int (x)), (3, .int (nI (w_1))), (5, .int (nI (1 + w_7))), (6, .int (nI (k))), (7, .int (nI (o)))]) dL_act_504 (by decide) rfl ?_
                      refine z_iload C dL_act_506 2 rfl ?_
                      refine z_if_eqN C (tgt := 513) dL_act_508 (by decide) (by omega) (fun c_508 => ?_) (fun c_508 => ?_)
                      · refine z_drop (B' := [(smS cB a n gg ρ, zZ), (smG cE n gg ρ ee, zZ), (smP cI (pp ++ [(q_441, ρ 3 (o), nI (w_8))]), zZ), (shT t fa ta, zZ), (shF fa cI cZ, ρ), (shF ta cI cZ, τ)]) (X := zW [([(q_435, zQr cE (1) (va_up (fun _ => none) (0) (some (q_441))))], zZ)]) (by rw [← zW_app]; exact List.Perm.refl _) ?_
                        refine z_iinc C (L' := [(7, .int (nI (o + 1))), (12, .ref (q9)), (11, .ref (q_435)), (10, .int (nI (0))), (9, .int (nI (w_8))), (8, .ref (a (2 + (o)))), (0, .ref (t)), (1, .ref (a 0)), (2, .int (x)), (3, .int (nI (w_1))), (5, .int (nI (1 + w_7))), (6, .int (nI (k)))]) dL_act_513 11 rfl (z_inc1 _) (by decide) rfl ?_
                        refine z_goto C (tgt := 344) dL_act_516 (by decide) ?_
                        refine z_sub (L' := [(0, .ref (t)), (1, .ref (a 0)), (2, .int (x)), (3, .int (nI (w_1))), (5, .int (nI (1 + w_7))), (6, .int (nI (k))), (7, .int (nI (o + 1)))]) [6, 7, 8, 9, 10, 11, 0] rfl ?_
                        exact ih_344 (o + 1) ρ gg ee (pp ++ [(q_441, ρ 3 (o), nI (w_8))]) (((cc + 1) + 1) + 1) (((ss + 1) + 2) + 6) (by omega) (by omega) (hAρ) (smK_more hkρ [(q_441, ρ 3 (o), nI (w_8))]) (by omega) (by omega)
                      · exact absurd c_508 (by omega)
                    · refine z_goto C (tgt := 513) dL_act_431 (by decide) ?_
                      refine z_iinc C (L' := [(7, .int (nI (o + 1))), (10, .int (nI (0))), (9, .int (nI (w_8))), (8, .ref (a (2 + (o)))), (0, .ref (t)), (1, .ref (a 0)), (2, .int (x)), (3, .int (nI (w_1))), (5, .int (nI (1 + w_7))), (6, .int (nI (k)))]) dL_act_513 9 rfl (z_inc1 _) (by decide) rfl ?_
                      refine z_goto C (tgt := 344) dL_act_516 (by decide) ?_
                      refine z_sub (L' := [(0, .ref (t)), (1, .ref (a 0)), (2, .int (x)), (3, .int (nI (w_1))), (5, .int (nI (1 + w_7))), (6, .int (nI (k))), (7, .int (nI (o + 1)))]) [4, 5, 6, 7, 8, 9, 0] rfl ?_
                      exact ih_344 (o + 1) ρ gg ee pp cc ss (by omega) (by omega) (hAρ) hkρ (by omega) (by omega)
                · refine z_aload C dL_act_393 1 rfl ?_
                  refine z_bget C 0 rfl (i := o) (by omega) 4 (by decide) (v := .int (ρ 5 (o))) rfl wf_L_42 dL_act_395 ?_
                  refine z_iconst C (v := nI (2)) (by decide) dL_act_398 ?_
                  refine z_icmp_ne C (tgt := 417) dL_act_399 (by decide) (fun c_399 => ?_) (fun c_399 => ?_)
                  · refine z_iconst C (v := nI (0)) (by decide) dL_act_417 ?_
                    refine z_istore C (L' := [(10, .int (nI (0))), (9, .int (nI (w_8))), (8, .ref (a (2 + (o)))), (0, .ref (t)), (1, .ref (a 0)), (2, .int (x)), (3, .int (nI (w_1))), (5, .int (nI (1 + w_7))), (6, .int (nI (k))), (7, .int (nI (o)))]) dL_act_418 (by decide) rfl ?_
                    refine z_iload C dL_act_420 0 rfl ?_
                    refine z_if_neN C (tgt := 434) dL_act_422 (by decide) (by omega) (fun c_422 => ?_) (fun c_422 => ?_)
                    · exact absurd c_422 (by omega)
                    · refine z_iload C dL_act_425 9 rfl ?_
                      refine z_iload_n C dL_act_427 rfl 6 rfl ?_
                      refine z_icmp_eqN C (tgt := 434) dL_act_428 (by decide) (by omega) (by omega) (fun c_428 => ?_) (fun c_428 => ?_)
                      · refine z_iconst C (v := nI (1)) (by decide) dL_act_434 ?_
                        refine z_newA C (N := 1) (t := 3) (cA := cE) wl_L_59 wa_over_I rfl (by omega) ⟨by show _ ≤ 1000; omega, by show _ ≤ 11000; omega⟩ dL_act_435 (fun q_435 => ?_)
                        refine z_eq (B' := [(smS cB a n gg ρ, zZ), (smG cE n gg ρ ee, zZ), (smP cI pp, zZ), (shT t fa ta, zZ), (shF fa cI cZ, ρ), (shF ta cI cZ, τ), ([(q_435, zQr cE (1) (fun _ => none))], zZ)]) rfl ?_
                        refine z_dup C rfl dL_act_438 ?_
                        refine z_iconst C (v := nI (0)) (by decide) dL_act_439 ?_
                        refine z_iconst C (v := nI (2)) (by decide) dL_act_440 ?_
                        refine z_newa C (atype := .int) (ty := .int) (cA := cI) 0 wa_int rfl rfl rfl (C.2.2.2.2.2.1.2 0 _ rfl).2 (by omega) (by decide) ⟨by show _ ≤ 1000; omega, by show _ ≤ 11000; omega⟩ dL_act_441 (fun q_441 => ?_)
                        refine z_eq (B' := [(smS cB a n gg ρ, zZ), (smG cE n gg ρ ee, zZ), (smP cI pp, zZ), (shT t fa ta, zZ), (shF fa cI cZ, ρ), (shF ta cI cZ, τ), ([(q_435, zQr cE (1) (fun _ => none))], zZ), ([(q_441, .inl (cI, 2))], zZ)]) rfl ?_
                        refine z_dup C rfl dL_act_443 ?_
                        refine z_iconst C (v := nI (0)) (by decide) dL_act_444 ?_
                        refine z_aload C dL_act_445 2 rfl ?_
                        refine z_bget C 0 rfl (i := o) (by omega) 2 (by decide) (v := .int (ρ 3 (o))) rfl wf_L_61 dL_act_447 ?_
                        refine z_iast C (B' := [(smS cB a n gg ρ, zZ), (smG cE n gg ρ ee, zZ), (smP cI pp, zZ), (shT t fa ta, zZ), (shF fa cI cZ, ρ), (shF ta cI cZ, τ), ([(q_435, zQr cE (1) (fun _ => none))], zZ), ([(q_441, .inl (cI, 2))], (zU zZ 0 (0) (ρ 3 (o))))]) 7 rfl 0 0 rfl rfl dL_act_450 (by omega) (by omega) rfl ?_
                        refine z_dup C rfl dL_act_451 ?_
                        refine z_iconst C (v := nI (1)) (by decide) dL_act_452 ?_
                        refine z_iload C dL_act_453 1 rfl ?_
                        refine z_iast C (B' := [(smS cB a n gg ρ, zZ), (smG cE n gg ρ ee, zZ), (smP cI pp, zZ), (shT t fa ta, zZ), (shF fa cI cZ, ρ), (shF ta cI cZ, τ), ([(q_435, zQr cE (1) (fun _ => none))], zZ), ([(q_441, .inl (cI, 2))], (zU (zU zZ 0 (0) (ρ 3 (o))) 0 (1) (nI (w_8))))]) 7 rfl 0 0 rfl rfl dL_act_455 (by omega) (by omega) rfl ?_
                        refine z_astA C (f2 := fun _ => 0) (B' := [(smS cB a n gg ρ, zZ), (smG cE n gg ρ ee, zZ), (smP cI pp, zZ), (shT t fa ta, zZ), (shF fa cI cZ, ρ), (shF ta cI cZ, τ), ([(q_435, zQr cE (1) (va_up (fun _ => none) (0) (some (q_441))))], zZ), ([(q_441, .inl (cI, 2))], (zU (zU zZ 0 (0) (ρ 3 (o))) 0 (1) (nI (w_8))))]) 6 7 rfl rfl 0 0 3 0 rfl (Or.inr rfl) rfl rfl wa_over_I dL_act_456 (by decide) (by decide) rfl ?_
                        refine z_astore C (L' := [(11, .ref (q_435)), (10, .int (nI (0))), (9, .int (nI (w_8))), (8, .ref (a (2 + (o)))), (0, .ref (t)), (1, .ref (a 0)), (2, .int (x)), (3, .int (nI (w_1))), (5, .int (nI (1 + w_7))), (6, .int (nI (k))), (7, .int (nI (o)))]) dL_act_457 (by decide) rfl ?_
                        refine z_wperm (B' := [(smS cB a n gg ρ, zZ), (smG cE n gg ρ ee, zZ), (smP cI (pp ++ [(q_441, ρ 3 (o), nI (w_8))]), zZ), (shT t fa ta, zZ), (shF fa cI cZ, ρ), (shF ta cI cZ, τ), ([(q_435, zQr cE (1) (va_up (fun _ => none) (0) (some (q_441))))], zZ)]) (pool_add _ _ _ _ _ _ cI pp q_441 (ρ 3 (o)) (nI (w_8))) ?_
                        refine z_aload_n C dL_act_459 rfl 4 rfl ?_
                        refine z_iload C dL_act_460 10 rfl ?_
                        refine z_iload C dL_act_462 2 rfl ?_
                        refine z_catchV C [false, false, false, true, true, true, false] rfl rfl (c_X2_write_b3 l hlt D cI cZ cB cE t fa ta ρ τ n hAρ.iv (o) (w_8) (by omega) (by omega) (lead_no (Or.inr c_399))) wq_yX2_write wm_L_64 ⟨wn_yX2_write, wo_yX2_write⟩ ⟨rfl, rfl, Nat.le_of_ble_eq_true rfl, Nat.le_of_ble_eq_true rfl⟩ 3 rfl 0 rfl rfl rfl rfl (Nat.le_of_ble_eq_true rfl) dL_act_464 ⟨by show _ ≤ 1000; omega, by show _ ≤ 11000; omega⟩ [] ⟨459, 486, 504, 71⟩ [⟨487, 501, 504, 71⟩] (htab.trans rfl) (fun z hz => nomatch hz) (by decide) (by decide) wl_L_71 wt_IllegalStateException (fun q9 => ?_)
                        refine z_astore C (L' := [(12, .ref (q9)), (11, .ref (q_435)), (10, .int (nI (0))), (9, .int (nI (w_8))), (8, .ref (a (2 + (o)))), (0, .ref (t)), (1, .ref (a 0)), (2, .int (x)), (3, .int (nI (w_1))), (5, .int (nI (1 + w_7))), (6, .int (nI (k))), (7, .int (nI (o)))]) dL_act_504 (by decide) rfl ?_
                        refine z_iload C dL_act_506 2 rfl ?_
                        refine z_if_eqN C (tgt := 513) dL_act_508 (by decide) (by omega) (fun c_508 => ?_) (fun c_508 => ?_)
                        · refine z_drop (B' := [(smS cB a n gg ρ, zZ), (smG cE n gg ρ ee, zZ), (smP cI (pp ++ [(q_441, ρ 3 (o), nI (w_8))]), zZ), (shT t fa ta, zZ), (shF fa cI cZ, ρ), (shF ta cI cZ, τ)]) (X := zW [([(q_435, zQr cE (1) (va_up (fun _ => none) (0) (some (q_441))))], zZ)]) (by rw [← zW_app]; exact List.Perm.refl _) ?_
                          refine z_iinc C (L' := [(7, .int (nI (o + 1))), (12, .ref (q9)), (11, .ref (q_435)), (10, .int (nI (0))), (9, .int (nI (w_8))), (8, .ref (a (2 + (o)))), (0, .ref (t)), (1, .ref (a 0)), (2, .int (x)), (3, .int (nI (w_1))), (5, .int (nI (1 + w_7))), (6, .int (nI (k)))]) dL_act_513 11 rfl (z_inc1 _) (by decide) rfl ?_
                          refine z_goto C (tgt := 344) dL_act_516 (by decide) ?_
                          refine z_sub (L' := [(0, .ref (t)), (1, .ref (a 0)), (2, .int (x)), (3, .int (nI (w_1))), (5, .int (nI (1 + w_7))), (6, .int (nI (k))), (7, .int (nI (o + 1)))]) [6, 7, 8, 9, 10, 11, 0] rfl ?_
                          exact ih_344 (o + 1) ρ gg ee (pp ++ [(q_441, ρ 3 (o), nI (w_8))]) (((cc + 1) + 1) + 1) (((ss + 1) + 2) + 6) (by omega) (by omega) (hAρ) (smK_more hkρ [(q_441, ρ 3 (o), nI (w_8))]) (by omega) (by omega)
                        · exact absurd c_508 (by omega)
                      · refine z_goto C (tgt := 513) dL_act_431 (by decide) ?_
                        refine z_iinc C (L' := [(7, .int (nI (o + 1))), (10, .int (nI (0))), (9, .int (nI (w_8))), (8, .ref (a (2 + (o)))), (0, .ref (t)), (1, .ref (a 0)), (2, .int (x)), (3, .int (nI (w_1))), (5, .int (nI (1 + w_7))), (6, .int (nI (k)))]) dL_act_513 9 rfl (z_inc1 _) (by decide) rfl ?_
                        refine z_goto C (tgt := 344) dL_act_516 (by decide) ?_
                        refine z_sub (L' := [(0, .ref (t)), (1, .ref (a 0)), (2, .int (x)), (3, .int (nI (w_1))), (5, .int (nI (1 + w_7))), (6, .int (nI (k))), (7, .int (nI (o + 1)))]) [4, 5, 6, 7, 8, 9, 0] rfl ?_
                        exact ih_344 (o + 1) ρ gg ee pp cc ss (by omega) (by omega) (hAρ) hkρ (by omega) (by omega)
                  · refine z_aload C dL_act_402 1 rfl ?_
                    refine z_bget C 0 rfl (i := o) (by omega) 8 (by decide) (v := .ref (gg (o))) rfl wf_L_55 dL_act_404 ?_
                    refine z_alenG C 1 rfl (i := o) (by omega) dL_act_407 ?_
                    have hl_9 := hAρ.iv.lnT (i := o) (by omega)
                    refine z_bipush C (v := nI (10)) (by decide) dL_act_408 ?_
                    refine z_icmp_geN C (tgt := 417) dL_act_410 (by decide) (by omega) (by omega) (fun c_410 => ?_) (fun c_410 => ?_)
                    · refine z_iconst C (v := nI (0)) (by decide) dL_act_417 ?_
                      refine z_istore C (L' := [(10, .int (nI (0))), (9, .int (nI (w_8))), (8, .ref (a (2 + (o)))), (0, .ref (t)), (1, .ref (a 0)), (2, .int (x)), (3, .int (nI (w_1))), (5, .int (nI (1 + w_7))), (6, .int (nI (k))), (7, .int (nI (o)))]) dL_act_418 (by decide) rfl ?_
                      refine z_iload C dL_act_420 0 rfl ?_
                      refine z_if_neN C (tgt := 434) dL_act_422 (by decide) (by omega) (fun c_422 => ?_) (fun c_422 => ?_)
                      · exact absurd c_422 (by omega)
                      · refine z_iload C dL_act_425 9 rfl ?_
                        refine z_iload_n C dL_act_427 rfl 6 rfl ?_
                        refine z_icmp_eqN C (tgt := 434) dL_act_428 (by decide) (by omega) (by omega) (fun c_428 => ?_) (fun c_428 => ?_)
                        · refine z_iconst C (v := nI (1)) (by decide) dL_act_434 ?_
                          refine z_newA C (N := 1) (t := 3) (cA := cE) wl_L_59 wa_over_I rfl (by omega) ⟨by show _ ≤ 1000; omega, by show _ ≤ 11000; omega⟩ dL_act_435 (fun q_435 => ?_)
                          refine z_eq (B' := [(smS cB a n gg ρ, zZ), (smG cE n gg ρ ee, zZ), (smP cI pp, zZ), (shT t fa ta, zZ), (shF fa cI cZ, ρ), (shF ta cI cZ, τ), ([(q_435, zQr cE (1) (fun _ => none))], zZ)]) rfl ?_
                          refine z_dup C rfl dL_act_438 ?_
                          refine z_iconst C (v := nI (0)) (by decide) dL_act_439 ?_
                          refine z_iconst C (v := nI (2)) (by decide) dL_act_440 ?_
                          refine z_newa C (atype := .int) (ty := .int) (cA := cI) 0 wa_int rfl rfl rfl (C.2.2.2.2.2.1.2 0 _ rfl).2 (by omega) (by decide) ⟨by show _ ≤ 1000; omega, by show _ ≤ 11000; omega⟩ dL_act_441 (fun q_441 => ?_)
                          refine z_eq (B' := [(smS cB a n gg ρ, zZ), (smG cE n gg ρ ee, zZ), (smP cI pp, zZ), (shT t fa ta, zZ), (shF fa cI cZ, ρ), (shF ta cI cZ, τ), ([(q_435, zQr cE (1) (fun _ => none))], zZ), ([(q_441, .inl (cI, 2))], zZ)]) rfl ?_
                          refine z_dup C rfl dL_act_443 ?_
                          refine z_iconst C (v := nI (0)) (by decide) dL_act_444 ?_
                          refine z_aload C dL_act_445 2 rfl ?_
                          refine z_bget C 0 rfl (i := o) (by omega) 2 (by decide) (v := .int (ρ 3 (o))) rfl wf_L_61 dL_act_447 ?_
                          refine z_iast C (B' := [(smS cB a n gg ρ, zZ), (smG cE n gg ρ ee, zZ), (smP cI pp, zZ), (shT t fa ta, zZ), (shF fa cI cZ, ρ), (shF ta cI cZ, τ), ([(q_435, zQr cE (1) (fun _ => none))], zZ), ([(q_441, .inl (cI, 2))], (zU zZ 0 (0) (ρ 3 (o))))]) 7 rfl 0 0 rfl rfl dL_act_450 (by omega) (by omega) rfl ?_
                          refine z_dup C rfl dL_act_451 ?_
                          refine z_iconst C (v := nI (1)) (by decide) dL_act_452 ?_
                          refine z_iload C dL_act_453 1 rfl ?_
                          refine z_iast C (B' := [(smS cB a n gg ρ, zZ), (smG cE n gg ρ ee, zZ), (smP cI pp, zZ), (shT t fa ta, zZ), (shF fa cI cZ, ρ), (shF ta cI cZ, τ), ([(q_435, zQr cE (1) (fun _ => none))], zZ), ([(q_441, .inl (cI, 2))], (zU (zU zZ 0 (0) (ρ 3 (o))) 0 (1) (nI (w_8))))]) 7 rfl 0 0 rfl rfl dL_act_455 (by omega) (by omega) rfl ?_
                          refine z_astA C (f2 := fun _ => 0) (B' := [(smS cB a n gg ρ, zZ), (smG cE n gg ρ ee, zZ), (smP cI pp, zZ), (shT t fa ta, zZ), (shF fa cI cZ, ρ), (shF ta cI cZ, τ), ([(q_435, zQr cE (1) (va_up (fun _ => none) (0) (some (q_441))))], zZ), ([(q_441, .inl (cI, 2))], (zU (zU zZ 0 (0) (ρ 3 (o))) 0 (1) (nI (w_8))))]) 6 7 rfl rfl 0 0 3 0 rfl (Or.inr rfl) rfl rfl wa_over_I dL_act_456 (by decide) (by decide) rfl ?_
                          refine z_astore C (L' := [(11, .ref (q_435)), (10, .int (nI (0))), (9, .int (nI (w_8))), (8, .ref (a (2 + (o)))), (0, .ref (t)), (1, .ref (a 0)), (2, .int (x)), (3, .int (nI (w_1))), (5, .int (nI (1 + w_7))), (6, .int (nI (k))), (7, .int (nI (o)))]) dL_act_457 (by decide) rfl ?_
                          refine z_wperm (B' := [(smS cB a n gg ρ, zZ), (smG cE n gg ρ ee, zZ), (smP cI (pp ++ [(q_441, ρ 3 (o), nI (w_8))]), zZ), (shT t fa ta, zZ), (shF fa cI cZ, ρ), (shF ta cI cZ, τ), ([(q_435, zQr cE (1) (va_up (fun _ => none) (0) (some (q_441))))], zZ)]) (pool_add _ _ _ _ _ _ cI pp q_441 (ρ 3 (o)) (nI (w_8))) ?_
                          refine z_aload_n C dL_act_459 rfl 4 rfl ?_
                          refine z_iload C dL_act_460 10 rfl ?_
                          refine z_iload C dL_act_462 2 rfl ?_
                          refine z_catchV C [false, false, false, true, true, true, false] rfl rfl (c_X2_write_b4 l hlt D cI cZ cB cE t fa ta ρ τ n hAρ.iv (o) (w_8) (by omega) (by omega) (lead_iff.mpr ⟨c_390, c_399⟩) (by omega)) wq_yX2_write wm_L_64 ⟨wn_yX2_write, wo_yX2_write⟩ ⟨rfl, rfl, Nat.le_of_ble_eq_true rfl, Nat.le_of_ble_eq_true rfl⟩ 3 rfl 0 rfl rfl rfl rfl (Nat.le_of_ble_eq_true rfl) dL_act_464 ⟨by show _ ≤ 1000; omega, by show _ ≤ 11000; omega⟩ [] ⟨459, 486, 504, 71⟩ [⟨487, 501, 504, 71⟩] (htab.trans rfl) (fun z hz => nomatch hz) (by decide) (by decide) wl_L_71 wt_IllegalStateException (fun q9 => ?_)
                          refine z_astore C (L' := [(12, .ref (q9)), (11, .ref (q_435)), (10, .int (nI (0))), (9, .int (nI (w_8))), (8, .ref (a (2 + (o)))), (0, .ref (t)), (1, .ref (a 0)), (2, .int (x)), (3, .int (nI (w_1))), (5, .int (nI (1 + w_7))), (6, .int (nI (k))), (7, .int (nI (o)))]) dL_act_504 (by decide) rfl ?_
                          refine z_iload C dL_act_506 2 rfl ?_
                          refine z_if_eqN C (tgt := 513) dL_act_508 (by decide) (by omega) (fun c_508 => ?_) (fun c_508 => ?_)
                          · refine z_drop (B' := [(smS cB a n gg ρ, zZ), (smG cE n gg ρ ee, zZ), (smP cI (pp ++ [(q_441, ρ 3 (o), nI (w_8))]), zZ), (shT t fa ta, zZ), (shF fa cI cZ, ρ), (shF ta cI cZ, τ)]) (X := zW [([(q_435, zQr cE (1) (va_up (fun _ => none) (0) (some (q_441))))], zZ)]) (by rw [← zW_app]; exact List.Perm.refl _) ?_
                            refine z_iinc C (L' := [(7, .int (nI (o + 1))), (12, .ref (q9)), (11, .ref (q_435)), (10, .int (nI (0))), (9, .int (nI (w_8))), (8, .ref (a (2 + (o)))), (0, .ref (t)), (1, .ref (a 0)), (2, .int (x)), (3, .int (nI (w_1))), (5, .int (nI (1 + w_7))), (6, .int (nI (k)))]) dL_act_513 11 rfl (z_inc1 _) (by decide) rfl ?_
                            refine z_goto C (tgt := 344) dL_act_516 (by decide) ?_
                            refine z_sub (L' := [(0, .ref (t)), (1, .ref (a 0)), (2, .int (x)), (3, .int (nI (w_1))), (5, .int (nI (1 + w_7))), (6, .int (nI (k))), (7, .int (nI (o + 1)))]) [6, 7, 8, 9, 10, 11, 0] rfl ?_
                            exact ih_344 (o + 1) ρ gg ee (pp ++ [(q_441, ρ 3 (o), nI (w_8))]) (((cc + 1) + 1) + 1) (((ss + 1) + 2) + 6) (by omega) (by omega) (hAρ) (smK_more hkρ [(q_441, ρ 3 (o), nI (w_8))]) (by omega) (by omega)
                          · exact absurd c_508 (by omega)
                        · refine z_goto C (tgt := 513) dL_act_431 (by decide) ?_
                          refine z_iinc C (L' := [(7, .int (nI (o + 1))), (10, .int (nI (0))), (9, .int (nI (w_8))), (8, .ref (a (2 + (o)))), (0, .ref (t)), (1, .ref (a 0)), (2, .int (x)), (3, .int (nI (w_1))), (5, .int (nI (1 + w_7))), (6, .int (nI (k)))]) dL_act_513 9 rfl (z_inc1 _) (by decide) rfl ?_
                          refine z_goto C (tgt := 344) dL_act_516 (by decide) ?_
                          refine z_sub (L' := [(0, .ref (t)), (1, .ref (a 0)), (2, .int (x)), (3, .int (nI (w_1))), (5, .int (nI (1 + w_7))), (6, .int (nI (k))), (7, .int (nI (o + 1)))]) [4, 5, 6, 7, 8, 9, 0] rfl ?_
                          exact ih_344 (o + 1) ρ gg ee pp cc ss (by omega) (by omega) (hAρ) hkρ (by omega) (by omega)
                    · refine z_iconst C (v := nI (1)) (by decide) dL_act_413 ?_
                      refine z_goto C (tgt := 418) dL_act_414 (by decide) ?_
                      refine z_istore C (L' := [(10, .int (nI (1))), (9, .int (nI (w_8))), (8, .ref (a (2 + (o)))), (0, .ref (t)), (1, .ref (a 0)), (2, .int (x)), (3, .int (nI (w_1))), (5, .int (nI (1 + w_7))), (6, .int (nI (k))), (7, .int (nI (o)))]) dL_act_418 (by decide) rfl ?_
                      refine z_iload C dL_act_420 0 rfl ?_
                      refine z_if_neN C (tgt := 434) dL_act_422 (by decide) (by omega) (fun c_422 => ?_) (fun c_422 => ?_)
                      · refine z_iconst C (v := nI (1)) (by decide) dL_act_434 ?_
                        refine z_newA C (N := 1) (t := 3) (cA := cE) wl_L_59 wa_over_I rfl (by omega) ⟨by show _ ≤ 1000; omega, by show _ ≤ 11000; omega⟩ dL_act_435 (fun q_435 => ?_)
                        refine z_eq (B' := [(smS cB a n gg ρ, zZ), (smG cE n gg ρ ee, zZ), (smP cI pp, zZ), (shT t fa ta, zZ), (shF fa cI cZ, ρ), (shF ta cI cZ, τ), ([(q_435, zQr cE (1) (fun _ => none))], zZ)]) rfl ?_
                        refine z_dup C rfl dL_act_438 ?_
                        refine z_iconst C (v := nI (0)) (by decide) dL_act_439 ?_
                        refine z_iconst C (v := nI (2)) (by decide) dL_act_440 ?_
                        refine z_newa C (atype := .int) (ty := .int) (cA := cI) 0 wa_int rfl rfl rfl (C.2.2.2.2.2.1.2 0 _ rfl).2 (by omega) (by decide) ⟨by show _ ≤ 1000; omega, by show _ ≤ 11000; omega⟩ dL_act_441 (fun q_441 => ?_)
                        refine z_eq (B' := [(smS cB a n gg ρ, zZ), (smG cE n gg ρ ee, zZ), (smP cI pp, zZ), (shT t fa ta, zZ), (shF fa cI cZ, ρ), (shF ta cI cZ, τ), ([(q_435, zQr cE (1) (fun _ => none))], zZ), ([(q_441, .inl (cI, 2))], zZ)]) rfl ?_
                        refine z_dup C rfl dL_act_443 ?_
                        refine z_iconst C (v := nI (0)) (by decide) dL_act_444 ?_
                        refine z_aload C dL_act_445 2 rfl ?_
                        refine z_bget C 0 rfl (i := o) (by omega) 2 (by decide) (v := .int (ρ 3 (o))) rfl wf_L_61 dL_act_447 ?_
                        refine z_iast C (B' := [(smS cB a n gg ρ, zZ), (smG cE n gg ρ ee, zZ), (smP cI pp, zZ), (shT t fa ta, zZ), (shF fa cI cZ, ρ), (shF ta cI cZ, τ), ([(q_435, zQr cE (1) (fun _ => none))], zZ), ([(q_441, .inl (cI, 2))], (zU zZ 0 (0) (ρ 3 (o))))]) 7 rfl 0 0 rfl rfl dL_act_450 (by omega) (by omega) rfl ?_
                        refine z_dup C rfl dL_act_451 ?_
                        refine z_iconst C (v := nI (1)) (by decide) dL_act_452 ?_
                        refine z_iload C dL_act_453 1 rfl ?_
                        refine z_iast C (B' := [(smS cB a n gg ρ, zZ), (smG cE n gg ρ ee, zZ), (smP cI pp, zZ), (shT t fa ta, zZ), (shF fa cI cZ, ρ), (shF ta cI cZ, τ), ([(q_435, zQr cE (1) (fun _ => none))], zZ), ([(q_441, .inl (cI, 2))], (zU (zU zZ 0 (0) (ρ 3 (o))) 0 (1) (nI (w_8))))]) 7 rfl 0 0 rfl rfl dL_act_455 (by omega) (by omega) rfl ?_
                        refine z_astA C (f2 := fun _ => 0) (B' := [(smS cB a n gg ρ, zZ), (smG cE n gg ρ ee, zZ), (smP cI pp, zZ), (shT t fa ta, zZ), (shF fa cI cZ, ρ), (shF ta cI cZ, τ), ([(q_435, zQr cE (1) (va_up (fun _ => none) (0) (some (q_441))))], zZ), ([(q_441, .inl (cI, 2))], (zU (zU zZ 0 (0) (ρ 3 (o))) 0 (1) (nI (w_8))))]) 6 7 rfl rfl 0 0 3 0 rfl (Or.inr rfl) rfl rfl wa_over_I dL_act_456 (by decide) (by decide) rfl ?_
                        refine z_astore C (L' := [(11, .ref (q_435)), (10, .int (nI (1))), (9, .int (nI (w_8))), (8, .ref (a (2 + (o)))), (0, .ref (t)), (1, .ref (a 0)), (2, .int (x)), (3, .int (nI (w_1))), (5, .int (nI (1 + w_7))), (6, .int (nI (k))), (7, .int (nI (o)))]) dL_act_457 (by decide) rfl ?_
                        refine z_wperm (B' := [(smS cB a n gg ρ, zZ), (smG cE n gg ρ ee, zZ), (smP cI (pp ++ [(q_441, ρ 3 (o), nI (w_8))]), zZ), (shT t fa ta, zZ), (shF fa cI cZ, ρ), (shF ta cI cZ, τ), ([(q_435, zQr cE (1) (va_up (fun _ => none) (0) (some (q_441))))], zZ)]) (pool_add _ _ _ _ _ _ cI pp q_441 (ρ 3 (o)) (nI (w_8))) ?_
                        refine z_aload_n C dL_act_459 rfl 4 rfl ?_
                        refine z_iload C dL_act_460 10 rfl ?_
                        refine z_iload C dL_act_462 2 rfl ?_
                        refine z_cV C (st' := [.int (nI (fl_ln ρ (o)))]) (B' := [(smS cB a n gg ρ, zZ), (smG cE n gg ρ ee, zZ), (smP cI (pp ++ [(q_441, ρ 3 (o), nI (w_8))]), zZ), (shT t fa ta, zZ), (shF fa cI cZ, (fl_app ρ o (ρ 3 o) (nI w_8))), (shF ta cI cZ, τ), ([(q_435, zQr cE (1) (va_up (fun _ => none) (0) (some (q_441))))], zZ)]) [false, false, false, true, true, true, false] rfl (c_X2_write l D cI cZ cB cE t fa ta ρ τ n hAρ.iv (o) (w_8) (by omega) (by omega) (lead_iff.mpr ⟨c_390, c_399⟩) (by omega)) wq_yX2_write wm_L_64 ⟨wn_yX2_write, wo_yX2_write⟩ ⟨rfl, rfl, Nat.le_of_ble_eq_true rfl, Nat.le_of_ble_eq_true rfl⟩ 3 rfl 0 rfl rfl rfl rfl (Nat.le_of_ble_eq_true rfl) dL_act_464 ⟨(by show _ ≤ 1000; omega), (by show _ ≤ 11000; omega)⟩ rfl rfl ?_
                        refine z_istore C (L' := [(12, .int (nI (fl_ln ρ (o)))), (11, .ref (q_435)), (10, .int (nI (1))), (9, .int (nI (w_8))), (8, .ref (a (2 + (o)))), (0, .ref (t)), (1, .ref (a 0)), (2, .int (x)), (3, .int (nI (w_1))), (5, .int (nI (1 + w_7))), (6, .int (nI (k))), (7, .int (nI (o)))]) dL_act_467 (by decide) rfl ?_
                        refine z_iload C dL_act_469 2 rfl ?_
                        refine z_if_eqN C (tgt := 485) dL_act_471 (by decide) (by omega) (fun c_471 => ?_) (fun c_471 => ?_)
                        · exact absurd c_471 (by omega)
                        · refine z_iload C dL_act_474 0 rfl ?_
                          refine z_aload C dL_act_476 4 rfl ?_
                          refine z_bget C 0 rfl (i := o) (by omega) 8 (by decide) (v := .ref (gg (o))) rfl wf_L_55 dL_act_478 ?_
                          refine z_alenG C 1 rfl (i := o) (by omega) dL_act_481 ?_
                          have hl_10 := hAρ.iv.lnT (i := o) (by omega)
                          refine z_icmp_eqN C (tgt := 487) dL_act_482 (by decide) (by omega) (by omega) (fun c_482 => ?_) (fun c_482 => ?_)
                          · refine z_aload C dL_act_487 4 rfl ?_
                            refine z_aload C dL_act_489 4 rfl ?_
                            refine z_bget C 0 rfl (i := o) (by omega) 8 (by decide) (v := .ref (gg (o))) rfl wf_L_55 dL_act_491 ?_
                            refine z_alenG C 1 rfl (i := o) (by omega) dL_act_494 ?_
                            have hl_11 := hAρ.iv.lnT (i := o) (by omega)
                            refine z_aload C dL_act_495 1 rfl ?_
                            refine z_iconst C (v := nI (0)) (by decide) dL_act_497 ?_
                            refine z_callVR C [true, true, true, false, false, false, true] rfl (c_X3_new l D cI cZ cB cE n a gg ρ ee (pp ++ [(q_441, ρ 3 (o), nI (w_8))]) hAρ.iv (smK_more hkρ [(q_441, ρ 3 (o), nI (w_8))]) (o) (fl_ln ρ (o)) q_435 q_441 (va_up (fun _ => none) (0) (some (q_441))) (ρ 3 (o)) (nI (w_8)) (by omega) rfl (by omega) (va_up_self _ _ _) (List.mem_append_right _ List.mem_cons_self)) wq_yX3_relog wm_L_67 ⟨wn_yX3_relog, wo_yX3_relog⟩ ⟨rfl, rfl, Nat.le_of_ble_eq_true rfl, Nat.le_of_ble_eq_true rfl⟩ 0 rfl (2 + (o)) (smS_b (by omega)) rfl rfl rfl (Nat.le_of_ble_eq_true rfl) dL_act_498 ⟨by show _ ≤ 1000; omega, by show _ ≤ 11000; omega⟩ ?_
                            rintro r9 w9 ⟨rfl, q_12, rfl⟩
                            have hk_12 : smK n (fl_app ρ (o) (ρ 3 (o)) (nI (w_8))) (va_up ee (o) (va_up (ee (o)) (fl_ln ρ (o)) q_441)) (pp ++ [(q_441, ρ 3 (o), nI (w_8))]) := smK_app hAρ.iv (smK_more hkρ [(q_441, ρ 3 (o), nI (w_8))]) (by omega) (by omega) (List.mem_append_right _ List.mem_cons_self)
                            refine z_eq (B' := [(smS cB a n (va_up gg (o) q_12) ((fl_app ρ (o) (ρ 3 (o)) (nI (w_8)))), zZ), (smG cE n (va_up gg (o) q_12) ((fl_app ρ (o) (ρ 3 (o)) (nI (w_8)))) (va_up ee (o) (va_up (ee (o)) (fl_ln ρ (o)) q_441)), zZ), (smP cI (pp ++ [(q_441, ρ 3 (o), nI (w_8))]), zZ), (shT t fa ta, zZ), (shF fa cI cZ, (fl_app ρ o (ρ 3 o) (nI w_8))), (shF ta cI cZ, τ), ([(q_435, zQr cE (1) (va_up (fun _ => none) (0) (some (q_441))))], zZ)]) rfl ?_
                            refine z_goto C (tgt := 513) dL_act_501 (by decide) ?_
                            refine z_drop (B' := [(smS cB a n (va_up gg (o) q_12) ((fl_app ρ (o) (ρ 3 (o)) (nI (w_8)))), zZ), (smG cE n (va_up gg (o) q_12) ((fl_app ρ (o) (ρ 3 (o)) (nI (w_8)))) (va_up ee (o) (va_up (ee (o)) (fl_ln ρ (o)) q_441)), zZ), (smP cI (pp ++ [(q_441, ρ 3 (o), nI (w_8))]), zZ), (shT t fa ta, zZ), (shF fa cI cZ, (fl_app ρ o (ρ 3 o) (nI w_8))), (shF ta cI cZ, τ)]) (X := zW [([(q_435, zQr cE (1) (va_up (fun _ => none) (0) (some (q_441))))], zZ)]) (by rw [← zW_app]; exact List.Perm.refl _) ?_
                            refine z_iinc C (L' := [(7, .int (nI (o + 1))), (12, .int (nI (fl_ln ρ (o)))), (11, .ref (q_435)), (10, .int (nI (1))), (9, .int (nI (w_8))), (8, .ref (a (2 + (o)))), (0, .ref (t)), (1, .ref (a 0)), (2, .int (x)), (3, .int (nI (w_1))), (5, .int (nI (1 + w_7))), (6, .int (nI (k)))]) dL_act_513 11 rfl (z_inc1 _) (by decide) rfl ?_
                            refine z_goto C (tgt := 344) dL_act_516 (by decide) ?_
                            refine z_sub (L' := [(0, .ref (t)), (1, .ref (a 0)), (2, .int (x)), (3, .int (nI (w_1))), (5, .int (nI (1 + w_7))), (6, .int (nI (k))), (7, .int (nI (o + 1)))]) [6, 7, 8, 9, 10, 11, 0] rfl ?_
                            exact ih_344 (o + 1) ((fl_app ρ o (ρ 3 o) (nI w_8))) (va_up gg (o) q_12) (va_up ee (o) (va_up (ee (o)) (fl_ln ρ (o)) q_441)) (pp ++ [(q_441, ρ 3 (o), nI (w_8))]) (((cc + 1) + 1) + 1) (((ss + 1) + 2) + 11) (by omega) (by omega) (fA_write hAρ (b := o) (by omega) (lead_iff.mpr ⟨c_390, c_399⟩) (by omega) (nI w_8)) hk_12 (by omega) (by omega)
                          · exact absurd rfl c_482
                      · exact absurd c_422 (by omega)
          refine z_sub (L' := [(0, .ref (t)), (1, .ref (a 0)), (2, .int (x)), (3, .int (nI (w_1))), (5, .int (nI (1 + w_7))), (6, .int (nI (k))), (7, .int (nI (0)))]) [1, 2, 3, 4, 5, 6, 0] rfl ?_
          exact loop_344 (n + 1) 0 ρ gg ee pp cc ss (by omega) (by omega) hAρ hkρ (by omega) (by omega)
    refine z_sub (L' := [(0, .ref (t)), (1, .ref (a 0)), (2, .int (x)), (3, .int (nI (w_1))), (5, .int (nI (1 + w_7))), (6, .int (nI (0)))]) [4, 5, 6, 3, 1, 0] rfl ?_
    exact loop_334 ((1 + w_7) + 1) 0 σ g en ps 0 0 (by omega) (by omega) hA hk (by omega) (by omega)
  have K_527 : zK p l e ({ frames := 8, cells := 1000, slots := 11000, locals := 179 } : Room) s m args below meth c D A 13 Q 0 0 527 [(4, .ref (a (2 + (w_1)))), (3, .int (nI (w_1))), (0, .ref (t)), (1, .ref (a 0)), (2, .int (x))] [] [(smS cB a n g σ, zZ), (smG cE n g σ en, zZ), (smP cI ps, zZ), (shT t fa ta, zZ), (shF fa cI cZ, σ), (shF ta cI cZ, τ)] := by
    refine z_iconst C (v := nI (1)) (by decide) dL_act_527 ?_
    refine z_iload_n C dL_act_528 rfl 4 rfl ?_
    refine z_bipush C (v := nI (8)) (by decide) dL_act_529 ?_
    refine z_ishr C dL_act_531 ?_
    refine z_iload_n C dL_act_532 rfl 4 rfl ?_
    refine z_iconst C (v := nI (5)) (by decide) dL_act_533 ?_
    refine z_ishr C dL_act_534 ?_
    refine z_bipush C (v := nI (6)) (by decide) dL_act_535 ?_
    refine z_cS C (st' := [.int (nI (bw (x >>> (nI (5) &&& 31)) (6))), .int (x >>> (nI (8) &&& 31)), .int (nI (1))]) (B' := [(smS cB a n g σ, zZ), (smG cE n g σ en, zZ), (smP cI ps, zZ), (shT t fa ta, zZ), (shF fa cI cZ, σ), (shF ta cI cZ, τ)]) [false, false, false, false, false, false] rfl (c_L_below l D cI cZ cB cE (x >>> (nI (5) &&& 31)) (6) (by omega) (by omega)) wq_yL_below wm_L_15 ws_yL_below ⟨rfl, rfl, Nat.le_of_ble_eq_true rfl, Nat.le_of_ble_eq_true rfl⟩ rfl rfl (Nat.le_of_ble_eq_true rfl) dL_act_537 ⟨(Nat.le_of_ble_eq_true rfl), (Nat.le_of_ble_eq_true rfl)⟩ rfl rfl ?_
    have hw_13 := bw_lt (x >>> (nI (5) &&& 31)) (k := 6) (by omega)
    generalize bw (x >>> (nI (5) &&& 31)) (6) = w_13 at hw_13
    refine z_if_neN C (tgt := 548) dL_act_540 (by decide) (by omega) (fun c_540 => ?_) (fun c_540 => ?_)
    · refine z_iconst C (v := nI (3)) (by decide) dL_act_548 ?_
      refine z_cS C (st' := [.int (nI (bw (x >>> (nI (8) &&& 31)) (3))), .int (nI (1))]) (B' := [(smS cB a n g σ, zZ), (smG cE n g σ en, zZ), (smP cI ps, zZ), (shT t fa ta, zZ), (shF fa cI cZ, σ), (shF ta cI cZ, τ)]) [false, false, false, false, false, false] rfl (c_L_below l D cI cZ cB cE (x >>> (nI (8) &&& 31)) (3) (by omega) (by omega)) wq_yL_below wm_L_15 ws_yL_below ⟨rfl, rfl, Nat.le_of_ble_eq_true rfl, Nat.le_of_ble_eq_true rfl⟩ rfl rfl (Nat.le_of_ble_eq_true rfl) dL_act_549 ⟨(Nat.le_of_ble_eq_true rfl), (Nat.le_of_ble_eq_true rfl)⟩ rfl rfl ?_
      have hw_14 := bw_lt (x >>> (nI (8) &&& 31)) (k := 3) (by omega)
      generalize bw (x >>> (nI (8) &&& 31)) (3) = w_14 at hw_14
      refine z_iaddN C dL_act_552 ?_
      refine z_istore C (L' := [(5, .int (nI (1 + w_14))), (4, .ref (a (2 + (w_1)))), (3, .int (nI (w_1))), (0, .ref (t)), (1, .ref (a 0)), (2, .int (x))]) dL_act_553 (by decide) rfl ?_
      refine z_aload_n C dL_act_555 rfl 4 rfl ?_
      refine z_sget C 0 rfl 2 (by decide) (v := .int (σ 0 3)) rfl wf_L_73 dL_act_556 ?_
      refine z_istore C (L' := [(6, .int (σ 0 (3))), (5, .int (nI (1 + w_14))), (4, .ref (a (2 + (w_1)))), (3, .int (nI (w_1))), (0, .ref (t)), (1, .ref (a 0)), (2, .int (x))]) dL_act_559 (by decide) rfl ?_
      refine z_iconst C (v := nI (0)) (by decide) dL_act_561 ?_
      refine z_istore C (L' := [(7, .int (nI (0))), (6, .int (σ 0 (3))), (5, .int (nI (1 + w_14))), (4, .ref (a (2 + (w_1)))), (3, .int (nI (w_1))), (0, .ref (t)), (1, .ref (a 0)), (2, .int (x))]) dL_act_562 (by decide) rfl ?_
      refine z_eq (B' := [(smS cB a n g ((fl_hours n 0 σ)), zZ), (smG cE n g ((fl_hours n 0 σ)) en, zZ), (smP cI ps, zZ), (shT t fa ta, zZ), (shF fa cI cZ, σ), (shF ta cI cZ, τ)]) rfl ?_
      have hmul : (1 + w_14) * n ≤ 20 * 7 := Nat.mul_le_mul (by omega) (by omega)
      have loop_564 : ∀ (k_564 k : Nat) (gg : Nat → Nat) (ee : Nat → Nat → Nat) (cc : Nat) (ss : Nat), (1 + w_14) < k + k_564 → k ≤ (1 + w_14) → (hkh : smK n (fl_hours n k σ) ee ps) → (hcc : cc ≤ 49 * k) → (hss : ss ≤ 539 * k) → zK p l e ({ frames := 8, cells := 1000, slots := 11000, locals := 179 } : Room) s m args below meth c D A 13 Q cc ss 564 [(0, .ref (t)), (1, .ref (a 0)), (5, .int (nI (1 + w_14))), (6, .int (σ 0 (3))), (7, .int (nI (k)))] [] [(smS cB a n gg ((fl_hours n k σ)), zZ), (smG cE n gg ((fl_hours n k σ)) ee, zZ), (smP cI ps, zZ), (shT t fa ta, zZ), (shF fa cI cZ, σ), (shF ta cI cZ, τ)] := by
        intro k_564
        induction k_564 with
        | zero => intro k gg ee cc ss m1_564 m2_564; exact absurd m1_564 (by omega)
        | succ k_564 ih_564 =>
          intro k gg ee cc ss m1_564 m2_564 hkh hcc hss
          have hmk : k * n ≤ 20 * 7 := Nat.mul_le_mul (by omega) (by omega)
          have hAk := fA_hours hA k (by omega)
          refine z_iload C dL_act_564 4 rfl ?_
          refine z_iload C dL_act_566 2 rfl ?_
          refine z_icmp_geN C (tgt := 581) dL_act_568 (by decide) (by omega) (by omega) (fun c_568 => ?_) (fun c_568 => ?_)
          · have hk9 : 1 + w_14 = k := by omega
            subst hk9
            refine z_aload_n C dL_act_581 rfl 0 rfl ?_
            refine z_iload C dL_act_582 2 rfl ?_
            refine z_cV C (st' := [.int ((fl_hours n (1 + w_14) σ) 0 (3) - σ 0 (3))]) (B' := [(smS cB a n gg ((fl_hours n (1 + w_14) σ)), zZ), (smG cE n gg ((fl_hours n (1 + w_14) σ)) ee, zZ), (smP cI ps, zZ), (shT t fa ta, zZ), (shF fa cI cZ, (fl_hours n (1 + w_14) σ)), (shF ta cI cZ, τ)]) [false, false, false, true, true, true] rfl (c_X2_pass l D cI cZ cB cE t fa ta σ τ n hI (1 + w_14) (by omega) (by omega)) wq_yX2_pass wm_L_78 ⟨wn_yX2_pass, wo_yX2_pass⟩ ⟨rfl, rfl, Nat.le_of_ble_eq_true rfl, Nat.le_of_ble_eq_true rfl⟩ 3 rfl 0 rfl rfl rfl rfl (Nat.le_of_ble_eq_true rfl) dL_act_584 ⟨(by show _ ≤ 1000; omega), (by show _ ≤ 11000; omega)⟩ rfl rfl ?_
            refine z_aload_n C dL_act_587 rfl 1 rfl ?_
            refine z_sget C 0 rfl 2 (by decide) (v := .int ((fl_hours n (1 + w_14) σ) 0 3)) rfl wf_L_73 dL_act_588 ?_
            refine z_iload C dL_act_591 3 rfl ?_
            refine z_isub C dL_act_593 ?_
            refine z_icmp_ne C (tgt := 601) dL_act_594 (by decide) (fun c_594 => ?_) (fun c_594 => ?_)
            · exact absurd rfl c_594
            · refine z_iconst C (v := nI (1)) (by decide) dL_act_597 ?_
              refine z_goto C (tgt := 602) dL_act_598 (by decide) ?_
              refine z_widen (k := 1000) (n := 11000) (by omega) (by omega) ?_
              rw [hQ]; exact z_zret C hr nar_1 dL_act_602 ⟨rfl, ((fl_hours n (1 + w_14) σ)), gg, ee, ps, (fA_hours hA (1 + w_14) (by omega)).mono (by omega), hkh, rfl⟩
          · refine z_aload_n C dL_act_571 rfl 1 rfl ?_
            refine z_callVR C [true, true, true, false, false, false] rfl (c_X4_go l D cI cZ cB cE n a gg ((fl_hours n k σ)) ee ps ((fl_hours_Iv hI k)) hkh hAk.Vb (hAk.Lb (by omega))) wq_yX4_go wm_L_76 ⟨wn_yX4_go, wo_yX4_go⟩ ⟨rfl, rfl, Nat.le_of_ble_eq_true rfl, Nat.le_of_ble_eq_true rfl⟩ 0 rfl 0 rfl rfl rfl rfl (Nat.le_of_ble_eq_true rfl) dL_act_572 ⟨by show _ ≤ 1000; omega, by show _ ≤ 11000; omega⟩ ?_
            rintro r9 w9 ⟨rfl, gt, et, hkt, rfl⟩
            refine z_eq (B' := [(smS cB a n gt ((fl_hour n ((fl_hours n k σ)))), zZ), (smG cE n gt ((fl_hour n ((fl_hours n k σ)))) et, zZ), (smP cI ps, zZ), (shT t fa ta, zZ), (shF fa cI cZ, σ), (shF ta cI cZ, τ)]) rfl ?_
            refine z_iinc C (L' := [(7, .int (nI (k + 1))), (0, .ref (t)), (1, .ref (a 0)), (5, .int (nI (1 + w_14))), (6, .int (σ 0 (3)))]) dL_act_575 4 rfl (z_inc1 _) (by decide) rfl ?_
            refine z_goto C (tgt := 564) dL_act_578 (by decide) ?_
            refine z_sub (L' := [(0, .ref (t)), (1, .ref (a 0)), (5, .int (nI (1 + w_14))), (6, .int (σ 0 (3))), (7, .int (nI (k + 1)))]) [1, 2, 3, 4, 0] rfl ?_
            exact ih_564 (k + 1) gt et (cc + 49) (ss + 539) (by omega) (by omega) hkt (by omega) (by omega)
      refine z_sub (L' := [(0, .ref (t)), (1, .ref (a 0)), (5, .int (nI (1 + w_14))), (6, .int (σ 0 (3))), (7, .int (nI (0)))]) [5, 6, 2, 1, 0] rfl ?_
      exact loop_564 ((1 + w_14) + 1) 0 g en 0 0 (by omega) (by omega) hk (by omega) (by omega)
    · refine z_bipush C (v := nI (20)) (by decide) dL_act_543 ?_
      refine z_goto C (tgt := 549) dL_act_545 (by decide) ?_
      refine z_cS C (st' := [.int (nI (bw (x >>> (nI (8) &&& 31)) (20))), .int (nI (1))]) (B' := [(smS cB a n g σ, zZ), (smG cE n g σ en, zZ), (smP cI ps, zZ), (shT t fa ta, zZ), (shF fa cI cZ, σ), (shF ta cI cZ, τ)]) [false, false, false, false, false, false] rfl (c_L_below l D cI cZ cB cE (x >>> (nI (8) &&& 31)) (20) (by omega) (by omega)) wq_yL_below wm_L_15 ws_yL_below ⟨rfl, rfl, Nat.le_of_ble_eq_true rfl, Nat.le_of_ble_eq_true rfl⟩ rfl rfl (Nat.le_of_ble_eq_true rfl) dL_act_549 ⟨(Nat.le_of_ble_eq_true rfl), (Nat.le_of_ble_eq_true rfl)⟩ rfl rfl ?_
      have hw_16 := bw_lt (x >>> (nI (8) &&& 31)) (k := 20) (by omega)
      generalize bw (x >>> (nI (8) &&& 31)) (20) = w_16 at hw_16
      refine z_iaddN C dL_act_552 ?_
      refine z_istore C (L' := [(5, .int (nI (1 + w_16))), (4, .ref (a (2 + (w_1)))), (3, .int (nI (w_1))), (0, .ref (t)), (1, .ref (a 0)), (2, .int (x))]) dL_act_553 (by decide) rfl ?_
      refine z_aload_n C dL_act_555 rfl 4 rfl ?_
      refine z_sget C 0 rfl 2 (by decide) (v := .int (σ 0 3)) rfl wf_L_73 dL_act_556 ?_
      refine z_istore C (L' := [(6, .int (σ 0 (3))), (5, .int (nI (1 + w_16))), (4, .ref (a (2 + (w_1)))), (3, .int (nI (w_1))), (0, .ref (t)), (1, .ref (a 0)), (2, .int (x))]) dL_act_559 (by decide) rfl ?_
      refine z_iconst C (v := nI (0)) (by decide) dL_act_561 ?_
      refine z_istore C (L' := [(7, .int (nI (0))), (6, .int (σ 0 (3))), (5, .int (nI (1 + w_16))), (4, .ref (a (2 + (w_1)))), (3, .int (nI (w_1))), (0, .ref (t)), (1, .ref (a 0)), (2, .int (x))]) dL_act_562 (by decide) rfl ?_
      refine z_eq (B' := [(smS cB a n g ((fl_hours n 0 σ)), zZ), (smG cE n g ((fl_hours n 0 σ)) en, zZ), (smP cI ps, zZ), (shT t fa ta, zZ), (shF fa cI cZ, σ), (shF ta cI cZ, τ)]) rfl ?_
      have hmul : (1 + w_16) * n ≤ 20 * 7 := Nat.mul_le_mul (by omega) (by omega)
      have loop_564 : ∀ (k_564 k : Nat) (gg : Nat → Nat) (ee : Nat → Nat → Nat) (cc : Nat) (ss : Nat), (1 + w_16) < k + k_564 → k ≤ (1 + w_16) → (hkh : smK n (fl_hours n k σ) ee ps) → (hcc : cc ≤ 49 * k) → (hss : ss ≤ 539 * k) → zK p l e ({ frames := 8, cells := 1000, slots := 11000, locals := 179 } : Room) s m args below meth c D A 13 Q cc ss 564 [(0, .ref (t)), (1, .ref (a 0)), (5, .int (nI (1 + w_16))), (6, .int (σ 0 (3))), (7, .int (nI (k)))] [] [(smS cB a n gg ((fl_hours n k σ)), zZ), (smG cE n gg ((fl_hours n k σ)) ee, zZ), (smP cI ps, zZ), (shT t fa ta, zZ), (shF fa cI cZ, σ), (shF ta cI cZ, τ)] := by
        intro k_564
        induction k_564 with
        | zero => intro k gg ee cc ss m1_564 m2_564; exact absurd m1_564 (by omega)
        | succ k_564 ih_564 =>
          intro k gg ee cc ss m1_564 m2_564 hkh hcc hss
          have hmk : k * n ≤ 20 * 7 := Nat.mul_le_mul (by omega) (by omega)
          have hAk := fA_hours hA k (by omega)
          refine z_iload C dL_act_564 4 rfl ?_
          refine z_iload C dL_act_566 2 rfl ?_
          refine z_icmp_geN C (tgt := 581) dL_act_568 (by decide) (by omega) (by omega) (fun c_568 => ?_) (fun c_568 => ?_)
          · have hk9 : 1 + w_16 = k := by omega
            subst hk9
            refine z_aload_n C dL_act_581 rfl 0 rfl ?_
            refine z_iload C dL_act_582 2 rfl ?_
            refine z_cV C (st' := [.int ((fl_hours n (1 + w_16) σ) 0 (3) - σ 0 (3))]) (B' := [(smS cB a n gg ((fl_hours n (1 + w_16) σ)), zZ), (smG cE n gg ((fl_hours n (1 + w_16) σ)) ee, zZ), (smP cI ps, zZ), (shT t fa ta, zZ), (shF fa cI cZ, (fl_hours n (1 + w_16) σ)), (shF ta cI cZ, τ)]) [false, false, false, true, true, true] rfl (c_X2_pass l D cI cZ cB cE t fa ta σ τ n hI (1 + w_16) (by omega) (by omega)) wq_yX2_pass wm_L_78 ⟨wn_yX2_pass, wo_yX2_pass⟩ ⟨rfl, rfl, Nat.le_of_ble_eq_true rfl, Nat.le_of_ble_eq_true rfl⟩ 3 rfl 0 rfl rfl rfl rfl (Nat.le_of_ble_eq_true rfl) dL_act_584 ⟨(by show _ ≤ 1000; omega), (by show _ ≤ 11000; omega)⟩ rfl rfl ?_
            refine z_aload_n C dL_act_587 rfl 1 rfl ?_
            refine z_sget C 0 rfl 2 (by decide) (v := .int ((fl_hours n (1 + w_16) σ) 0 3)) rfl wf_L_73 dL_act_588 ?_
            refine z_iload C dL_act_591 3 rfl ?_
            refine z_isub C dL_act_593 ?_
            refine z_icmp_ne C (tgt := 601) dL_act_594 (by decide) (fun c_594 => ?_) (fun c_594 => ?_)
            · exact absurd rfl c_594
            · refine z_iconst C (v := nI (1)) (by decide) dL_act_597 ?_
              refine z_goto C (tgt := 602) dL_act_598 (by decide) ?_
              refine z_widen (k := 1000) (n := 11000) (by omega) (by omega) ?_
              rw [hQ]; exact z_zret C hr nar_1 dL_act_602 ⟨rfl, ((fl_hours n (1 + w_16) σ)), gg, ee, ps, (fA_hours hA (1 + w_16) (by omega)).mono (by omega), hkh, rfl⟩
          · refine z_aload_n C dL_act_571 rfl 1 rfl ?_
            refine z_callVR C [true, true, true, false, false, false] rfl (c_X4_go l D cI cZ cB cE n a gg ((fl_hours n k σ)) ee ps ((fl_hours_Iv hI k)) hkh hAk.Vb (hAk.Lb (by omega))) wq_yX4_go wm_L_76 ⟨wn_yX4_go, wo_yX4_go⟩ ⟨rfl, rfl, Nat.le_of_ble_eq_true rfl, Nat.le_of_ble_eq_true rfl⟩ 0 rfl 0 rfl rfl rfl rfl (Nat.le_of_ble_eq_true rfl) dL_act_572 ⟨by show _ ≤ 1000; omega, by show _ ≤ 11000; omega⟩ ?_
            rintro r9 w9 ⟨rfl, gt, et, hkt, rfl⟩
            refine z_eq (B' := [(smS cB a n gt ((fl_hour n ((fl_hours n k σ)))), zZ), (smG cE n gt ((fl_hour n ((fl_hours n k σ)))) et, zZ), (smP cI ps, zZ), (shT t fa ta, zZ), (shF fa cI cZ, σ), (shF ta cI cZ, τ)]) rfl ?_
            refine z_iinc C (L' := [(7, .int (nI (k + 1))), (0, .ref (t)), (1, .ref (a 0)), (5, .int (nI (1 + w_16))), (6, .int (σ 0 (3)))]) dL_act_575 4 rfl (z_inc1 _) (by decide) rfl ?_
            refine z_goto C (tgt := 564) dL_act_578 (by decide) ?_
            refine z_sub (L' := [(0, .ref (t)), (1, .ref (a 0)), (5, .int (nI (1 + w_16))), (6, .int (σ 0 (3))), (7, .int (nI (k + 1)))]) [1, 2, 3, 4, 0] rfl ?_
            exact ih_564 (k + 1) gt et (cc + 49) (ss + 539) (by omega) (by omega) hkt (by omega) (by omega)
      refine z_sub (L' := [(0, .ref (t)), (1, .ref (a 0)), (5, .int (nI (1 + w_16))), (6, .int (σ 0 (3))), (7, .int (nI (0)))]) [5, 6, 2, 1, 0] rfl ?_
      exact loop_564 ((1 + w_16) + 1) 0 g en 0 0 (by omega) (by omega) hk (by omega) (by omega)
  rcases (show w_2 = 0 ∨ w_2 = 1 ∨ w_2 = 2 ∨ w_2 = 3 ∨ w_2 = 4 ∨ w_2 = 5 ∨ w_2 = 6 ∨ w_2 = 7 ∨ w_2 = 8 ∨ w_2 = 9 ∨ w_2 = 10 ∨ w_2 = 11 ∨ w_2 = 12 ∨ w_2 = 13 ∨ w_2 = 14 ∨ w_2 = 15 by omega) with rfl | rfl | rfl | rfl | rfl | rfl | rfl | rfl | rfl | rfl | rfl | rfl | rfl | rfl | rfl | rfl
  · exact z_tabI C (tgt := 80) dL_act_26 (by decide) (by decide) rfl (by decide) K_80
  · exact z_tabI C (tgt := 125) dL_act_26 (by decide) (by decide) rfl (by decide) K_125
  · exact z_tabI C (tgt := 125) dL_act_26 (by decide) (by decide) rfl (by decide) K_125
  · exact z_tabI C (tgt := 181) dL_act_26 (by decide) (by decide) rfl (by decide) K_181
  · exact z_tabI C (tgt := 248) dL_act_26 (by decide) (by decide) rfl (by decide) K_248
  · exact z_tabI C (tgt := 319) dL_act_26 (by decide) (by decide) rfl (by decide) K_319
  · exact z_tabI C (tgt := 319) dL_act_26 (by decide) (by decide) rfl (by decide) K_319
  · exact z_tabI C (tgt := 319) dL_act_26 (by decide) (by decide) rfl (by decide) K_319
  · exact z_tabI C (tgt := 319) dL_act_26 (by decide) (by decide) rfl (by decide) K_319
  · exact z_tabI C (tgt := 319) dL_act_26 (by decide) (by decide) rfl (by decide) K_319
  · exact z_tabO C (tgt := 527) dL_act_26 (by decide) (by decide) K_527
  · exact z_tabO C (tgt := 527) dL_act_26 (by decide) (by decide) K_527
  · exact z_tabO C (tgt := 527) dL_act_26 (by decide) (by decide) K_527
  · exact z_tabO C (tgt := 527) dL_act_26 (by decide) (by decide) K_527
  · exact z_tabO C (tgt := 527) dL_act_26 (by decide) (by decide) K_527
  · exact z_tabO C (tgt := 527) dL_act_26 (by decide) (by decide) K_527
