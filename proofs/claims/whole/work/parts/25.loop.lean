section ZLOOP
variable {p : Program} {l : Launch} {e : Env} {s : State} {m : MethodId} {args : Array Value} {below : List Frame} {meth : Method} {c : Code} {D : va_G} {cI cZ cJ : ClassId} {A : Nat → Prop} {Q : State → Prop} {t u o b0 L : Nat} {a ta a2 ta2 : Nat → Nat} {xs : Nat → Int32}
theorem z_newL {R : Room} {tys : List (ClassId × FieldType)} {own : String} {cc : ByteArray} {nL cells slots pc : Nat} {L0 : List (Nat × Value)} {st : List Value} {B : List zB} (C : zX p s m args meth c D tys A own cc nL) {atype : ArrayType} {ty : FieldType} {N : Nat} {cA : ClassId} (harr : Cond.arrayClass (newarray.typeOf atype) ∈ lw_all) (hty : newarray.typeOf atype = ty) (hdef : defaultValue ty = .long 0) (hnm : s.vm.findClass ("[" ++ ty.toString) = some cA) (hN : N < 2 ^ 31) (hbytes : N * componentBytes ty ≤ 536870912) (hR : cells + 1 ≤ R.cells ∧ slots + N ≤ R.slots) (hdg : decode cc pc = .ok (.newarray atype, 2))
    (kk : ∀ q : Nat, zK p l e R s m args below meth c D A nL Q (cells + 1) (slots + N) (pc + 2) L0 (.ref q :: st) (B ++ [([(q, .inr (.inr (.inl (cA, N, .inr (.inl (fun _ => 0))))))], zZ)])) : zK p l e R s m args below meth c D A nL Q cells slots pc L0 (.int (nI N) :: st) B := fun H locs ls hP hD hS hl => by
  subst hty
  refine va_newaK (N := N) C.1 C.2.1 (C.2.2.2.2.1 _ harr) rfl hdg rfl (nI_pos hN) (nI_clamp hN) hbytes hR.1 hR.2 (h := H.size) rfl (fun H' cB h1 h2 h3 h4 h5 => ?_)
  cases Option.some.inj (hnm.symm.trans h5)
  have e1 : ∀ q, q < H.size → H'[q]? = H[q]? := h3
  have hq : va_at D vwCl (H.size, .inl (cA, N, .inr (.inl (fun _ => 0)))) H' := by
    show H'[H.size]? = some (vp_cell cA (N, .inr (.inl (fun _ => 0))))
    rw [h1, vp_cell_l]
    congr 1
    congr 1
    funext j
    exact hdef
  have hP' : va_P D vwCl (zW B ++ [(H.size, .inl (cA, N, .inr (.inl (fun _ => 0))))]) H' := zP_iff.mpr fun q hm => by
    rcases List.mem_append.mp hm with g | g
    · exact (zP_iff.mp hP q g).kept (e1 q.1 (zP_iff.mp hP q g).lt)
    · rw [List.mem_singleton.mp g]
      exact hq
  have hD' : va_D A (zW B ++ [(H.size, .inl (cA, N, .inr (.inl (fun _ => 0))))]) := hD.push hP rfl (C.2.2.2.2.2.2.1 _ hS.1)
  have hz : zW (B ++ [([(H.size, .inr (.inr (.inl (cA, N, .inr (.inl (fun _ => 0))))))], zZ)]) = zW B ++ [(H.size, .inl (cA, N, .inr (.inl (fun _ => 0))))] := by rw [zW_app]; rfl
  rw [← hz] at hP' hD'
  exact kk H.size H' locs ls hP' hD' ⟨by rw [h2]; exact Nat.le_succ_of_le hS.1, fun q h6 h7 => by rw [e1 q (Nat.lt_of_lt_of_le h6 hS.1)]; exact hS.2.1 q h6 h7, hS.2.2⟩ hl
theorem lw_exit {L i : Nat} (hL : L ≤ 2048) (hi : i ≤ L) (h : ¬ nI L - nI 4 < nI i) : i + 4 ≤ L := by
  rw [Int32.lt_iff_toInt_lt, nI_toInt (by omega)] at h
  by_cases h4 : 4 ≤ L
  · have e : nI L - nI 4 = nI (L - 4) := by
      have h1 := nI_add (L - 4) 4
      rw [show L - 4 + 4 = L by omega] at h1
      rw [← h1, Int32.add_sub_cancel]
    rw [e, nI_toInt (by omega)] at h
    omega
  · exfalso
    have hs : (nI L - nI 4).toInt < 0 := (by decide : ∀ L, L < 4 → (nI L - nI 4).toInt < 0) L (by omega)
    omega
set_option maxHeartbeats 4000000 in
set_option maxRecDepth 100000 in
theorem lw_loop (C : zX p s m args meth c D (tyL cI cZ cJ) A RL cL_law 9) (hlt : l.stackTraces = false) (hX : va_X b0 L xs s s.heap) (hbl : b0 < s.heap.size) (hbA : ¬ A b0) (hL : L ≤ 2048)
    (kend : ∀ (L0 : List (Nat × Value)) (B : List zB) (cells slots : Nat), cells ≤ 1087 → slots ≤ 9136 → zK p l e room_1 s m args below meth c D A 9 Q cells slots 1141 L0 [] B) :
    ∀ (k i j cells slots n : Nat) (σ τ κ ρ υ : zF) (g : Nat → Int64), L < i + 4 * k → i ≤ L → i = 4 * j → cells ≤ 53 + j → slots ≤ 884 + 6 * j → fl_Iv n σ → fl_Iv n ρ → fl_S n σ ρ → zK p l e room_1 s m args below meth c D A 9 Q cells slots 23 [(4, .int (nI i)), (3, .ref o), (2, .ref u), (1, .ref t), (0, .ref b0)] [] [(shT t a ta, zZ), (shF a cI cZ, σ), (shF ta cI cZ, τ), (shM u a2 ta2, κ), (shS a2 cI, ρ), (shS ta2 cI, υ), ([(o, .inr (.inr (.inl (cJ, 1, .inr (.inl g)))))], zZ)] := by
  intro k
  induction k with
  | zero => intro i j cells slots n σ τ κ ρ υ g h1 h2; exact absurd h1 (by omega)
  | succ k ih =>
    intro i j cells slots n σ τ κ ρ υ g h1 h2 hj hc hs hI hI2 hS
    refine z_iload C dL_law_23 0 rfl ?_
    refine z_aload_n C dL_law_25 rfl 4 rfl ?_
    refine z_slen C hX hbl hbA dL_law_26 ?_
    refine z_iconst C (v := nI (4)) (by decide) dL_law_27 ?_
    refine z_isub C dL_law_28 ?_
    refine z_icmp_gt C (tgt := 1141) dL_law_29 (by decide) (fun c_29 => ?_) (fun c_29 => ?_)
    · exact kend _ _ _ _ (by omega) (by omega)
    · have hi : i + 4 ≤ L := lw_exit hL h2 c_29
      refine z_aload_n C dL_law_32 rfl 4 rfl ?_
      refine z_iload C dL_law_33 0 rfl ?_
      refine z_sld C hX hbl hbA (by omega) (by omega) dL_law_35 ?_
      refine z_bipush C (v := nI (31)) (by decide) dL_law_36 ?_
      refine z_iand C dL_law_38 ?_
      have kk : lwG p l e s m args below meth c D A Q cI cZ cJ t u o b0 a ta a2 ta2 1135 i (cells + 1) (slots + 6) := by
        intro cells2 slots2 n2 σ2 τ2 κ2 ρ2 υ2 g2 z1 z2 z3 z4 z5
        refine z_iinc C (L' := [(4, .int (nI (i + 4))), (3, .ref o), (2, .ref u), (1, .ref t), (0, .ref b0)]) dL_law_1135 0 rfl (nI_add i 4) (by decide) rfl ?_
        refine z_goto C (tgt := 23) dL_law_1138 (by decide) ?_
        exact ih (i + 4) (j + 1) cells2 slots2 n2 σ2 τ2 κ2 ρ2 υ2 g2 (by omega) (by omega) (by omega) (by omega) (by omega) z3 z4 z5
      obtain ⟨w, hw, hx⟩ := pk_andE (xs i) (m := nI 31) 5 (by decide)
      refine z_top hx ?_
      by_cases h18 : w < 18
      · rcases (show w = 0 ∨ w = 1 ∨ w = 2 ∨ w = 3 ∨ w = 4 ∨ w = 5 ∨ w = 6 ∨ w = 7 ∨ w = 8 ∨ w = 9 ∨ w = 10 ∨ w = 11 ∨ w = 12 ∨ w = 13 ∨ w = 14 ∨ w = 15 ∨ w = 16 ∨ w = 17 by omega) with rfl | rfl | rfl | rfl | rfl | rfl | rfl | rfl | rfl | rfl | rfl | rfl | rfl | rfl | rfl | rfl | rfl | rfl
        · refine z_tabI C (tgt := 124) dL_law_39 (by decide) (by decide) rfl (by decide) ?_
          exact lw_op0 C hlt hX hbl hbA hL hi (by omega) (by omega) hI hI2 hS kk
        · refine z_tabI C (tgt := 180) dL_law_39 (by decide) (by decide) rfl (by decide) ?_
          exact lw_op1 C hlt hX hbl hbA hL hi (by omega) (by omega) hI hI2 hS kk
        · refine z_tabI C (tgt := 248) dL_law_39 (by decide) (by decide) rfl (by decide) ?_
          exact lw_op2 C hlt hX hbl hbA hL hi (by omega) (by omega) hI hI2 hS kk
        · refine z_tabI C (tgt := 316) dL_law_39 (by decide) (by decide) rfl (by decide) ?_
          exact lw_op3 C hlt hX hbl hbA hL hi (by omega) (by omega) hI hI2 hS kk
        · refine z_tabI C (tgt := 379) dL_law_39 (by decide) (by decide) rfl (by decide) ?_
          exact lw_op4 C hlt hX hbl hbA hL hi (by omega) (by omega) hI hI2 hS kk
        · refine z_tabI C (tgt := 447) dL_law_39 (by decide) (by decide) rfl (by decide) ?_
          exact lw_op5 C hlt hX hbl hbA hL hi (by omega) (by omega) hI hI2 hS kk
        · refine z_tabI C (tgt := 503) dL_law_39 (by decide) (by decide) rfl (by decide) ?_
          exact lw_op6 C hlt hX hbl hbA hL hi (by omega) (by omega) hI hI2 hS kk
        · refine z_tabI C (tgt := 571) dL_law_39 (by decide) (by decide) rfl (by decide) ?_
          exact lw_op7 C hlt hX hbl hbA hL hi (by omega) (by omega) hI hI2 hS kk
        · refine z_tabI C (tgt := 651) dL_law_39 (by decide) (by decide) rfl (by decide) ?_
          exact lw_op8 C hlt hX hbl hbA hL hi (by omega) (by omega) hI hI2 hS kk
        · refine z_tabI C (tgt := 719) dL_law_39 (by decide) (by decide) rfl (by decide) ?_
          exact lw_op9 C hlt hX hbl hbA hL hi (by omega) (by omega) hI hI2 hS kk
        · refine z_tabI C (tgt := 794) dL_law_39 (by decide) (by decide) rfl (by decide) ?_
          exact lw_op10 C hlt hX hbl hbA hL hi (by omega) (by omega) hI hI2 hS kk
        · refine z_tabI C (tgt := 807) dL_law_39 (by decide) (by decide) rfl (by decide) ?_
          exact lw_op11 C hlt hX hbl hbA hL hi (by omega) (by omega) hI hI2 hS kk
        · refine z_tabI C (tgt := 863) dL_law_39 (by decide) (by decide) rfl (by decide) ?_
          exact lw_op12 C hlt hX hbl hbA hL hi (by omega) (by omega) hI hI2 hS kk
        · refine z_tabI C (tgt := 931) dL_law_39 (by decide) (by decide) rfl (by decide) ?_
          exact lw_op13 C hlt hX hbl hbA hL hi (by omega) (by omega) hI hI2 hS kk
        · refine z_tabI C (tgt := 944) dL_law_39 (by decide) (by decide) rfl (by decide) ?_
          exact lw_op14 C hlt hX hbl hbA hL hi (by omega) (by omega) hI hI2 hS kk
        · refine z_tabI C (tgt := 1012) dL_law_39 (by decide) (by decide) rfl (by decide) ?_
          exact lw_op15 C hlt hX hbl hbA hL hi (by omega) (by omega) hI hI2 hS kk
        · refine z_tabI C (tgt := 1080) dL_law_39 (by decide) (by decide) rfl (by decide) ?_
          exact lw_op16 C hlt hX hbl hbA hL hi (by omega) (by omega) hI hI2 hS kk
        · refine z_tabI C (tgt := 1121) dL_law_39 (by decide) (by decide) rfl (by decide) ?_
          exact lw_op17 C hlt hX hbl hbA hL hi (by omega) (by omega) hI hI2 hS kk
      · refine z_tabO C (tgt := 1135) dL_law_39 (Or.inr (by rw [nI_toInt (by omega)]; omega)) (by decide) ?_
        exact kk cells slots n σ τ κ ρ υ g (by omega) (by omega) hI hI2 hS
theorem zNk_on : ∀ w : Cond, zNk w = true → w.onTables = true := by
  intro w h
  cases w <;> first | rfl | simp [zNk] at h
theorem lw_sr : ∀ q ∈ zSt, Cond.stringRef q.1 q.2.1 q.2.2 ∈ lw_tbl := by decide +kernel
theorem lw_ex : ∀ q ∈ zSt, Cond.exactly (.string q.1 q.2.1) "java/lang/String" ∈ flatC (Jvm.Cond.and given_1 narrow_1) := by decide +kernel
theorem lw_nc : ∀ q ∈ zNcL, Cond.not (.castable q.1 q.2) ∈ flatC (Jvm.Cond.and given_1 narrow_1) := by decide +kernel
theorem lw_z1 : Cond.laysStatic Bundle.tN "UNASSIGNED_STACK" Bundle.steD ∈ lw_tbl ∧ Cond.laysStatic Bundle.tN "SUPPRESSED_SENTINEL" Bundle.listD ∈ lw_tbl ∧ Cond.initialized Bundle.tN ∈ lw_tbl := by decide +kernel
theorem lw_z2 : Cond.isRef (.static Bundle.tN "UNASSIGNED_STACK" Bundle.steD) ∈ flatC (Jvm.Cond.and given_1 narrow_1) ∧ Cond.isRef (.static Bundle.tN "SUPPRESSED_SENTINEL" Bundle.listD) ∈ flatC (Jvm.Cond.and given_1 narrow_1) := by decide +kernel
theorem lw_arr {args : Array Value} {s : State} {ty : FieldType} (h : (Cond.arrayClass ty).before args s = true) : ∃ cA : ClassId, s.vm.findClass ("[" ++ ty.toString) = some cA ∧ ArrOfT s cA ty := by
  obtain ⟨cA, kA, comp, h1, h2, h3⟩ := Cond.arrayClass_spec h
  exact ⟨cA, h1, fun n z => ⟨fun k h => (by cases h), kA, h2, comp, h3⟩⟩
theorem lw_ev (hts : ∀ w ∈ lw_tbl, w.before #[Value.ref b0] s = true) (hg : (Jvm.Cond.and given_1 narrow_1).before #[Value.ref b0] s = true) : zEv (fun q => s.heap.size ≤ q) s s.heap := by
  have hf := flat_of_before _ hg
  refine ⟨fun w hw => va_Nw.of (zNk_on w (List.mem_filter.mp hw).2) (hts w (List.mem_filter.mp hw).1), fun q hq => ?_, fun q hq => va_Nc.of (hf _ (lw_nc q hq)), vx_Zqof (hts _ lw_z1.1) (hts _ lw_z1.2.2) (hf _ lw_z2.1) (fun a h => Nat.not_le.mpr h), vx_Zqof (hts _ lw_z1.2.1) (hts _ lw_z1.2.2) (hf _ lw_z2.2) (fun a h => Nat.not_le.mpr h)⟩
  obtain ⟨sa, -, -, -, e1, -⟩ := Cond.exactly_spec (hf _ (lw_ex q hq))
  exact ⟨sa, vk_R.of (hts _ (lw_sr q hq)) e1⟩
set_option maxHeartbeats 4000000 in
set_option maxRecDepth 100000 in
theorem lw_main (hlt : l.stackTraces = false) (hexec : p.tables.exec = Jvm.exec) (hcode : c.code = cL_law) (hml : c.maxLocals = 9) (hown : s.vm.findClass RL = some m.cls) (hts : ∀ w ∈ lw_tbl, w.before #[Value.ref b0] s = true) (hX : va_X b0 L xs s s.heap) (hbl : b0 < s.heap.size) (hlocks : meth.locks = false) (hg : (Jvm.Cond.and given_1 narrow_1).before #[Value.ref b0] s = true) (hL : L ≤ 2048)
    (kend : ∀ (H : Heap) (locs : List Loc) (ls : Array Slot) (cells slots : Nat), (∀ q ∈ locs, s.heap.size ≤ q.base) → cells ≤ 1087 → slots ≤ 9136 → W p l e room_1 s m #[Value.ref b0] below meth c H locs cells slots Q (F0 m 1142 ls [.int 1])) :
    W p l e room_1 s m #[Value.ref b0] below meth c s.heap [] 0 0 Q (entryFrame m ([Value.ref b0] : List Value).toArray 9) := by
  have hall : ∀ w ∈ lw_all, w.before #[Value.ref b0] s = true := fun w hw => hts w (List.mem_filter.mp hw).1
  obtain ⟨c0, i0, k0⟩ := u_known hall wu_X0 (hall _ wz_X0)
  obtain ⟨c1, i1, k1⟩ := u_known hall wu_X1 (hall _ wz_X1)
  obtain ⟨c2, i2, k2⟩ := u_known hall wu_X2 (hall _ wz_X2)
  obtain ⟨c3, i3, k3⟩ := u_known hall wu_X3 (hall _ wz_X3)
  obtain ⟨c4, i4, k4⟩ := u_known hall wu_X4 (hall _ wz_X4)
  obtain ⟨cI, nI1, aI⟩ := lw_arr (hall _ wa_int)
  obtain ⟨cZ, nZ1, aZ⟩ := lw_arr (hall _ wa_boolean)
  obtain ⟨cJ, nJ1, aJ⟩ := lw_arr (hall _ wa_long)
  obtain ⟨D, hD⟩ : ∃ D : va_G, D = ((fun k => match k with | 0 => c0 | 1 => c1 | 2 => c2 | 3 => c3 | _ => c4), (fun k => match k with | 0 => i0 | 1 => i1 | 2 => i2 | 3 => i3 | _ => i4)) := ⟨_, rfl⟩
  have hK : va_K D vwCl (tyL cI cZ cJ) s := by
    subst hD
    refine ⟨fun k q hq => ?_, fun k q hq => ?_⟩
    · rcases k with _ | _ | _ | _ | _ | k
      · cases hq; exact k0
      · cases hq; exact k1
      · cases hq; exact k2
      · cases hq; exact k3
      · cases hq; exact k4
      · exact absurd hq (by simp)
    · rcases k with _ | _ | _ | k
      · cases hq; exact ⟨aI, nI1⟩
      · cases hq; exact ⟨aZ, nZ1⟩
      · cases hq; exact ⟨aJ, nJ1⟩
      · exact absurd hq (by simp)
  have C : zX p s m #[Value.ref b0] meth c D (tyL cI cZ cJ) (fun q => s.heap.size ≤ q) RL cL_law 9 := ⟨hexec, hcode, hml, hown, hall, hK, fun q h => h, hlocks, lw_ev hts hg⟩
  have hbA : ¬ (fun q => s.heap.size ≤ q) b0 := Nat.not_le.mpr hbl
  have key : zK p l e room_1 s m #[Value.ref b0] below meth c D (fun q => s.heap.size ≤ q) 9 Q 0 0 0 [(0, .ref b0)] [] [] := by
    refine z_new C (ci := 2) (fs := [.null, .null]) wu_X2 tyX2_ok wl_L_8 wz_X2 wi_X2 rfl (fun j hj => by rcases (show j = 0 ∨ j = 1 by omega) with rfl | rfl <;> rfl) ⟨Nat.le_of_ble_eq_true rfl, Nat.le_of_ble_eq_true rfl⟩ dL_law_0 (fun t => ?_)
    refine z_eq (B' := [([(t, .inr (.inr (.inr (2, [.null, .null]))))], zZ)]) rfl ?_
    refine z_dup C rfl dL_law_3 ?_
    refine z_callI (ret := none) C [true] rfl (c_X2_init l D cI cZ cJ t) wq_yX2_init wm_L_62 ⟨rfl, wn_yX2_init⟩ ⟨rfl, rfl, Nat.le_of_ble_eq_true rfl, Nat.le_of_ble_eq_true rfl⟩ rfl rfl (Nat.le_of_ble_eq_true rfl) dL_law_4 ⟨Nat.le_of_ble_eq_true rfl, Nat.le_of_ble_eq_true rfl⟩ ?_
    rintro r w ⟨rfl, a, ta, rfl⟩
    refine z_eq (B' := [(shT t a ta, zZ), (shF a cI cZ, fl_begP 5 5 zZ), (shF ta cI cZ, zZ)]) rfl ?_
    refine z_astore_n C (L' := [(1, .ref t), (0, .ref b0)]) dL_law_7 rfl (by decide) rfl ?_
    refine z_new C (ci := 4) (fs := [.int 0, .null, .null]) wu_X4 tyX4_ok wl_L_63 wz_X4 wi_X4 rfl (fun j hj => by rcases (show j = 0 ∨ j = 1 ∨ j = 2 by omega) with rfl | rfl | rfl <;> rfl) ⟨Nat.le_of_ble_eq_true rfl, Nat.le_of_ble_eq_true rfl⟩ dL_law_8 (fun u => ?_)
    refine z_eq (B' := [(shT t a ta, zZ), (shF a cI cZ, fl_begP 5 5 zZ), (shF ta cI cZ, zZ), ([(u, .inr (.inr (.inr (4, [.int 0, .null, .null]))))], zZ)]) rfl ?_
    refine z_dup C rfl dL_law_11 ?_
    refine z_callI (ret := none) C [false, false, false, true] rfl (c_X4_init l D cI cZ cJ u) wq_yX4_init wm_L_65 ⟨rfl, wn_yX4_init⟩ ⟨rfl, rfl, Nat.le_of_ble_eq_true rfl, Nat.le_of_ble_eq_true rfl⟩ rfl rfl (Nat.le_of_ble_eq_true rfl) dL_law_12 ⟨Nat.le_of_ble_eq_true rfl, Nat.le_of_ble_eq_true rfl⟩ ?_
    rintro r w ⟨rfl, a2, ta2, rfl⟩
    refine z_eq (B' := [(shT t a ta, zZ), (shF a cI cZ, fl_begP 5 5 zZ), (shF ta cI cZ, zZ), (shM u a2 ta2, zZ), (shS a2 cI, fl_begP 5 7 (zU zZ 0 0 (nI 5))), (shS ta2 cI, fl_begP 5 7 (zU zZ 0 0 (nI 5)))]) rfl ?_
    refine z_astore_n C (L' := [(2, .ref u), (1, .ref t), (0, .ref b0)]) dL_law_15 rfl (by decide) rfl ?_
    refine z_iconst C (v := nI (1)) (by decide) dL_law_16 ?_
    refine z_newL C (atype := .long) (ty := .long) (cA := cJ) wa_long rfl rfl nJ1 (by decide) (by decide) ⟨Nat.le_of_ble_eq_true rfl, Nat.le_of_ble_eq_true rfl⟩ dL_law_17 (fun o => ?_)
    refine z_astore_n C (L' := [(3, .ref o), (2, .ref u), (1, .ref t), (0, .ref b0)]) dL_law_19 rfl (by decide) rfl ?_
    refine z_iconst C (v := nI (0)) (by decide) dL_law_20 ?_
    refine z_istore C (L' := [(4, .int (nI 0)), (3, .ref o), (2, .ref u), (1, .ref t), (0, .ref b0)]) dL_law_21 (by decide) rfl ?_
    refine z_eq (B' := [(shT t a ta, zZ), (shF a cI cZ, fl_begP 5 5 zZ), (shF ta cI cZ, zZ), (shM u a2 ta2, zZ), (shS a2 cI, fl_begP 5 7 (zU zZ 0 0 (nI 5))), (shS ta2 cI, fl_begP 5 7 (zU zZ 0 0 (nI 5))), ([(o, .inr (.inr (.inl (cJ, 1, .inr (.inl (fun _ => 0))))))], zZ)]) rfl ?_
    have kend2 : ∀ (L0 : List (Nat × Value)) (B : List zB) (cells slots : Nat), cells ≤ 1087 → slots ≤ 9136 → zK p l e room_1 s m #[Value.ref b0] below meth c D (fun q => s.heap.size ≤ q) 9 Q cells slots 1141 L0 [] B := fun L0 B cells slots hc hs => by
      refine z_iconst C (v := 1) (by decide) dL_law_1141 ?_
      exact fun H locs ls _ _ hS _ => kend H locs ls cells slots hS.2.2 hc hs
    exact lw_loop C hlt hX hbl hbA hL kend2 (L + 1) 0 0 _ _ 5 _ _ _ _ _ _ (by omega) (by omega) rfl (Nat.le_of_ble_eq_true rfl) (Nat.le_of_ble_eq_true rfl) (fl_begP_Iv (by decide) (by decide) (by decide) (fun _ _ => Or.inl rfl)) (fl_begP_Iv (by decide) (by decide) (by decide) (fun _ _ => Or.inl rfl)) fl_S_first
  rw [lg_entry_eq]
  exact key s.heap [] _ (fun k q h => by simp [zW] at h) ⟨fun i j p q h => by simp [zW] at h, fun k q h => by simp [zW] at h⟩ va_S.rf (lv_entry [Value.ref b0] (n := 9) (Nat.le_of_ble_eq_true rfl))
end ZLOOP
