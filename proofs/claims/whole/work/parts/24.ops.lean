theorem bx_cases (n : Nat) (hn : n < 2 ^ 31) (x : Int32) : (x < 0 ∨ nI n ≤ x) ∨ ∃ b, b < n ∧ x = nI b := by
  by_cases h : 0 ≤ x.toInt ∧ x.toInt < n
  · refine Or.inr ⟨x.toInt.toNat, by omega, ?_⟩
    rw [← Int32.toInt_inj, nI_toInt (by omega)]
    omega
  · left
    by_cases h0 : 0 ≤ x.toInt
    · right
      rw [Int32.le_iff_toInt_le, nI_toInt hn]
      omega
    · left
      rw [Int32.lt_iff_toInt_lt]
      show x.toInt < 0
      omega
theorem rl_cases (a k : Nat) (ha : a < 2 ^ 31) (hk : k < 2 ^ 31) (x : Int32) : (x < nI a ∨ nI k ≤ x) ∨ ∃ b, a ≤ b ∧ b < k ∧ x = nI b := by
  by_cases h : (a : Int) ≤ x.toInt ∧ x.toInt < k
  · refine Or.inr ⟨x.toInt.toNat, by omega, by omega, ?_⟩
    rw [← Int32.toInt_inj, nI_toInt (by omega)]
    omega
  · left
    by_cases h0 : (a : Int) ≤ x.toInt
    · right
      rw [Int32.le_iff_toInt_le, nI_toInt hk]
      omega
    · left
      rw [Int32.lt_iff_toInt_lt, nI_toInt ha]
      omega
theorem rg_cases (a k : Nat) (ha : a < 2 ^ 31) (hk : k < 2 ^ 31) (x : Int32) : (x < nI a ∨ nI k < x) ∨ ∃ b, a ≤ b ∧ b ≤ k ∧ x = nI b := by
  by_cases h : (a : Int) ≤ x.toInt ∧ x.toInt ≤ k
  · refine Or.inr ⟨x.toInt.toNat, by omega, by omega, ?_⟩
    rw [← Int32.toInt_inj, nI_toInt (by omega)]
    omega
  · left
    by_cases h0 : (a : Int) ≤ x.toInt
    · right
      rw [Int32.lt_iff_toInt_lt, nI_toInt hk]
      omega
    · left
      rw [Int32.lt_iff_toInt_lt, nI_toInt ha]
      omega
theorem r0_cases (k : Nat) (hk : k < 2 ^ 31) (x : Int32) : (x < 0 ∨ nI k < x) ∨ ∃ b, b ≤ k ∧ x = nI b := by
  rcases rg_cases 0 k (by omega) hk x with h | ⟨b, -, h1, h2⟩
  · exact Or.inl h
  · exact Or.inr ⟨b, h1, h2⟩
theorem lg_cmp_self (x : Int64) : lg_cmp x x = 0 := by simp [lg_cmp]
theorem fl_dceqT : ∀ v, v < 71 → ∀ k, k < 8 → 3 ≤ k → Op.cmpValue (FP.dcmp (FP.ddiv (FP.i2d (nI v)) (FP.i2d (nI k))) (FP.ddiv (FP.i2d (nI v)) (FP.i2d (nI k)))) .l = 0 := by decide +kernel
theorem fl_dceq {n : Nat} {σ : zF} (h : fl_Iv n σ) : Op.cmpValue (FP.dcmp (FP.ddiv (FP.i2d (nI (fl_sm (fl_kn σ) n))) (FP.i2d (nI n))) (FP.ddiv (FP.i2d (nI (fl_sm (fl_kn σ) n))) (FP.i2d (nI n)))) .l = 0 := fl_dceqT _ (by
  have h1 := fl_sm_le (f := fl_kn σ) (fun i hi => h.knT hi) n (Nat.le_refl n)
  have h7 := h.n7
  omega) n (by have := h.n7; omega) h.n3
theorem fl_snk_Iv {n : Nat} {σ : zF} (h : fl_Iv n σ) (b : Nat) : fl_Iv n (if σ 7 b = 0 then fl_raise σ b else zU σ 7 b (nI 0)) := by
  split
  · exact fl_raise_Iv h b
  · exact h.U7 b (by decide)
theorem fl_snk_S {n b : Nat} {σ ρ : zF} (h : fl_R n σ ρ) (hb : b < n) : fl_S n (if σ 7 b = 0 then fl_raise σ b else zU σ 7 b (nI 0)) (if ρ 7 b = 0 then fl_raise ρ b else zU ρ 7 b (nI 0)) := by
  rw [h.r 7 hb]
  split
  · exact h.raise hb
  · exact h.2.U 7 b rfl
section ZLAW
variable {p : Program} {l : Launch} {e : Env} {s : State} {m : MethodId} {args : Array Value} {below : List Frame} {meth : Method} {c : Code} {D : va_G} {cI cZ cJ : ClassId} {A : Nat → Prop} {Q : State → Prop} {t u o b0 L : Nat} {a ta a2 ta2 : Nat → Nat} {xs : Nat → Int32}
theorem z_sld {R : Room} {tys : List (ClassId × FieldType)} {own : String} {cc : ByteArray} {nL cells slots pc : Nat} {L0 : List (Nat × Value)} {st : List Value} {B : List zB} (C : zX p s m args meth c D tys A own cc nL) (hX : va_X b0 L xs s s.heap) (hbl : b0 < s.heap.size) (hbA : ¬ A b0) {i : Nat} (hi : i < L) (hL : L < 2 ^ 31) (hdg : decode cc pc = .ok (.iaload, 1)) (k : zK p l e R s m args below meth c D A nL Q cells slots (pc + 1) L0 (.int (xs i) :: st) B) : zK p l e R s m args below meth c D A nL Q cells slots pc L0 (.int (nI i) :: .ref b0 :: st) B := fun H locs ls hP hD hS hl => by
  refine va_sld C.1 C.2.1 hX hbl hbA hS (vp_in_nI hi hL) hdg ?_
  rw [nI_clamp (Nat.lt_trans hi hL)]
  exact k H locs ls hP hD hS hl
theorem z_slen {R : Room} {tys : List (ClassId × FieldType)} {own : String} {cc : ByteArray} {nL cells slots pc : Nat} {L0 : List (Nat × Value)} {st : List Value} {B : List zB} (C : zX p s m args meth c D tys A own cc nL) (hX : va_X b0 L xs s s.heap) (hbl : b0 < s.heap.size) (hbA : ¬ A b0) (hdg : decode cc pc = .ok (.arraylength, 1)) (k : zK p l e R s m args below meth c D A nL Q cells slots (pc + 1) L0 (.int (nI L) :: st) B) : zK p l e R s m args below meth c D A nL Q cells slots pc L0 (.ref b0 :: st) B := fun H locs ls hP hD hS hl => va_slen C.1 C.2.1 hX hbl hbA hS hdg (k H locs ls hP hD hS hl)
/-- what is left behind an operation, from anywhere with a little room -/
def lwG (p : Program) (l : Launch) (e : Env) (s : State) (m : MethodId) (args : Array Value) (below : List Frame) (meth : Method) (c : Code) (D : va_G) (A : Nat → Prop) (Q : State → Prop) (cI cZ cJ : ClassId) (t u o b0 : Nat) (a ta a2 ta2 : Nat → Nat) (pc i C S : Nat) : Prop :=
  ∀ (cells slots n : Nat) (σ τ κ ρ υ : zF) (g : Nat → Int64), cells ≤ C → slots ≤ S → fl_Iv n σ → fl_Iv n ρ → fl_S n σ ρ → zK p l e room_1 s m args below meth c D A 9 Q cells slots pc [(4, .int (nI i)), (3, .ref o), (2, .ref u), (1, .ref t), (0, .ref b0)] [] [(shT t a ta, zZ), (shF a cI cZ, σ), (shF ta cI cZ, τ), (shM u a2 ta2, κ), (shS a2 cI, ρ), (shS ta2 cI, υ), ([(o, .inr (.inr (.inl (cJ, 1, .inr (.inl g)))))], zZ)]
set_option maxHeartbeats 4000000 in
set_option maxRecDepth 100000 in
theorem lw_op0 (C : zX p s m args meth c D (tyL cI cZ cJ) A RL cL_law 9) (hlt : l.stackTraces = false) (hX : va_X b0 L xs s s.heap) (hbl : b0 < s.heap.size) (hbA : ¬ A b0) (hL : L ≤ 2048) {cells slots i n : Nat} {σ τ κ ρ υ : zF} {g : Nat → Int64} (hi : i + 4 ≤ L) (hc : cells ≤ 600) (hs : slots ≤ 4000) (hI : fl_Iv n σ) (hI2 : fl_Iv n ρ) (hS : fl_S n σ ρ) (kk : lwG p l e s m args below meth c D A Q cI cZ cJ t u o b0 a ta a2 ta2 1135 i (cells + 1) (slots + 6)) : zK p l e room_1 s m args below meth c D A 9 Q cells slots 124 [(4, .int (nI i)), (3, .ref o), (2, .ref u), (1, .ref t), (0, .ref b0)] [] [(shT t a ta, zZ), (shF a cI cZ, σ), (shF ta cI cZ, τ), (shM u a2 ta2, κ), (shS a2 cI, ρ), (shS ta2 cI, υ), ([(o, .inr (.inr (.inl (cJ, 1, .inr (.inl g)))))], zZ)] := by
  have hn3 := hI.n3
  have hn7 := hI.n7
  have hR : fl_R n σ ρ := ⟨hI, hS⟩
  rcases rg_cases 3 7 (by omega) (by omega) (xs (i + 1)) with hx | ⟨k, h3, h7, e1⟩
  · refine z_aload_n C dL_law_124 rfl 3 rfl ?_
    refine z_aload_n C dL_law_125 rfl 4 rfl ?_
    refine z_iload C dL_law_126 0 rfl ?_
    refine z_iconst C (v := nI (1)) (by decide) dL_law_128 ?_
    refine z_iaddN C dL_law_129 ?_
    refine z_sld C hX hbl hbA (by omega) (by omega) dL_law_130 ?_
    refine z_aload_n C dL_law_131 rfl 1 rfl ?_
    refine z_callSH C (n := 3) (st' := [.int (nI (1))]) (B' := [(shT t a ta, zZ), (shF a cI cZ, σ), (shF ta cI cZ, τ), (shM u a2 ta2, κ), (shS a2 cI, ρ), (shS ta2 cI, υ), ([(o, .inr (.inr (.inl (cJ, 1, .inr (.inl g)))))], zZ)]) [true, true, true, false, false, false, true] rfl (c_L_fleet_b1 l hlt D cI cZ cJ t a ta o g σ τ n hI (xs (i + 1)) hx) wk_yL_fleet wi_L ⟨by decide, by decide, by decide +kernel⟩ wm_L_66 ws_yL_fleet ⟨rfl, rfl, Nat.le_of_ble_eq_true rfl, Nat.le_of_ble_eq_true rfl⟩ rfl rfl (Nat.le_of_ble_eq_true rfl) dL_law_132 ⟨(by show _ ≤ 1087; omega), (by show _ ≤ 9136; omega)⟩ rfl rfl ?_
    refine z_istore C (L' := [(5, .int (nI (1))), (4, .int (nI (i))), (3, .ref (o)), (2, .ref (u)), (1, .ref (t)), (0, .ref (b0))]) dL_law_135 (by decide) rfl ?_
    refine z_aload_n C dL_law_137 rfl 3 rfl ?_
    refine z_aload_n C dL_law_138 rfl 5 rfl ?_
    refine z_iload C dL_law_139 1 rfl ?_
    refine z_iconst C (v := nI (1)) (by decide) dL_law_141 ?_
    refine z_iaddN C dL_law_142 ?_
    refine z_sld C hX hbl hbA (by omega) (by omega) dL_law_143 ?_
    refine z_cV C (st' := [.int (nI (0))]) (B' := [(shT t a ta, zZ), (shF a cI cZ, σ), (shF ta cI cZ, τ), (shM u a2 ta2, (zU κ 0 (0) (nI (1)))), (shS a2 cI, ρ), (shS ta2 cI, υ), ([(o, .inr (.inr (.inl (cJ, 1, .inr (.inl g)))))], zZ)]) [false, false, false, true, true, true, false] rfl (c_X4_fleet_b1 l D cI cZ cJ u a2 ta2 κ ρ υ n hI2 (xs (i + 1)) hx) wq_yX4_fleet wm_L_71 ⟨wn_yX4_fleet, wo_yX4_fleet⟩ ⟨rfl, rfl, Nat.le_of_ble_eq_true rfl, Nat.le_of_ble_eq_true rfl⟩ 3 rfl 0 rfl rfl rfl rfl (Nat.le_of_ble_eq_true rfl) dL_law_144 ⟨(by show _ ≤ 1087; omega), (by show _ ≤ 9136; omega)⟩ rfl rfl ?_
    refine z_istore C (L' := [(6, .int (nI (0))), (5, .int (nI (1))), (4, .int (nI (i))), (3, .ref (o)), (2, .ref (u)), (1, .ref (t)), (0, .ref (b0))]) dL_law_147 (by decide) rfl ?_
    refine z_aload_n C dL_law_149 rfl 4 rfl ?_
    refine z_cV C (st' := [.int ((zU κ 0 (0) (nI (1))) 0 (0))]) (B' := [(shT t a ta, zZ), (shF a cI cZ, σ), (shF ta cI cZ, τ), (shM u a2 ta2, (zU κ 0 (0) (nI (1)))), (shS a2 cI, ρ), (shS ta2 cI, υ), ([(o, .inr (.inr (.inl (cJ, 1, .inr (.inl g)))))], zZ)]) [false, false, false, true, true, true, false] rfl (c_X4_thrown l D cI cZ cJ u a2 ta2 (zU κ 0 (0) (nI (1))) ρ υ n hI2) wq_yX4_thrown wm_L_72 ⟨wn_yX4_thrown, wo_yX4_thrown⟩ ⟨rfl, rfl, Nat.le_of_ble_eq_true rfl, Nat.le_of_ble_eq_true rfl⟩ 3 rfl 0 rfl rfl rfl rfl (Nat.le_of_ble_eq_true rfl) dL_law_150 ⟨(by show _ ≤ 1087; omega), (by show _ ≤ 9136; omega)⟩ rfl rfl ?_
    refine z_top (y := nI (1)) (zU_self _ _ _ _) ?_
    refine z_iload C dL_law_153 1 rfl ?_
    refine z_icmp_eqN C (tgt := 160) dL_law_155 (by decide) (by omega) (by omega) (fun c_155 => ?_) (fun c_155 => ?_)
    · refine z_iload C dL_law_160 1 rfl ?_
      refine z_if_neN C (tgt := 177) dL_law_162 (by decide) (by omega) (fun c_162 => ?_) (fun c_162 => ?_)
      · refine z_goto C (tgt := 1135) dL_law_177 (by decide) ?_
        refine z_sub (L' := [(4, .int (nI i)), (3, .ref o), (2, .ref u), (1, .ref t), (0, .ref b0)]) [2, 3, 4, 5, 6] rfl ?_
        exact kk _ _ n σ τ (zU κ 0 (0) (nI (1))) ρ υ g (by omega) (by omega) (hI) (hI2) (hS)
      · exact absurd c_162 (by omega)
    · exact absurd rfl c_155
  · refine z_aload_n C dL_law_124 rfl 3 rfl ?_
    refine z_aload_n C dL_law_125 rfl 4 rfl ?_
    refine z_iload C dL_law_126 0 rfl ?_
    refine z_iconst C (v := nI (1)) (by decide) dL_law_128 ?_
    refine z_iaddN C dL_law_129 ?_
    refine z_sld C hX hbl hbA (by omega) (by omega) dL_law_130 ?_
    refine z_top (y := nI (k)) e1 ?_
    refine z_aload_n C dL_law_131 rfl 1 rfl ?_
    refine z_callSH C (n := 3) (st' := [.int (nI (0))]) (B' := [(shT t a ta, zZ), (shF a cI cZ, (fl_begP k k σ)), (shF ta cI cZ, τ), (shM u a2 ta2, κ), (shS a2 cI, ρ), (shS ta2 cI, υ), ([(o, .inr (.inr (.inl (cJ, 1, .inr (.inl (vp_updL g 0 ((nI ((k / 2) + 1)).toInt64)))))))], zZ)]) [true, true, true, false, false, false, true] rfl (c_L_fleet l hlt D cI cZ cJ t a ta o g σ τ n hI k h3 h7) wk_yL_fleet wi_L ⟨by decide, by decide, by decide +kernel⟩ wm_L_66 ws_yL_fleet ⟨rfl, rfl, Nat.le_of_ble_eq_true rfl, Nat.le_of_ble_eq_true rfl⟩ rfl rfl (Nat.le_of_ble_eq_true rfl) dL_law_132 ⟨(by show _ ≤ 1087; omega), (by show _ ≤ 9136; omega)⟩ rfl rfl ?_
    refine z_istore C (L' := [(5, .int (nI (0))), (4, .int (nI (i))), (3, .ref (o)), (2, .ref (u)), (1, .ref (t)), (0, .ref (b0))]) dL_law_135 (by decide) rfl ?_
    refine z_aload_n C dL_law_137 rfl 3 rfl ?_
    refine z_aload_n C dL_law_138 rfl 5 rfl ?_
    refine z_iload C dL_law_139 1 rfl ?_
    refine z_iconst C (v := nI (1)) (by decide) dL_law_141 ?_
    refine z_iaddN C dL_law_142 ?_
    refine z_sld C hX hbl hbA (by omega) (by omega) dL_law_143 ?_
    refine z_top (y := nI (k)) e1 ?_
    refine z_cV C (st' := [.int (nI ((k / 2) + 1))]) (B' := [(shT t a ta, zZ), (shF a cI cZ, (fl_begP k k σ)), (shF ta cI cZ, τ), (shM u a2 ta2, (zU κ 0 (0) (nI (0)))), (shS a2 cI, (fl_begP k 7 ρ)), (shS ta2 cI, υ), ([(o, .inr (.inr (.inl (cJ, 1, .inr (.inl (vp_updL g 0 ((nI ((k / 2) + 1)).toInt64)))))))], zZ)]) [false, false, false, true, true, true, false] rfl (c_X4_fleet l D cI cZ cJ u a2 ta2 κ ρ υ n hI2 k h3 h7) wq_yX4_fleet wm_L_71 ⟨wn_yX4_fleet, wo_yX4_fleet⟩ ⟨rfl, rfl, Nat.le_of_ble_eq_true rfl, Nat.le_of_ble_eq_true rfl⟩ 3 rfl 0 rfl rfl rfl rfl (Nat.le_of_ble_eq_true rfl) dL_law_144 ⟨(by show _ ≤ 1087; omega), (by show _ ≤ 9136; omega)⟩ rfl rfl ?_
    refine z_istore C (L' := [(6, .int (nI ((k / 2) + 1))), (5, .int (nI (0))), (4, .int (nI (i))), (3, .ref (o)), (2, .ref (u)), (1, .ref (t)), (0, .ref (b0))]) dL_law_147 (by decide) rfl ?_
    refine z_aload_n C dL_law_149 rfl 4 rfl ?_
    refine z_cV C (st' := [.int ((zU κ 0 (0) (nI (0))) 0 (0))]) (B' := [(shT t a ta, zZ), (shF a cI cZ, (fl_begP k k σ)), (shF ta cI cZ, τ), (shM u a2 ta2, (zU κ 0 (0) (nI (0)))), (shS a2 cI, (fl_begP k 7 ρ)), (shS ta2 cI, υ), ([(o, .inr (.inr (.inl (cJ, 1, .inr (.inl (vp_updL g 0 ((nI ((k / 2) + 1)).toInt64)))))))], zZ)]) [false, false, false, true, true, true, false] rfl (c_X4_thrown l D cI cZ cJ u a2 ta2 (zU κ 0 (0) (nI (0))) (fl_begP k 7 ρ) υ k (fl_begP_Iv h3 h7 h7 hI2.u7)) wq_yX4_thrown wm_L_72 ⟨wn_yX4_thrown, wo_yX4_thrown⟩ ⟨rfl, rfl, Nat.le_of_ble_eq_true rfl, Nat.le_of_ble_eq_true rfl⟩ 3 rfl 0 rfl rfl rfl rfl (Nat.le_of_ble_eq_true rfl) dL_law_150 ⟨(by show _ ≤ 1087; omega), (by show _ ≤ 9136; omega)⟩ rfl rfl ?_
    refine z_top (y := nI (0)) (zU_self _ _ _ _) ?_
    refine z_iload C dL_law_153 1 rfl ?_
    refine z_icmp_eqN C (tgt := 160) dL_law_155 (by decide) (by omega) (by omega) (fun c_155 => ?_) (fun c_155 => ?_)
    · refine z_iload C dL_law_160 1 rfl ?_
      refine z_if_neN C (tgt := 177) dL_law_162 (by decide) (by omega) (fun c_162 => ?_) (fun c_162 => ?_)
      · exact absurd c_162 (by omega)
      · refine z_aload_n C dL_law_165 rfl 3 rfl ?_
        refine z_iconst C (v := nI (0)) (by decide) dL_law_166 ?_
        refine z_lald C 6 rfl 0 2 rfl rfl dL_law_167 (by decide) (by decide) ?_
        refine z_topV (y := .long ((nI ((k / 2) + 1)).toInt64)) (congrArg Value.long (by simp [vp_updL])) ?_
        refine z_iload C dL_law_168 0 rfl ?_
        refine z_i2l C (v := (nI ((k / 2) + 1)).toInt64) rfl dL_law_170 ?_
        refine z_lcmp C dL_law_171 ?_
        refine z_if_eq C (tgt := 177) dL_law_172 (by decide) (fun c_172 => ?_) (fun c_172 => ?_)
        · refine z_goto C (tgt := 1135) dL_law_177 (by decide) ?_
          refine z_sub (L' := [(4, .int (nI i)), (3, .ref o), (2, .ref u), (1, .ref t), (0, .ref b0)]) [2, 3, 4, 5, 6] rfl ?_
          exact kk _ _ k (fl_begP k k σ) τ (zU κ 0 (0) (nI (0))) (fl_begP k 7 ρ) υ (vp_updL g 0 ((nI ((k / 2) + 1)).toInt64)) (by omega) (by omega) (fl_begP_Iv h3 h7 (Nat.le_refl k) hI.u7) (fl_begP_Iv h3 h7 h7 hI2.u7) (hS.begP k h7)
        · exact absurd (lg_cmp_self _) c_172
    · exact absurd rfl c_155
set_option maxHeartbeats 4000000 in
set_option maxRecDepth 100000 in
theorem lw_op1 (C : zX p s m args meth c D (tyL cI cZ cJ) A RL cL_law 9) (hlt : l.stackTraces = false) (hX : va_X b0 L xs s s.heap) (hbl : b0 < s.heap.size) (hbA : ¬ A b0) (hL : L ≤ 2048) {cells slots i n : Nat} {σ τ κ ρ υ : zF} {g : Nat → Int64} (hi : i + 4 ≤ L) (hc : cells ≤ 600) (hs : slots ≤ 4000) (hI : fl_Iv n σ) (hI2 : fl_Iv n ρ) (hS : fl_S n σ ρ) (kk : lwG p l e s m args below meth c D A Q cI cZ cJ t u o b0 a ta a2 ta2 1135 i (cells + 1) (slots + 6)) : zK p l e room_1 s m args below meth c D A 9 Q cells slots 180 [(4, .int (nI i)), (3, .ref o), (2, .ref u), (1, .ref t), (0, .ref b0)] [] [(shT t a ta, zZ), (shF a cI cZ, σ), (shF ta cI cZ, τ), (shM u a2 ta2, κ), (shS a2 cI, ρ), (shS ta2 cI, υ), ([(o, .inr (.inr (.inl (cJ, 1, .inr (.inl g)))))], zZ)] := by
  have hn3 := hI.n3
  have hn7 := hI.n7
  have hR : fl_R n σ ρ := ⟨hI, hS⟩
  rcases bx_cases n (by omega) (xs (i + 1)) with hx | ⟨b, hb, e1⟩
  · refine z_aload_n C dL_law_180 rfl 3 rfl ?_
    refine z_aload_n C dL_law_181 rfl 4 rfl ?_
    refine z_iload C dL_law_182 0 rfl ?_
    refine z_iconst C (v := nI (1)) (by decide) dL_law_184 ?_
    refine z_iaddN C dL_law_185 ?_
    refine z_sld C hX hbl hbA (by omega) (by omega) dL_law_186 ?_
    refine z_aload_n C dL_law_187 rfl 4 rfl ?_
    refine z_iload C dL_law_188 0 rfl ?_
    refine z_iconst C (v := nI (2)) (by decide) dL_law_190 ?_
    refine z_iaddN C dL_law_191 ?_
    refine z_sld C hX hbl hbA (by omega) (by omega) dL_law_192 ?_
    refine z_aload_n C dL_law_193 rfl 1 rfl ?_
    refine z_callSH C (n := 4) (st' := [.int (nI (1))]) (B' := [(shT t a ta, zZ), (shF a cI cZ, σ), (shF ta cI cZ, τ), (shM u a2 ta2, κ), (shS a2 cI, ρ), (shS ta2 cI, υ), ([(o, .inr (.inr (.inl (cJ, 1, .inr (.inl g)))))], zZ)]) [true, true, true, false, false, false, true] rfl (c_L_setPatience_b1 l hlt D cI cZ cJ t a ta o g σ τ n hI (xs (i + 1)) (xs (i + 2)) hx) wk_yL_setPatience wi_L ⟨by decide, by decide, by decide +kernel⟩ wm_L_76 ws_yL_setPatience ⟨rfl, rfl, Nat.le_of_ble_eq_true rfl, Nat.le_of_ble_eq_true rfl⟩ rfl rfl (Nat.le_of_ble_eq_true rfl) dL_law_194 ⟨(by show _ ≤ 1087; omega), (by show _ ≤ 9136; omega)⟩ rfl rfl ?_
    refine z_istore C (L' := [(5, .int (nI (1))), (4, .int (nI (i))), (3, .ref (o)), (2, .ref (u)), (1, .ref (t)), (0, .ref (b0))]) dL_law_197 (by decide) rfl ?_
    refine z_aload_n C dL_law_199 rfl 3 rfl ?_
    refine z_aload_n C dL_law_200 rfl 5 rfl ?_
    refine z_iload C dL_law_201 1 rfl ?_
    refine z_iconst C (v := nI (1)) (by decide) dL_law_203 ?_
    refine z_iaddN C dL_law_204 ?_
    refine z_sld C hX hbl hbA (by omega) (by omega) dL_law_205 ?_
    refine z_aload_n C dL_law_206 rfl 5 rfl ?_
    refine z_iload C dL_law_207 1 rfl ?_
    refine z_iconst C (v := nI (2)) (by decide) dL_law_209 ?_
    refine z_iaddN C dL_law_210 ?_
    refine z_sld C hX hbl hbA (by omega) (by omega) dL_law_211 ?_
    refine z_cV C (st' := [.int (nI (0))]) (B' := [(shT t a ta, zZ), (shF a cI cZ, σ), (shF ta cI cZ, τ), (shM u a2 ta2, (zU κ 0 (0) (nI (1)))), (shS a2 cI, ρ), (shS ta2 cI, υ), ([(o, .inr (.inr (.inl (cJ, 1, .inr (.inl g)))))], zZ)]) [false, false, false, true, true, true, false] rfl (c_X4_setPatience_b1 l D cI cZ cJ u a2 ta2 κ ρ υ n hI2 (xs (i + 1)) (xs (i + 2)) hx) wq_yX4_setPatience wm_L_79 ⟨wn_yX4_setPatience, wo_yX4_setPatience⟩ ⟨rfl, rfl, Nat.le_of_ble_eq_true rfl, Nat.le_of_ble_eq_true rfl⟩ 3 rfl 0 rfl rfl rfl rfl (Nat.le_of_ble_eq_true rfl) dL_law_212 ⟨(by show _ ≤ 1087; omega), (by show _ ≤ 9136; omega)⟩ rfl rfl ?_
    refine z_istore C (L' := [(6, .int (nI (0))), (5, .int (nI (1))), (4, .int (nI (i))), (3, .ref (o)), (2, .ref (u)), (1, .ref (t)), (0, .ref (b0))]) dL_law_215 (by decide) rfl ?_
    refine z_aload_n C dL_law_217 rfl 4 rfl ?_
    refine z_cV C (st' := [.int ((zU κ 0 (0) (nI (1))) 0 (0))]) (B' := [(shT t a ta, zZ), (shF a cI cZ, σ), (shF ta cI cZ, τ), (shM u a2 ta2, (zU κ 0 (0) (nI (1)))), (shS a2 cI, ρ), (shS ta2 cI, υ), ([(o, .inr (.inr (.inl (cJ, 1, .inr (.inl g)))))], zZ)]) [false, false, false, true, true, true, false] rfl (c_X4_thrown l D cI cZ cJ u a2 ta2 (zU κ 0 (0) (nI (1))) ρ υ n hI2) wq_yX4_thrown wm_L_72 ⟨wn_yX4_thrown, wo_yX4_thrown⟩ ⟨rfl, rfl, Nat.le_of_ble_eq_true rfl, Nat.le_of_ble_eq_true rfl⟩ 3 rfl 0 rfl rfl rfl rfl (Nat.le_of_ble_eq_true rfl) dL_law_218 ⟨(by show _ ≤ 1087; omega), (by show _ ≤ 9136; omega)⟩ rfl rfl ?_
    refine z_top (y := nI (1)) (zU_self _ _ _ _) ?_
    refine z_iload C dL_law_221 1 rfl ?_
    refine z_icmp_eqN C (tgt := 228) dL_law_223 (by decide) (by omega) (by omega) (fun c_223 => ?_) (fun c_223 => ?_)
    · refine z_iload C dL_law_228 1 rfl ?_
      refine z_if_neN C (tgt := 245) dL_law_230 (by decide) (by omega) (fun c_230 => ?_) (fun c_230 => ?_)
      · refine z_goto C (tgt := 1135) dL_law_245 (by decide) ?_
        refine z_sub (L' := [(4, .int (nI i)), (3, .ref o), (2, .ref u), (1, .ref t), (0, .ref b0)]) [2, 3, 4, 5, 6] rfl ?_
        exact kk _ _ n σ τ (zU κ 0 (0) (nI (1))) ρ υ g (by omega) (by omega) (hI) (hI2) (hS)
      · exact absurd c_230 (by omega)
    · exact absurd rfl c_223
  · rcases rg_cases 2 9 (by omega) (by omega) (xs (i + 2)) with hx | ⟨k, h2, h9, e2⟩
    · refine z_aload_n C dL_law_180 rfl 3 rfl ?_
      refine z_aload_n C dL_law_181 rfl 4 rfl ?_
      refine z_iload C dL_law_182 0 rfl ?_
      refine z_iconst C (v := nI (1)) (by decide) dL_law_184 ?_
      refine z_iaddN C dL_law_185 ?_
      refine z_sld C hX hbl hbA (by omega) (by omega) dL_law_186 ?_
      refine z_top (y := nI (b)) e1 ?_
      refine z_aload_n C dL_law_187 rfl 4 rfl ?_
      refine z_iload C dL_law_188 0 rfl ?_
      refine z_iconst C (v := nI (2)) (by decide) dL_law_190 ?_
      refine z_iaddN C dL_law_191 ?_
      refine z_sld C hX hbl hbA (by omega) (by omega) dL_law_192 ?_
      refine z_aload_n C dL_law_193 rfl 1 rfl ?_
      refine z_callSH C (n := 4) (st' := [.int (nI (2))]) (B' := [(shT t a ta, zZ), (shF a cI cZ, σ), (shF ta cI cZ, τ), (shM u a2 ta2, κ), (shS a2 cI, ρ), (shS ta2 cI, υ), ([(o, .inr (.inr (.inl (cJ, 1, .inr (.inl g)))))], zZ)]) [true, true, true, false, false, false, true] rfl (c_L_setPatience_b2 l hlt D cI cZ cJ t a ta o g σ τ n hI b (xs (i + 2)) hb hx) wk_yL_setPatience wi_L ⟨by decide, by decide, by decide +kernel⟩ wm_L_76 ws_yL_setPatience ⟨rfl, rfl, Nat.le_of_ble_eq_true rfl, Nat.le_of_ble_eq_true rfl⟩ rfl rfl (Nat.le_of_ble_eq_true rfl) dL_law_194 ⟨(by show _ ≤ 1087; omega), (by show _ ≤ 9136; omega)⟩ rfl rfl ?_
      refine z_istore C (L' := [(5, .int (nI (2))), (4, .int (nI (i))), (3, .ref (o)), (2, .ref (u)), (1, .ref (t)), (0, .ref (b0))]) dL_law_197 (by decide) rfl ?_
      refine z_aload_n C dL_law_199 rfl 3 rfl ?_
      refine z_aload_n C dL_law_200 rfl 5 rfl ?_
      refine z_iload C dL_law_201 1 rfl ?_
      refine z_iconst C (v := nI (1)) (by decide) dL_law_203 ?_
      refine z_iaddN C dL_law_204 ?_
      refine z_sld C hX hbl hbA (by omega) (by omega) dL_law_205 ?_
      refine z_top (y := nI (b)) e1 ?_
      refine z_aload_n C dL_law_206 rfl 5 rfl ?_
      refine z_iload C dL_law_207 1 rfl ?_
      refine z_iconst C (v := nI (2)) (by decide) dL_law_209 ?_
      refine z_iaddN C dL_law_210 ?_
      refine z_sld C hX hbl hbA (by omega) (by omega) dL_law_211 ?_
      refine z_cV C (st' := [.int (nI (0))]) (B' := [(shT t a ta, zZ), (shF a cI cZ, σ), (shF ta cI cZ, τ), (shM u a2 ta2, (zU κ 0 (0) (nI (2)))), (shS a2 cI, ρ), (shS ta2 cI, υ), ([(o, .inr (.inr (.inl (cJ, 1, .inr (.inl g)))))], zZ)]) [false, false, false, true, true, true, false] rfl (c_X4_setPatience_b2 l D cI cZ cJ u a2 ta2 κ ρ υ n hI2 b (xs (i + 2)) hb hx) wq_yX4_setPatience wm_L_79 ⟨wn_yX4_setPatience, wo_yX4_setPatience⟩ ⟨rfl, rfl, Nat.le_of_ble_eq_true rfl, Nat.le_of_ble_eq_true rfl⟩ 3 rfl 0 rfl rfl rfl rfl (Nat.le_of_ble_eq_true rfl) dL_law_212 ⟨(by show _ ≤ 1087; omega), (by show _ ≤ 9136; omega)⟩ rfl rfl ?_
      refine z_istore C (L' := [(6, .int (nI (0))), (5, .int (nI (2))), (4, .int (nI (i))), (3, .ref (o)), (2, .ref (u)), (1, .ref (t)), (0, .ref (b0))]) dL_law_215 (by decide) rfl ?_
      refine z_aload_n C dL_law_217 rfl 4 rfl ?_
      refine z_cV C (st' := [.int ((zU κ 0 (0) (nI (2))) 0 (0))]) (B' := [(shT t a ta, zZ), (shF a cI cZ, σ), (shF ta cI cZ, τ), (shM u a2 ta2, (zU κ 0 (0) (nI (2)))), (shS a2 cI, ρ), (shS ta2 cI, υ), ([(o, .inr (.inr (.inl (cJ, 1, .inr (.inl g)))))], zZ)]) [false, false, false, true, true, true, false] rfl (c_X4_thrown l D cI cZ cJ u a2 ta2 (zU κ 0 (0) (nI (2))) ρ υ n hI2) wq_yX4_thrown wm_L_72 ⟨wn_yX4_thrown, wo_yX4_thrown⟩ ⟨rfl, rfl, Nat.le_of_ble_eq_true rfl, Nat.le_of_ble_eq_true rfl⟩ 3 rfl 0 rfl rfl rfl rfl (Nat.le_of_ble_eq_true rfl) dL_law_218 ⟨(by show _ ≤ 1087; omega), (by show _ ≤ 9136; omega)⟩ rfl rfl ?_
      refine z_top (y := nI (2)) (zU_self _ _ _ _) ?_
      refine z_iload C dL_law_221 1 rfl ?_
      refine z_icmp_eqN C (tgt := 228) dL_law_223 (by decide) (by omega) (by omega) (fun c_223 => ?_) (fun c_223 => ?_)
      · refine z_iload C dL_law_228 1 rfl ?_
        refine z_if_neN C (tgt := 245) dL_law_230 (by decide) (by omega) (fun c_230 => ?_) (fun c_230 => ?_)
        · refine z_goto C (tgt := 1135) dL_law_245 (by decide) ?_
          refine z_sub (L' := [(4, .int (nI i)), (3, .ref o), (2, .ref u), (1, .ref t), (0, .ref b0)]) [2, 3, 4, 5, 6] rfl ?_
          exact kk _ _ n σ τ (zU κ 0 (0) (nI (2))) ρ υ g (by omega) (by omega) (hI) (hI2) (hS)
        · exact absurd c_230 (by omega)
      · exact absurd rfl c_223
    · refine z_aload_n C dL_law_180 rfl 3 rfl ?_
      refine z_aload_n C dL_law_181 rfl 4 rfl ?_
      refine z_iload C dL_law_182 0 rfl ?_
      refine z_iconst C (v := nI (1)) (by decide) dL_law_184 ?_
      refine z_iaddN C dL_law_185 ?_
      refine z_sld C hX hbl hbA (by omega) (by omega) dL_law_186 ?_
      refine z_top (y := nI (b)) e1 ?_
      refine z_aload_n C dL_law_187 rfl 4 rfl ?_
      refine z_iload C dL_law_188 0 rfl ?_
      refine z_iconst C (v := nI (2)) (by decide) dL_law_190 ?_
      refine z_iaddN C dL_law_191 ?_
      refine z_sld C hX hbl hbA (by omega) (by omega) dL_law_192 ?_
      refine z_top (y := nI (k)) e2 ?_
      refine z_aload_n C dL_law_193 rfl 1 rfl ?_
      refine z_callSH C (n := 4) (st' := [.int (nI (0))]) (B' := [(shT t a ta, zZ), (shF a cI cZ, (zU σ 1 b (nI k))), (shF ta cI cZ, τ), (shM u a2 ta2, κ), (shS a2 cI, ρ), (shS ta2 cI, υ), ([(o, .inr (.inr (.inl (cJ, 1, .inr (.inl (vp_updL g 0 ((σ 1 (b)).toInt64)))))))], zZ)]) [true, true, true, false, false, false, true] rfl (c_L_setPatience l hlt D cI cZ cJ t a ta o g σ τ n hI b k hb h2 h9) wk_yL_setPatience wi_L ⟨by decide, by decide, by decide +kernel⟩ wm_L_76 ws_yL_setPatience ⟨rfl, rfl, Nat.le_of_ble_eq_true rfl, Nat.le_of_ble_eq_true rfl⟩ rfl rfl (Nat.le_of_ble_eq_true rfl) dL_law_194 ⟨(by show _ ≤ 1087; omega), (by show _ ≤ 9136; omega)⟩ rfl rfl ?_
      refine z_istore C (L' := [(5, .int (nI (0))), (4, .int (nI (i))), (3, .ref (o)), (2, .ref (u)), (1, .ref (t)), (0, .ref (b0))]) dL_law_197 (by decide) rfl ?_
      refine z_aload_n C dL_law_199 rfl 3 rfl ?_
      refine z_aload_n C dL_law_200 rfl 5 rfl ?_
      refine z_iload C dL_law_201 1 rfl ?_
      refine z_iconst C (v := nI (1)) (by decide) dL_law_203 ?_
      refine z_iaddN C dL_law_204 ?_
      refine z_sld C hX hbl hbA (by omega) (by omega) dL_law_205 ?_
      refine z_top (y := nI (b)) e1 ?_
      refine z_aload_n C dL_law_206 rfl 5 rfl ?_
      refine z_iload C dL_law_207 1 rfl ?_
      refine z_iconst C (v := nI (2)) (by decide) dL_law_209 ?_
      refine z_iaddN C dL_law_210 ?_
      refine z_sld C hX hbl hbA (by omega) (by omega) dL_law_211 ?_
      refine z_top (y := nI (k)) e2 ?_
      refine z_cV C (st' := [.int (ρ 1 (b))]) (B' := [(shT t a ta, zZ), (shF a cI cZ, (zU σ 1 b (nI k))), (shF ta cI cZ, τ), (shM u a2 ta2, (zU κ 0 (0) (nI (0)))), (shS a2 cI, (zU ρ 1 b (nI k))), (shS ta2 cI, υ), ([(o, .inr (.inr (.inl (cJ, 1, .inr (.inl (vp_updL g 0 ((σ 1 (b)).toInt64)))))))], zZ)]) [false, false, false, true, true, true, false] rfl (c_X4_setPatience l D cI cZ cJ u a2 ta2 κ ρ υ n hI2 b k hb h2 h9) wq_yX4_setPatience wm_L_79 ⟨wn_yX4_setPatience, wo_yX4_setPatience⟩ ⟨rfl, rfl, Nat.le_of_ble_eq_true rfl, Nat.le_of_ble_eq_true rfl⟩ 3 rfl 0 rfl rfl rfl rfl (Nat.le_of_ble_eq_true rfl) dL_law_212 ⟨(by show _ ≤ 1087; omega), (by show _ ≤ 9136; omega)⟩ rfl rfl ?_
      refine z_top (y := σ 1 (b)) ((hR.r 1 hb).symm) ?_
      refine z_istore C (L' := [(6, .int (σ 1 (b))), (5, .int (nI (0))), (4, .int (nI (i))), (3, .ref (o)), (2, .ref (u)), (1, .ref (t)), (0, .ref (b0))]) dL_law_215 (by decide) rfl ?_
      refine z_aload_n C dL_law_217 rfl 4 rfl ?_
      refine z_cV C (st' := [.int ((zU κ 0 (0) (nI (0))) 0 (0))]) (B' := [(shT t a ta, zZ), (shF a cI cZ, (zU σ 1 b (nI k))), (shF ta cI cZ, τ), (shM u a2 ta2, (zU κ 0 (0) (nI (0)))), (shS a2 cI, (zU ρ 1 b (nI k))), (shS ta2 cI, υ), ([(o, .inr (.inr (.inl (cJ, 1, .inr (.inl (vp_updL g 0 ((σ 1 (b)).toInt64)))))))], zZ)]) [false, false, false, true, true, true, false] rfl (c_X4_thrown l D cI cZ cJ u a2 ta2 (zU κ 0 (0) (nI (0))) (zU ρ 1 b (nI k)) υ n (hI2.P 1 b _ (by omega))) wq_yX4_thrown wm_L_72 ⟨wn_yX4_thrown, wo_yX4_thrown⟩ ⟨rfl, rfl, Nat.le_of_ble_eq_true rfl, Nat.le_of_ble_eq_true rfl⟩ 3 rfl 0 rfl rfl rfl rfl (Nat.le_of_ble_eq_true rfl) dL_law_218 ⟨(by show _ ≤ 1087; omega), (by show _ ≤ 9136; omega)⟩ rfl rfl ?_
      refine z_top (y := nI (0)) (zU_self _ _ _ _) ?_
      refine z_iload C dL_law_221 1 rfl ?_
      refine z_icmp_eqN C (tgt := 228) dL_law_223 (by decide) (by omega) (by omega) (fun c_223 => ?_) (fun c_223 => ?_)
      · refine z_iload C dL_law_228 1 rfl ?_
        refine z_if_neN C (tgt := 245) dL_law_230 (by decide) (by omega) (fun c_230 => ?_) (fun c_230 => ?_)
        · exact absurd c_230 (by omega)
        · refine z_aload_n C dL_law_233 rfl 3 rfl ?_
          refine z_iconst C (v := nI (0)) (by decide) dL_law_234 ?_
          refine z_lald C 6 rfl 0 2 rfl rfl dL_law_235 (by decide) (by decide) ?_
          refine z_topV (y := .long ((σ 1 (b)).toInt64)) (congrArg Value.long (by simp [vp_updL])) ?_
          refine z_iload C dL_law_236 0 rfl ?_
          refine z_i2l C (v := (σ 1 (b)).toInt64) rfl dL_law_238 ?_
          refine z_lcmp C dL_law_239 ?_
          refine z_if_eq C (tgt := 245) dL_law_240 (by decide) (fun c_240 => ?_) (fun c_240 => ?_)
          · refine z_goto C (tgt := 1135) dL_law_245 (by decide) ?_
            refine z_sub (L' := [(4, .int (nI i)), (3, .ref o), (2, .ref u), (1, .ref t), (0, .ref b0)]) [2, 3, 4, 5, 6] rfl ?_
            exact kk _ _ n (zU σ 1 b (nI k)) τ (zU κ 0 (0) (nI (0))) (zU ρ 1 b (nI k)) υ (vp_updL g 0 ((σ 1 (b)).toInt64)) (by omega) (by omega) (hI.P 1 b _ (by omega)) (hI2.P 1 b _ (by omega)) (hS.U 1 b rfl)
          · exact absurd (lg_cmp_self _) c_240
      · exact absurd rfl c_223
set_option maxHeartbeats 4000000 in
set_option maxRecDepth 100000 in
theorem lw_op2 (C : zX p s m args meth c D (tyL cI cZ cJ) A RL cL_law 9) (hlt : l.stackTraces = false) (hX : va_X b0 L xs s s.heap) (hbl : b0 < s.heap.size) (hbA : ¬ A b0) (hL : L ≤ 2048) {cells slots i n : Nat} {σ τ κ ρ υ : zF} {g : Nat → Int64} (hi : i + 4 ≤ L) (hc : cells ≤ 600) (hs : slots ≤ 4000) (hI : fl_Iv n σ) (hI2 : fl_Iv n ρ) (hS : fl_S n σ ρ) (kk : lwG p l e s m args below meth c D A Q cI cZ cJ t u o b0 a ta a2 ta2 1135 i (cells + 1) (slots + 6)) : zK p l e room_1 s m args below meth c D A 9 Q cells slots 248 [(4, .int (nI i)), (3, .ref o), (2, .ref u), (1, .ref t), (0, .ref b0)] [] [(shT t a ta, zZ), (shF a cI cZ, σ), (shF ta cI cZ, τ), (shM u a2 ta2, κ), (shS a2 cI, ρ), (shS ta2 cI, υ), ([(o, .inr (.inr (.inl (cJ, 1, .inr (.inl g)))))], zZ)] := by
  have hn3 := hI.n3
  have hn7 := hI.n7
  have hR : fl_R n σ ρ := ⟨hI, hS⟩
  rcases bx_cases n (by omega) (xs (i + 1)) with hx | ⟨b, hb, e1⟩
  · refine z_aload_n C dL_law_248 rfl 3 rfl ?_
    refine z_aload_n C dL_law_249 rfl 4 rfl ?_
    refine z_iload C dL_law_250 0 rfl ?_
    refine z_iconst C (v := nI (1)) (by decide) dL_law_252 ?_
    refine z_iaddN C dL_law_253 ?_
    refine z_sld C hX hbl hbA (by omega) (by omega) dL_law_254 ?_
    refine z_aload_n C dL_law_255 rfl 4 rfl ?_
    refine z_iload C dL_law_256 0 rfl ?_
    refine z_iconst C (v := nI (2)) (by decide) dL_law_258 ?_
    refine z_iaddN C dL_law_259 ?_
    refine z_sld C hX hbl hbA (by omega) (by omega) dL_law_260 ?_
    refine z_aload_n C dL_law_261 rfl 1 rfl ?_
    refine z_callSH C (n := 4) (st' := [.int (nI (1))]) (B' := [(shT t a ta, zZ), (shF a cI cZ, σ), (shF ta cI cZ, τ), (shM u a2 ta2, κ), (shS a2 cI, ρ), (shS ta2 cI, υ), ([(o, .inr (.inr (.inl (cJ, 1, .inr (.inl g)))))], zZ)]) [true, true, true, false, false, false, true] rfl (c_L_go_b1 l hlt D cI cZ cJ t a ta o g σ τ n hI (xs (i + 1)) (xs (i + 2)) hx) wk_yL_go wi_L ⟨by decide, by decide, by decide +kernel⟩ wm_L_80 ws_yL_go ⟨rfl, rfl, Nat.le_of_ble_eq_true rfl, Nat.le_of_ble_eq_true rfl⟩ rfl rfl (Nat.le_of_ble_eq_true rfl) dL_law_262 ⟨(by show _ ≤ 1087; omega), (by show _ ≤ 9136; omega)⟩ rfl rfl ?_
    refine z_istore C (L' := [(5, .int (nI (1))), (4, .int (nI (i))), (3, .ref (o)), (2, .ref (u)), (1, .ref (t)), (0, .ref (b0))]) dL_law_265 (by decide) rfl ?_
    refine z_aload_n C dL_law_267 rfl 3 rfl ?_
    refine z_aload_n C dL_law_268 rfl 5 rfl ?_
    refine z_iload C dL_law_269 1 rfl ?_
    refine z_iconst C (v := nI (1)) (by decide) dL_law_271 ?_
    refine z_iaddN C dL_law_272 ?_
    refine z_sld C hX hbl hbA (by omega) (by omega) dL_law_273 ?_
    refine z_aload_n C dL_law_274 rfl 5 rfl ?_
    refine z_iload C dL_law_275 1 rfl ?_
    refine z_iconst C (v := nI (2)) (by decide) dL_law_277 ?_
    refine z_iaddN C dL_law_278 ?_
    refine z_sld C hX hbl hbA (by omega) (by omega) dL_law_279 ?_
    refine z_cV C (st' := [.int (nI (0))]) (B' := [(shT t a ta, zZ), (shF a cI cZ, σ), (shF ta cI cZ, τ), (shM u a2 ta2, (zU κ 0 (0) (nI (1)))), (shS a2 cI, ρ), (shS ta2 cI, υ), ([(o, .inr (.inr (.inl (cJ, 1, .inr (.inl g)))))], zZ)]) [false, false, false, true, true, true, false] rfl (c_X4_go_b1 l D cI cZ cJ u a2 ta2 κ ρ υ n hI2 (xs (i + 1)) (xs (i + 2)) hx) wq_yX4_go wm_L_82 ⟨wn_yX4_go, wo_yX4_go⟩ ⟨rfl, rfl, Nat.le_of_ble_eq_true rfl, Nat.le_of_ble_eq_true rfl⟩ 3 rfl 0 rfl rfl rfl rfl (Nat.le_of_ble_eq_true rfl) dL_law_280 ⟨(by show _ ≤ 1087; omega), (by show _ ≤ 9136; omega)⟩ rfl rfl ?_
    refine z_istore C (L' := [(6, .int (nI (0))), (5, .int (nI (1))), (4, .int (nI (i))), (3, .ref (o)), (2, .ref (u)), (1, .ref (t)), (0, .ref (b0))]) dL_law_283 (by decide) rfl ?_
    refine z_aload_n C dL_law_285 rfl 4 rfl ?_
    refine z_cV C (st' := [.int ((zU κ 0 (0) (nI (1))) 0 (0))]) (B' := [(shT t a ta, zZ), (shF a cI cZ, σ), (shF ta cI cZ, τ), (shM u a2 ta2, (zU κ 0 (0) (nI (1)))), (shS a2 cI, ρ), (shS ta2 cI, υ), ([(o, .inr (.inr (.inl (cJ, 1, .inr (.inl g)))))], zZ)]) [false, false, false, true, true, true, false] rfl (c_X4_thrown l D cI cZ cJ u a2 ta2 (zU κ 0 (0) (nI (1))) ρ υ n hI2) wq_yX4_thrown wm_L_72 ⟨wn_yX4_thrown, wo_yX4_thrown⟩ ⟨rfl, rfl, Nat.le_of_ble_eq_true rfl, Nat.le_of_ble_eq_true rfl⟩ 3 rfl 0 rfl rfl rfl rfl (Nat.le_of_ble_eq_true rfl) dL_law_286 ⟨(by show _ ≤ 1087; omega), (by show _ ≤ 9136; omega)⟩ rfl rfl ?_
    refine z_top (y := nI (1)) (zU_self _ _ _ _) ?_
    refine z_iload C dL_law_289 1 rfl ?_
    refine z_icmp_eqN C (tgt := 296) dL_law_291 (by decide) (by omega) (by omega) (fun c_291 => ?_) (fun c_291 => ?_)
    · refine z_iload C dL_law_296 1 rfl ?_
      refine z_if_neN C (tgt := 313) dL_law_298 (by decide) (by omega) (fun c_298 => ?_) (fun c_298 => ?_)
      · refine z_goto C (tgt := 1135) dL_law_313 (by decide) ?_
        refine z_sub (L' := [(4, .int (nI i)), (3, .ref o), (2, .ref u), (1, .ref t), (0, .ref b0)]) [2, 3, 4, 5, 6] rfl ?_
        exact kk _ _ n σ τ (zU κ 0 (0) (nI (1))) ρ υ g (by omega) (by omega) (hI) (hI2) (hS)
      · exact absurd c_298 (by omega)
    · exact absurd rfl c_291
  · rcases bx_cases 3 (by omega) (xs (i + 2)) with hx | ⟨h, hh, e2⟩
    · refine z_aload_n C dL_law_248 rfl 3 rfl ?_
      refine z_aload_n C dL_law_249 rfl 4 rfl ?_
      refine z_iload C dL_law_250 0 rfl ?_
      refine z_iconst C (v := nI (1)) (by decide) dL_law_252 ?_
      refine z_iaddN C dL_law_253 ?_
      refine z_sld C hX hbl hbA (by omega) (by omega) dL_law_254 ?_
      refine z_top (y := nI (b)) e1 ?_
      refine z_aload_n C dL_law_255 rfl 4 rfl ?_
      refine z_iload C dL_law_256 0 rfl ?_
      refine z_iconst C (v := nI (2)) (by decide) dL_law_258 ?_
      refine z_iaddN C dL_law_259 ?_
      refine z_sld C hX hbl hbA (by omega) (by omega) dL_law_260 ?_
      refine z_aload_n C dL_law_261 rfl 1 rfl ?_
      refine z_callSH C (n := 4) (st' := [.int (nI (1))]) (B' := [(shT t a ta, zZ), (shF a cI cZ, σ), (shF ta cI cZ, τ), (shM u a2 ta2, κ), (shS a2 cI, ρ), (shS ta2 cI, υ), ([(o, .inr (.inr (.inl (cJ, 1, .inr (.inl g)))))], zZ)]) [true, true, true, false, false, false, true] rfl (c_L_go_b2 l hlt D cI cZ cJ t a ta o g σ τ n hI b (xs (i + 2)) hb hx) wk_yL_go wi_L ⟨by decide, by decide, by decide +kernel⟩ wm_L_80 ws_yL_go ⟨rfl, rfl, Nat.le_of_ble_eq_true rfl, Nat.le_of_ble_eq_true rfl⟩ rfl rfl (Nat.le_of_ble_eq_true rfl) dL_law_262 ⟨(by show _ ≤ 1087; omega), (by show _ ≤ 9136; omega)⟩ rfl rfl ?_
      refine z_istore C (L' := [(5, .int (nI (1))), (4, .int (nI (i))), (3, .ref (o)), (2, .ref (u)), (1, .ref (t)), (0, .ref (b0))]) dL_law_265 (by decide) rfl ?_
      refine z_aload_n C dL_law_267 rfl 3 rfl ?_
      refine z_aload_n C dL_law_268 rfl 5 rfl ?_
      refine z_iload C dL_law_269 1 rfl ?_
      refine z_iconst C (v := nI (1)) (by decide) dL_law_271 ?_
      refine z_iaddN C dL_law_272 ?_
      refine z_sld C hX hbl hbA (by omega) (by omega) dL_law_273 ?_
      refine z_top (y := nI (b)) e1 ?_
      refine z_aload_n C dL_law_274 rfl 5 rfl ?_
      refine z_iload C dL_law_275 1 rfl ?_
      refine z_iconst C (v := nI (2)) (by decide) dL_law_277 ?_
      refine z_iaddN C dL_law_278 ?_
      refine z_sld C hX hbl hbA (by omega) (by omega) dL_law_279 ?_
      refine z_cV C (st' := [.int (nI (0))]) (B' := [(shT t a ta, zZ), (shF a cI cZ, σ), (shF ta cI cZ, τ), (shM u a2 ta2, (zU κ 0 (0) (nI (1)))), (shS a2 cI, ρ), (shS ta2 cI, υ), ([(o, .inr (.inr (.inl (cJ, 1, .inr (.inl g)))))], zZ)]) [false, false, false, true, true, true, false] rfl (c_X4_go_b2 l D cI cZ cJ u a2 ta2 κ ρ υ n hI2 b (xs (i + 2)) hb hx) wq_yX4_go wm_L_82 ⟨wn_yX4_go, wo_yX4_go⟩ ⟨rfl, rfl, Nat.le_of_ble_eq_true rfl, Nat.le_of_ble_eq_true rfl⟩ 3 rfl 0 rfl rfl rfl rfl (Nat.le_of_ble_eq_true rfl) dL_law_280 ⟨(by show _ ≤ 1087; omega), (by show _ ≤ 9136; omega)⟩ rfl rfl ?_
      refine z_istore C (L' := [(6, .int (nI (0))), (5, .int (nI (1))), (4, .int (nI (i))), (3, .ref (o)), (2, .ref (u)), (1, .ref (t)), (0, .ref (b0))]) dL_law_283 (by decide) rfl ?_
      refine z_aload_n C dL_law_285 rfl 4 rfl ?_
      refine z_cV C (st' := [.int ((zU κ 0 (0) (nI (1))) 0 (0))]) (B' := [(shT t a ta, zZ), (shF a cI cZ, σ), (shF ta cI cZ, τ), (shM u a2 ta2, (zU κ 0 (0) (nI (1)))), (shS a2 cI, ρ), (shS ta2 cI, υ), ([(o, .inr (.inr (.inl (cJ, 1, .inr (.inl g)))))], zZ)]) [false, false, false, true, true, true, false] rfl (c_X4_thrown l D cI cZ cJ u a2 ta2 (zU κ 0 (0) (nI (1))) ρ υ n hI2) wq_yX4_thrown wm_L_72 ⟨wn_yX4_thrown, wo_yX4_thrown⟩ ⟨rfl, rfl, Nat.le_of_ble_eq_true rfl, Nat.le_of_ble_eq_true rfl⟩ 3 rfl 0 rfl rfl rfl rfl (Nat.le_of_ble_eq_true rfl) dL_law_286 ⟨(by show _ ≤ 1087; omega), (by show _ ≤ 9136; omega)⟩ rfl rfl ?_
      refine z_top (y := nI (1)) (zU_self _ _ _ _) ?_
      refine z_iload C dL_law_289 1 rfl ?_
      refine z_icmp_eqN C (tgt := 296) dL_law_291 (by decide) (by omega) (by omega) (fun c_291 => ?_) (fun c_291 => ?_)
      · refine z_iload C dL_law_296 1 rfl ?_
        refine z_if_neN C (tgt := 313) dL_law_298 (by decide) (by omega) (fun c_298 => ?_) (fun c_298 => ?_)
        · refine z_goto C (tgt := 1135) dL_law_313 (by decide) ?_
          refine z_sub (L' := [(4, .int (nI i)), (3, .ref o), (2, .ref u), (1, .ref t), (0, .ref b0)]) [2, 3, 4, 5, 6] rfl ?_
          exact kk _ _ n σ τ (zU κ 0 (0) (nI (1))) ρ υ g (by omega) (by omega) (hI) (hI2) (hS)
        · exact absurd c_298 (by omega)
      · exact absurd rfl c_291
    · refine z_aload_n C dL_law_248 rfl 3 rfl ?_
      refine z_aload_n C dL_law_249 rfl 4 rfl ?_
      refine z_iload C dL_law_250 0 rfl ?_
      refine z_iconst C (v := nI (1)) (by decide) dL_law_252 ?_
      refine z_iaddN C dL_law_253 ?_
      refine z_sld C hX hbl hbA (by omega) (by omega) dL_law_254 ?_
      refine z_top (y := nI (b)) e1 ?_
      refine z_aload_n C dL_law_255 rfl 4 rfl ?_
      refine z_iload C dL_law_256 0 rfl ?_
      refine z_iconst C (v := nI (2)) (by decide) dL_law_258 ?_
      refine z_iaddN C dL_law_259 ?_
      refine z_sld C hX hbl hbA (by omega) (by omega) dL_law_260 ?_
      refine z_top (y := nI (h)) e2 ?_
      refine z_aload_n C dL_law_261 rfl 1 rfl ?_
      refine z_callSH C (n := 4) (st' := [.int (nI (0))]) (B' := [(shT t a ta, zZ), (shF a cI cZ, (zU σ 6 b (nI h))), (shF ta cI cZ, τ), (shM u a2 ta2, κ), (shS a2 cI, ρ), (shS ta2 cI, υ), ([(o, .inr (.inr (.inl (cJ, 1, .inr (.inl (vp_updL g 0 ((σ 6 (b)).toInt64)))))))], zZ)]) [true, true, true, false, false, false, true] rfl (c_L_go l hlt D cI cZ cJ t a ta o g σ τ n hI b h hb hh) wk_yL_go wi_L ⟨by decide, by decide, by decide +kernel⟩ wm_L_80 ws_yL_go ⟨rfl, rfl, Nat.le_of_ble_eq_true rfl, Nat.le_of_ble_eq_true rfl⟩ rfl rfl (Nat.le_of_ble_eq_true rfl) dL_law_262 ⟨(by show _ ≤ 1087; omega), (by show _ ≤ 9136; omega)⟩ rfl rfl ?_
      refine z_istore C (L' := [(5, .int (nI (0))), (4, .int (nI (i))), (3, .ref (o)), (2, .ref (u)), (1, .ref (t)), (0, .ref (b0))]) dL_law_265 (by decide) rfl ?_
      refine z_aload_n C dL_law_267 rfl 3 rfl ?_
      refine z_aload_n C dL_law_268 rfl 5 rfl ?_
      refine z_iload C dL_law_269 1 rfl ?_
      refine z_iconst C (v := nI (1)) (by decide) dL_law_271 ?_
      refine z_iaddN C dL_law_272 ?_
      refine z_sld C hX hbl hbA (by omega) (by omega) dL_law_273 ?_
      refine z_top (y := nI (b)) e1 ?_
      refine z_aload_n C dL_law_274 rfl 5 rfl ?_
      refine z_iload C dL_law_275 1 rfl ?_
      refine z_iconst C (v := nI (2)) (by decide) dL_law_277 ?_
      refine z_iaddN C dL_law_278 ?_
      refine z_sld C hX hbl hbA (by omega) (by omega) dL_law_279 ?_
      refine z_top (y := nI (h)) e2 ?_
      refine z_cV C (st' := [.int (ρ 6 (b))]) (B' := [(shT t a ta, zZ), (shF a cI cZ, (zU σ 6 b (nI h))), (shF ta cI cZ, τ), (shM u a2 ta2, (zU κ 0 (0) (nI (0)))), (shS a2 cI, (zU ρ 6 b (nI h))), (shS ta2 cI, υ), ([(o, .inr (.inr (.inl (cJ, 1, .inr (.inl (vp_updL g 0 ((σ 6 (b)).toInt64)))))))], zZ)]) [false, false, false, true, true, true, false] rfl (c_X4_go l D cI cZ cJ u a2 ta2 κ ρ υ n hI2 b h hb hh) wq_yX4_go wm_L_82 ⟨wn_yX4_go, wo_yX4_go⟩ ⟨rfl, rfl, Nat.le_of_ble_eq_true rfl, Nat.le_of_ble_eq_true rfl⟩ 3 rfl 0 rfl rfl rfl rfl (Nat.le_of_ble_eq_true rfl) dL_law_280 ⟨(by show _ ≤ 1087; omega), (by show _ ≤ 9136; omega)⟩ rfl rfl ?_
      refine z_top (y := σ 6 (b)) ((hR.r 6 hb).symm) ?_
      refine z_istore C (L' := [(6, .int (σ 6 (b))), (5, .int (nI (0))), (4, .int (nI (i))), (3, .ref (o)), (2, .ref (u)), (1, .ref (t)), (0, .ref (b0))]) dL_law_283 (by decide) rfl ?_
      refine z_aload_n C dL_law_285 rfl 4 rfl ?_
      refine z_cV C (st' := [.int ((zU κ 0 (0) (nI (0))) 0 (0))]) (B' := [(shT t a ta, zZ), (shF a cI cZ, (zU σ 6 b (nI h))), (shF ta cI cZ, τ), (shM u a2 ta2, (zU κ 0 (0) (nI (0)))), (shS a2 cI, (zU ρ 6 b (nI h))), (shS ta2 cI, υ), ([(o, .inr (.inr (.inl (cJ, 1, .inr (.inl (vp_updL g 0 ((σ 6 (b)).toInt64)))))))], zZ)]) [false, false, false, true, true, true, false] rfl (c_X4_thrown l D cI cZ cJ u a2 ta2 (zU κ 0 (0) (nI (0))) (zU ρ 6 b (nI h)) υ n (hI2.P 6 b _ (by omega))) wq_yX4_thrown wm_L_72 ⟨wn_yX4_thrown, wo_yX4_thrown⟩ ⟨rfl, rfl, Nat.le_of_ble_eq_true rfl, Nat.le_of_ble_eq_true rfl⟩ 3 rfl 0 rfl rfl rfl rfl (Nat.le_of_ble_eq_true rfl) dL_law_286 ⟨(by show _ ≤ 1087; omega), (by show _ ≤ 9136; omega)⟩ rfl rfl ?_
      refine z_top (y := nI (0)) (zU_self _ _ _ _) ?_
      refine z_iload C dL_law_289 1 rfl ?_
      refine z_icmp_eqN C (tgt := 296) dL_law_291 (by decide) (by omega) (by omega) (fun c_291 => ?_) (fun c_291 => ?_)
      · refine z_iload C dL_law_296 1 rfl ?_
        refine z_if_neN C (tgt := 313) dL_law_298 (by decide) (by omega) (fun c_298 => ?_) (fun c_298 => ?_)
        · exact absurd c_298 (by omega)
        · refine z_aload_n C dL_law_301 rfl 3 rfl ?_
          refine z_iconst C (v := nI (0)) (by decide) dL_law_302 ?_
          refine z_lald C 6 rfl 0 2 rfl rfl dL_law_303 (by decide) (by decide) ?_
          refine z_topV (y := .long ((σ 6 (b)).toInt64)) (congrArg Value.long (by simp [vp_updL])) ?_
          refine z_iload C dL_law_304 0 rfl ?_
          refine z_i2l C (v := (σ 6 (b)).toInt64) rfl dL_law_306 ?_
          refine z_lcmp C dL_law_307 ?_
          refine z_if_eq C (tgt := 313) dL_law_308 (by decide) (fun c_308 => ?_) (fun c_308 => ?_)
          · refine z_goto C (tgt := 1135) dL_law_313 (by decide) ?_
            refine z_sub (L' := [(4, .int (nI i)), (3, .ref o), (2, .ref u), (1, .ref t), (0, .ref b0)]) [2, 3, 4, 5, 6] rfl ?_
            exact kk _ _ n (zU σ 6 b (nI h)) τ (zU κ 0 (0) (nI (0))) (zU ρ 6 b (nI h)) υ (vp_updL g 0 ((σ 6 (b)).toInt64)) (by omega) (by omega) (hI.P 6 b _ (by omega)) (hI2.P 6 b _ (by omega)) (hS.U 6 b rfl)
          · exact absurd (lg_cmp_self _) c_308
      · exact absurd rfl c_291
set_option maxHeartbeats 4000000 in
set_option maxRecDepth 100000 in
theorem lw_op3 (C : zX p s m args meth c D (tyL cI cZ cJ) A RL cL_law 9) (hlt : l.stackTraces = false) (hX : va_X b0 L xs s s.heap) (hbl : b0 < s.heap.size) (hbA : ¬ A b0) (hL : L ≤ 2048) {cells slots i n : Nat} {σ τ κ ρ υ : zF} {g : Nat → Int64} (hi : i + 4 ≤ L) (hc : cells ≤ 600) (hs : slots ≤ 4000) (hI : fl_Iv n σ) (hI2 : fl_Iv n ρ) (hS : fl_S n σ ρ) (kk : lwG p l e s m args below meth c D A Q cI cZ cJ t u o b0 a ta a2 ta2 1135 i (cells + 1) (slots + 6)) : zK p l e room_1 s m args below meth c D A 9 Q cells slots 316 [(4, .int (nI i)), (3, .ref o), (2, .ref u), (1, .ref t), (0, .ref b0)] [] [(shT t a ta, zZ), (shF a cI cZ, σ), (shF ta cI cZ, τ), (shM u a2 ta2, κ), (shS a2 cI, ρ), (shS ta2 cI, υ), ([(o, .inr (.inr (.inl (cJ, 1, .inr (.inl g)))))], zZ)] := by
  have hn3 := hI.n3
  have hn7 := hI.n7
  have hR : fl_R n σ ρ := ⟨hI, hS⟩
  rcases bx_cases n (by omega) (xs (i + 1)) with hx | ⟨b, hb, e1⟩
  · refine z_aload_n C dL_law_316 rfl 3 rfl ?_
    refine z_aload_n C dL_law_317 rfl 4 rfl ?_
    refine z_iload C dL_law_318 0 rfl ?_
    refine z_iconst C (v := nI (1)) (by decide) dL_law_320 ?_
    refine z_iaddN C dL_law_321 ?_
    refine z_sld C hX hbl hbA (by omega) (by omega) dL_law_322 ?_
    refine z_aload_n C dL_law_323 rfl 1 rfl ?_
    refine z_callSH C (n := 3) (st' := [.int (nI (1))]) (B' := [(shT t a ta, zZ), (shF a cI cZ, σ), (shF ta cI cZ, τ), (shM u a2 ta2, κ), (shS a2 cI, ρ), (shS ta2 cI, υ), ([(o, .inr (.inr (.inl (cJ, 1, .inr (.inl g)))))], zZ)]) [true, true, true, false, false, false, true] rfl (c_L_sink_b1 l hlt D cI cZ cJ t a ta o g σ τ n hI (xs (i + 1)) hx) wk_yL_sink wi_L ⟨by decide, by decide, by decide +kernel⟩ wm_L_83 ws_yL_sink ⟨rfl, rfl, Nat.le_of_ble_eq_true rfl, Nat.le_of_ble_eq_true rfl⟩ rfl rfl (Nat.le_of_ble_eq_true rfl) dL_law_324 ⟨(by show _ ≤ 1087; omega), (by show _ ≤ 9136; omega)⟩ rfl rfl ?_
    refine z_istore C (L' := [(5, .int (nI (1))), (4, .int (nI (i))), (3, .ref (o)), (2, .ref (u)), (1, .ref (t)), (0, .ref (b0))]) dL_law_327 (by decide) rfl ?_
    refine z_aload_n C dL_law_329 rfl 3 rfl ?_
    refine z_aload_n C dL_law_330 rfl 5 rfl ?_
    refine z_iload C dL_law_331 1 rfl ?_
    refine z_iconst C (v := nI (1)) (by decide) dL_law_333 ?_
    refine z_iaddN C dL_law_334 ?_
    refine z_sld C hX hbl hbA (by omega) (by omega) dL_law_335 ?_
    refine z_cV C (st' := [.int (nI (0))]) (B' := [(shT t a ta, zZ), (shF a cI cZ, σ), (shF ta cI cZ, τ), (shM u a2 ta2, (zU κ 0 (0) (nI (1)))), (shS a2 cI, ρ), (shS ta2 cI, υ), ([(o, .inr (.inr (.inl (cJ, 1, .inr (.inl g)))))], zZ)]) [false, false, false, true, true, true, false] rfl (c_X4_sink_b1 l D cI cZ cJ u a2 ta2 κ ρ υ n hI2 (xs (i + 1)) hx) wq_yX4_sink wm_L_85 ⟨wn_yX4_sink, wo_yX4_sink⟩ ⟨rfl, rfl, Nat.le_of_ble_eq_true rfl, Nat.le_of_ble_eq_true rfl⟩ 3 rfl 0 rfl rfl rfl rfl (Nat.le_of_ble_eq_true rfl) dL_law_336 ⟨(by show _ ≤ 1087; omega), (by show _ ≤ 9136; omega)⟩ rfl rfl ?_
    refine z_istore C (L' := [(6, .int (nI (0))), (5, .int (nI (1))), (4, .int (nI (i))), (3, .ref (o)), (2, .ref (u)), (1, .ref (t)), (0, .ref (b0))]) dL_law_339 (by decide) rfl ?_
    refine z_aload_n C dL_law_341 rfl 4 rfl ?_
    refine z_cV C (st' := [.int ((zU κ 0 (0) (nI (1))) 0 (0))]) (B' := [(shT t a ta, zZ), (shF a cI cZ, σ), (shF ta cI cZ, τ), (shM u a2 ta2, (zU κ 0 (0) (nI (1)))), (shS a2 cI, ρ), (shS ta2 cI, υ), ([(o, .inr (.inr (.inl (cJ, 1, .inr (.inl g)))))], zZ)]) [false, false, false, true, true, true, false] rfl (c_X4_thrown l D cI cZ cJ u a2 ta2 (zU κ 0 (0) (nI (1))) ρ υ n hI2) wq_yX4_thrown wm_L_72 ⟨wn_yX4_thrown, wo_yX4_thrown⟩ ⟨rfl, rfl, Nat.le_of_ble_eq_true rfl, Nat.le_of_ble_eq_true rfl⟩ 3 rfl 0 rfl rfl rfl rfl (Nat.le_of_ble_eq_true rfl) dL_law_342 ⟨(by show _ ≤ 1087; omega), (by show _ ≤ 9136; omega)⟩ rfl rfl ?_
    refine z_top (y := nI (1)) (zU_self _ _ _ _) ?_
    refine z_iload C dL_law_345 1 rfl ?_
    refine z_icmp_eqN C (tgt := 352) dL_law_347 (by decide) (by omega) (by omega) (fun c_347 => ?_) (fun c_347 => ?_)
    · refine z_iload C dL_law_352 1 rfl ?_
      refine z_if_neN C (tgt := 376) dL_law_354 (by decide) (by omega) (fun c_354 => ?_) (fun c_354 => ?_)
      · refine z_goto C (tgt := 1135) dL_law_376 (by decide) ?_
        refine z_sub (L' := [(4, .int (nI i)), (3, .ref o), (2, .ref u), (1, .ref t), (0, .ref b0)]) [2, 3, 4, 5, 6] rfl ?_
        exact kk _ _ n σ τ (zU κ 0 (0) (nI (1))) ρ υ g (by omega) (by omega) (hI) (hI2) (hS)
      · exact absurd c_354 (by omega)
    · exact absurd rfl c_347
  · refine z_aload_n C dL_law_316 rfl 3 rfl ?_
    refine z_aload_n C dL_law_317 rfl 4 rfl ?_
    refine z_iload C dL_law_318 0 rfl ?_
    refine z_iconst C (v := nI (1)) (by decide) dL_law_320 ?_
    refine z_iaddN C dL_law_321 ?_
    refine z_sld C hX hbl hbA (by omega) (by omega) dL_law_322 ?_
    refine z_top (y := nI (b)) e1 ?_
    refine z_aload_n C dL_law_323 rfl 1 rfl ?_
    refine z_callSH C (n := 3) (st' := [.int (nI (0))]) (B' := [(shT t a ta, zZ), (shF a cI cZ, (if σ 7 b = 0 then fl_raise σ b else zU σ 7 b (nI 0))), (shF ta cI cZ, τ), (shM u a2 ta2, κ), (shS a2 cI, ρ), (shS ta2 cI, υ), ([(o, .inr (.inr (.inl (cJ, 1, .inr (.inl (vp_updL g 0 (zl (decide (σ 7 b = 0)))))))))], zZ)]) [true, true, true, false, false, false, true] rfl (c_L_sink l hlt D cI cZ cJ t a ta o g σ τ n hI b hb) wk_yL_sink wi_L ⟨by decide, by decide, by decide +kernel⟩ wm_L_83 ws_yL_sink ⟨rfl, rfl, Nat.le_of_ble_eq_true rfl, Nat.le_of_ble_eq_true rfl⟩ rfl rfl (Nat.le_of_ble_eq_true rfl) dL_law_324 ⟨(by show _ ≤ 1087; omega), (by show _ ≤ 9136; omega)⟩ rfl rfl ?_
    refine z_istore C (L' := [(5, .int (nI (0))), (4, .int (nI (i))), (3, .ref (o)), (2, .ref (u)), (1, .ref (t)), (0, .ref (b0))]) dL_law_327 (by decide) rfl ?_
    refine z_aload_n C dL_law_329 rfl 3 rfl ?_
    refine z_aload_n C dL_law_330 rfl 5 rfl ?_
    refine z_iload C dL_law_331 1 rfl ?_
    refine z_iconst C (v := nI (1)) (by decide) dL_law_333 ?_
    refine z_iaddN C dL_law_334 ?_
    refine z_sld C hX hbl hbA (by omega) (by omega) dL_law_335 ?_
    refine z_top (y := nI (b)) e1 ?_
    refine z_cV C (st' := [.int (zb (decide (ρ 7 b = 0)))]) (B' := [(shT t a ta, zZ), (shF a cI cZ, (if σ 7 b = 0 then fl_raise σ b else zU σ 7 b (nI 0))), (shF ta cI cZ, τ), (shM u a2 ta2, (zU κ 0 (0) (nI (0)))), (shS a2 cI, (if ρ 7 b = 0 then fl_raise ρ b else zU ρ 7 b (nI 0))), (shS ta2 cI, υ), ([(o, .inr (.inr (.inl (cJ, 1, .inr (.inl (vp_updL g 0 (zl (decide (σ 7 b = 0)))))))))], zZ)]) [false, false, false, true, true, true, false] rfl (c_X4_sink l D cI cZ cJ u a2 ta2 κ ρ υ n hI2 b hb) wq_yX4_sink wm_L_85 ⟨wn_yX4_sink, wo_yX4_sink⟩ ⟨rfl, rfl, Nat.le_of_ble_eq_true rfl, Nat.le_of_ble_eq_true rfl⟩ 3 rfl 0 rfl rfl rfl rfl (Nat.le_of_ble_eq_true rfl) dL_law_336 ⟨(by show _ ≤ 1087; omega), (by show _ ≤ 9136; omega)⟩ rfl rfl ?_
    refine z_top (y := zb (decide (σ 7 b = 0))) (congrArg zb (by rw [hR.r 7 hb])) ?_
    refine z_istore C (L' := [(6, .int (zb (decide (σ 7 b = 0)))), (5, .int (nI (0))), (4, .int (nI (i))), (3, .ref (o)), (2, .ref (u)), (1, .ref (t)), (0, .ref (b0))]) dL_law_339 (by decide) rfl ?_
    refine z_aload_n C dL_law_341 rfl 4 rfl ?_
    refine z_cV C (st' := [.int ((zU κ 0 (0) (nI (0))) 0 (0))]) (B' := [(shT t a ta, zZ), (shF a cI cZ, (if σ 7 b = 0 then fl_raise σ b else zU σ 7 b (nI 0))), (shF ta cI cZ, τ), (shM u a2 ta2, (zU κ 0 (0) (nI (0)))), (shS a2 cI, (if ρ 7 b = 0 then fl_raise ρ b else zU ρ 7 b (nI 0))), (shS ta2 cI, υ), ([(o, .inr (.inr (.inl (cJ, 1, .inr (.inl (vp_updL g 0 (zl (decide (σ 7 b = 0)))))))))], zZ)]) [false, false, false, true, true, true, false] rfl (c_X4_thrown l D cI cZ cJ u a2 ta2 (zU κ 0 (0) (nI (0))) (if ρ 7 b = 0 then fl_raise ρ b else zU ρ 7 b (nI 0)) υ n (fl_snk_Iv hI2 b)) wq_yX4_thrown wm_L_72 ⟨wn_yX4_thrown, wo_yX4_thrown⟩ ⟨rfl, rfl, Nat.le_of_ble_eq_true rfl, Nat.le_of_ble_eq_true rfl⟩ 3 rfl 0 rfl rfl rfl rfl (Nat.le_of_ble_eq_true rfl) dL_law_342 ⟨(by show _ ≤ 1087; omega), (by show _ ≤ 9136; omega)⟩ rfl rfl ?_
    refine z_top (y := nI (0)) (zU_self _ _ _ _) ?_
    refine z_iload C dL_law_345 1 rfl ?_
    refine z_icmp_eqN C (tgt := 352) dL_law_347 (by decide) (by omega) (by omega) (fun c_347 => ?_) (fun c_347 => ?_)
    · refine z_iload C dL_law_352 1 rfl ?_
      refine z_if_neN C (tgt := 376) dL_law_354 (by decide) (by omega) (fun c_354 => ?_) (fun c_354 => ?_)
      · exact absurd c_354 (by omega)
      · refine z_aload_n C dL_law_357 rfl 3 rfl ?_
        refine z_iconst C (v := nI (0)) (by decide) dL_law_358 ?_
        refine z_lald C 6 rfl 0 2 rfl rfl dL_law_359 (by decide) (by decide) ?_
        refine z_topV (y := .long (zl (decide (σ 7 b = 0)))) (congrArg Value.long (by simp [vp_updL])) ?_
        refine z_iload C dL_law_360 0 rfl ?_
        refine z_if_eqB C (tgt := 369) dL_law_362 (by decide) (fun c_362 => ?_) (fun c_362 => ?_)
        · refine z_lconst C (v := 0) (by decide) dL_law_369 ?_
          refine z_lcmp C dL_law_370 ?_
          refine z_if_eq C (tgt := 376) dL_law_371 (by decide) (fun c_371 => ?_) (fun c_371 => ?_)
          · refine z_goto C (tgt := 1135) dL_law_376 (by decide) ?_
            refine z_sub (L' := [(4, .int (nI i)), (3, .ref o), (2, .ref u), (1, .ref t), (0, .ref b0)]) [2, 3, 4, 5, 6] rfl ?_
            exact kk _ _ n (if σ 7 b = 0 then fl_raise σ b else zU σ 7 b (nI 0)) τ (zU κ 0 (0) (nI (0))) (if ρ 7 b = 0 then fl_raise ρ b else zU ρ 7 b (nI 0)) υ (vp_updL g 0 (zl (decide (σ 7 b = 0)))) (by omega) (by omega) (fl_snk_Iv hI b) (fl_snk_Iv hI2 b) (fl_snk_S hR hb)
          · exact absurd (by rw [c_362]; exact lg_cmp_self _) c_371
        · refine z_lconst C (v := 1) (by decide) dL_law_365 ?_
          refine z_goto C (tgt := 370) dL_law_366 (by decide) ?_
          refine z_lcmp C dL_law_370 ?_
          refine z_if_eq C (tgt := 376) dL_law_371 (by decide) (fun c_371 => ?_) (fun c_371 => ?_)
          · refine z_goto C (tgt := 1135) dL_law_376 (by decide) ?_
            refine z_sub (L' := [(4, .int (nI i)), (3, .ref o), (2, .ref u), (1, .ref t), (0, .ref b0)]) [2, 3, 4, 5, 6] rfl ?_
            exact kk _ _ n (if σ 7 b = 0 then fl_raise σ b else zU σ 7 b (nI 0)) τ (zU κ 0 (0) (nI (0))) (if ρ 7 b = 0 then fl_raise ρ b else zU ρ 7 b (nI 0)) υ (vp_updL g 0 (zl (decide (σ 7 b = 0)))) (by omega) (by omega) (fl_snk_Iv hI b) (fl_snk_Iv hI2 b) (fl_snk_S hR hb)
          · exact absurd (by rw [c_362]; exact lg_cmp_self _) c_371
    · exact absurd rfl c_347
set_option maxHeartbeats 4000000 in
set_option maxRecDepth 100000 in
theorem lw_op4 (C : zX p s m args meth c D (tyL cI cZ cJ) A RL cL_law 9) (hlt : l.stackTraces = false) (hX : va_X b0 L xs s s.heap) (hbl : b0 < s.heap.size) (hbA : ¬ A b0) (hL : L ≤ 2048) {cells slots i n : Nat} {σ τ κ ρ υ : zF} {g : Nat → Int64} (hi : i + 4 ≤ L) (hc : cells ≤ 600) (hs : slots ≤ 4000) (hI : fl_Iv n σ) (hI2 : fl_Iv n ρ) (hS : fl_S n σ ρ) (kk : lwG p l e s m args below meth c D A Q cI cZ cJ t u o b0 a ta a2 ta2 1135 i (cells + 1) (slots + 6)) : zK p l e room_1 s m args below meth c D A 9 Q cells slots 379 [(4, .int (nI i)), (3, .ref o), (2, .ref u), (1, .ref t), (0, .ref b0)] [] [(shT t a ta, zZ), (shF a cI cZ, σ), (shF ta cI cZ, τ), (shM u a2 ta2, κ), (shS a2 cI, ρ), (shS ta2 cI, υ), ([(o, .inr (.inr (.inl (cJ, 1, .inr (.inl g)))))], zZ)] := by
  have hn3 := hI.n3
  have hn7 := hI.n7
  have hR : fl_R n σ ρ := ⟨hI, hS⟩
  rcases bx_cases n (by omega) (xs (i + 1)) with hx | ⟨b, hb, e1⟩
  · refine z_aload_n C dL_law_379 rfl 3 rfl ?_
    refine z_aload_n C dL_law_380 rfl 4 rfl ?_
    refine z_iload C dL_law_381 0 rfl ?_
    refine z_iconst C (v := nI (1)) (by decide) dL_law_383 ?_
    refine z_iaddN C dL_law_384 ?_
    refine z_sld C hX hbl hbA (by omega) (by omega) dL_law_385 ?_
    refine z_aload_n C dL_law_386 rfl 4 rfl ?_
    refine z_iload C dL_law_387 0 rfl ?_
    refine z_iconst C (v := nI (2)) (by decide) dL_law_389 ?_
    refine z_iaddN C dL_law_390 ?_
    refine z_sld C hX hbl hbA (by omega) (by omega) dL_law_391 ?_
    refine z_aload_n C dL_law_392 rfl 1 rfl ?_
    refine z_callSH C (n := 4) (st' := [.int (nI (1))]) (B' := [(shT t a ta, zZ), (shF a cI cZ, σ), (shF ta cI cZ, τ), (shM u a2 ta2, κ), (shS a2 cI, ρ), (shS ta2 cI, υ), ([(o, .inr (.inr (.inl (cJ, 1, .inr (.inl g)))))], zZ)]) [true, true, true, false, false, false, true] rfl (c_L_write_b1 l hlt D cI cZ cJ t a ta o g σ τ n hI (xs (i + 1)) (xs (i + 2)) hx) wk_yL_write wi_L ⟨by decide, by decide, by decide +kernel⟩ wm_L_86 ws_yL_write ⟨rfl, rfl, Nat.le_of_ble_eq_true rfl, Nat.le_of_ble_eq_true rfl⟩ rfl rfl (Nat.le_of_ble_eq_true rfl) dL_law_393 ⟨(by show _ ≤ 1087; omega), (by show _ ≤ 9136; omega)⟩ rfl rfl ?_
    refine z_istore C (L' := [(5, .int (nI (1))), (4, .int (nI (i))), (3, .ref (o)), (2, .ref (u)), (1, .ref (t)), (0, .ref (b0))]) dL_law_396 (by decide) rfl ?_
    refine z_aload_n C dL_law_398 rfl 3 rfl ?_
    refine z_aload_n C dL_law_399 rfl 5 rfl ?_
    refine z_iload C dL_law_400 1 rfl ?_
    refine z_iconst C (v := nI (1)) (by decide) dL_law_402 ?_
    refine z_iaddN C dL_law_403 ?_
    refine z_sld C hX hbl hbA (by omega) (by omega) dL_law_404 ?_
    refine z_aload_n C dL_law_405 rfl 5 rfl ?_
    refine z_iload C dL_law_406 1 rfl ?_
    refine z_iconst C (v := nI (2)) (by decide) dL_law_408 ?_
    refine z_iaddN C dL_law_409 ?_
    refine z_sld C hX hbl hbA (by omega) (by omega) dL_law_410 ?_
    refine z_cV C (st' := [.int (nI (0))]) (B' := [(shT t a ta, zZ), (shF a cI cZ, σ), (shF ta cI cZ, τ), (shM u a2 ta2, (zU κ 0 (0) (nI (1)))), (shS a2 cI, ρ), (shS ta2 cI, υ), ([(o, .inr (.inr (.inl (cJ, 1, .inr (.inl g)))))], zZ)]) [false, false, false, true, true, true, false] rfl (c_X4_write_b1 l D cI cZ cJ u a2 ta2 κ ρ υ n hI2 (xs (i + 1)) (xs (i + 2)) hx) wq_yX4_write wm_L_88 ⟨wn_yX4_write, wo_yX4_write⟩ ⟨rfl, rfl, Nat.le_of_ble_eq_true rfl, Nat.le_of_ble_eq_true rfl⟩ 3 rfl 0 rfl rfl rfl rfl (Nat.le_of_ble_eq_true rfl) dL_law_411 ⟨(by show _ ≤ 1087; omega), (by show _ ≤ 9136; omega)⟩ rfl rfl ?_
    refine z_istore C (L' := [(6, .int (nI (0))), (5, .int (nI (1))), (4, .int (nI (i))), (3, .ref (o)), (2, .ref (u)), (1, .ref (t)), (0, .ref (b0))]) dL_law_414 (by decide) rfl ?_
    refine z_aload_n C dL_law_416 rfl 4 rfl ?_
    refine z_cV C (st' := [.int ((zU κ 0 (0) (nI (1))) 0 (0))]) (B' := [(shT t a ta, zZ), (shF a cI cZ, σ), (shF ta cI cZ, τ), (shM u a2 ta2, (zU κ 0 (0) (nI (1)))), (shS a2 cI, ρ), (shS ta2 cI, υ), ([(o, .inr (.inr (.inl (cJ, 1, .inr (.inl g)))))], zZ)]) [false, false, false, true, true, true, false] rfl (c_X4_thrown l D cI cZ cJ u a2 ta2 (zU κ 0 (0) (nI (1))) ρ υ n hI2) wq_yX4_thrown wm_L_72 ⟨wn_yX4_thrown, wo_yX4_thrown⟩ ⟨rfl, rfl, Nat.le_of_ble_eq_true rfl, Nat.le_of_ble_eq_true rfl⟩ 3 rfl 0 rfl rfl rfl rfl (Nat.le_of_ble_eq_true rfl) dL_law_417 ⟨(by show _ ≤ 1087; omega), (by show _ ≤ 9136; omega)⟩ rfl rfl ?_
    refine z_top (y := nI (1)) (zU_self _ _ _ _) ?_
    refine z_iload C dL_law_420 1 rfl ?_
    refine z_icmp_eqN C (tgt := 427) dL_law_422 (by decide) (by omega) (by omega) (fun c_422 => ?_) (fun c_422 => ?_)
    · refine z_iload C dL_law_427 1 rfl ?_
      refine z_if_neN C (tgt := 444) dL_law_429 (by decide) (by omega) (fun c_429 => ?_) (fun c_429 => ?_)
      · refine z_goto C (tgt := 1135) dL_law_444 (by decide) ?_
        refine z_sub (L' := [(4, .int (nI i)), (3, .ref o), (2, .ref u), (1, .ref t), (0, .ref b0)]) [2, 3, 4, 5, 6] rfl ?_
        exact kk _ _ n σ τ (zU κ 0 (0) (nI (1))) ρ υ g (by omega) (by omega) (hI) (hI2) (hS)
      · exact absurd c_429 (by omega)
    · exact absurd rfl c_422
  · rcases r0_cases 99 (by omega) (xs (i + 2)) with hx | ⟨f, hf, e2⟩
    · refine z_aload_n C dL_law_379 rfl 3 rfl ?_
      refine z_aload_n C dL_law_380 rfl 4 rfl ?_
      refine z_iload C dL_law_381 0 rfl ?_
      refine z_iconst C (v := nI (1)) (by decide) dL_law_383 ?_
      refine z_iaddN C dL_law_384 ?_
      refine z_sld C hX hbl hbA (by omega) (by omega) dL_law_385 ?_
      refine z_top (y := nI (b)) e1 ?_
      refine z_aload_n C dL_law_386 rfl 4 rfl ?_
      refine z_iload C dL_law_387 0 rfl ?_
      refine z_iconst C (v := nI (2)) (by decide) dL_law_389 ?_
      refine z_iaddN C dL_law_390 ?_
      refine z_sld C hX hbl hbA (by omega) (by omega) dL_law_391 ?_
      refine z_aload_n C dL_law_392 rfl 1 rfl ?_
      refine z_callSH C (n := 4) (st' := [.int (nI (2))]) (B' := [(shT t a ta, zZ), (shF a cI cZ, σ), (shF ta cI cZ, τ), (shM u a2 ta2, κ), (shS a2 cI, ρ), (shS ta2 cI, υ), ([(o, .inr (.inr (.inl (cJ, 1, .inr (.inl g)))))], zZ)]) [true, true, true, false, false, false, true] rfl (c_L_write_b2 l hlt D cI cZ cJ t a ta o g σ τ n hI b (xs (i + 2)) hb hx) wk_yL_write wi_L ⟨by decide, by decide, by decide +kernel⟩ wm_L_86 ws_yL_write ⟨rfl, rfl, Nat.le_of_ble_eq_true rfl, Nat.le_of_ble_eq_true rfl⟩ rfl rfl (Nat.le_of_ble_eq_true rfl) dL_law_393 ⟨(by show _ ≤ 1087; omega), (by show _ ≤ 9136; omega)⟩ rfl rfl ?_
      refine z_istore C (L' := [(5, .int (nI (2))), (4, .int (nI (i))), (3, .ref (o)), (2, .ref (u)), (1, .ref (t)), (0, .ref (b0))]) dL_law_396 (by decide) rfl ?_
      refine z_aload_n C dL_law_398 rfl 3 rfl ?_
      refine z_aload_n C dL_law_399 rfl 5 rfl ?_
      refine z_iload C dL_law_400 1 rfl ?_
      refine z_iconst C (v := nI (1)) (by decide) dL_law_402 ?_
      refine z_iaddN C dL_law_403 ?_
      refine z_sld C hX hbl hbA (by omega) (by omega) dL_law_404 ?_
      refine z_top (y := nI (b)) e1 ?_
      refine z_aload_n C dL_law_405 rfl 5 rfl ?_
      refine z_iload C dL_law_406 1 rfl ?_
      refine z_iconst C (v := nI (2)) (by decide) dL_law_408 ?_
      refine z_iaddN C dL_law_409 ?_
      refine z_sld C hX hbl hbA (by omega) (by omega) dL_law_410 ?_
      refine z_cV C (st' := [.int (nI (0))]) (B' := [(shT t a ta, zZ), (shF a cI cZ, σ), (shF ta cI cZ, τ), (shM u a2 ta2, (zU κ 0 (0) (nI (2)))), (shS a2 cI, ρ), (shS ta2 cI, υ), ([(o, .inr (.inr (.inl (cJ, 1, .inr (.inl g)))))], zZ)]) [false, false, false, true, true, true, false] rfl (c_X4_write_b2 l D cI cZ cJ u a2 ta2 κ ρ υ n hI2 b (xs (i + 2)) hb hx) wq_yX4_write wm_L_88 ⟨wn_yX4_write, wo_yX4_write⟩ ⟨rfl, rfl, Nat.le_of_ble_eq_true rfl, Nat.le_of_ble_eq_true rfl⟩ 3 rfl 0 rfl rfl rfl rfl (Nat.le_of_ble_eq_true rfl) dL_law_411 ⟨(by show _ ≤ 1087; omega), (by show _ ≤ 9136; omega)⟩ rfl rfl ?_
      refine z_istore C (L' := [(6, .int (nI (0))), (5, .int (nI (2))), (4, .int (nI (i))), (3, .ref (o)), (2, .ref (u)), (1, .ref (t)), (0, .ref (b0))]) dL_law_414 (by decide) rfl ?_
      refine z_aload_n C dL_law_416 rfl 4 rfl ?_
      refine z_cV C (st' := [.int ((zU κ 0 (0) (nI (2))) 0 (0))]) (B' := [(shT t a ta, zZ), (shF a cI cZ, σ), (shF ta cI cZ, τ), (shM u a2 ta2, (zU κ 0 (0) (nI (2)))), (shS a2 cI, ρ), (shS ta2 cI, υ), ([(o, .inr (.inr (.inl (cJ, 1, .inr (.inl g)))))], zZ)]) [false, false, false, true, true, true, false] rfl (c_X4_thrown l D cI cZ cJ u a2 ta2 (zU κ 0 (0) (nI (2))) ρ υ n hI2) wq_yX4_thrown wm_L_72 ⟨wn_yX4_thrown, wo_yX4_thrown⟩ ⟨rfl, rfl, Nat.le_of_ble_eq_true rfl, Nat.le_of_ble_eq_true rfl⟩ 3 rfl 0 rfl rfl rfl rfl (Nat.le_of_ble_eq_true rfl) dL_law_417 ⟨(by show _ ≤ 1087; omega), (by show _ ≤ 9136; omega)⟩ rfl rfl ?_
      refine z_top (y := nI (2)) (zU_self _ _ _ _) ?_
      refine z_iload C dL_law_420 1 rfl ?_
      refine z_icmp_eqN C (tgt := 427) dL_law_422 (by decide) (by omega) (by omega) (fun c_422 => ?_) (fun c_422 => ?_)
      · refine z_iload C dL_law_427 1 rfl ?_
        refine z_if_neN C (tgt := 444) dL_law_429 (by decide) (by omega) (fun c_429 => ?_) (fun c_429 => ?_)
        · refine z_goto C (tgt := 1135) dL_law_444 (by decide) ?_
          refine z_sub (L' := [(4, .int (nI i)), (3, .ref o), (2, .ref u), (1, .ref t), (0, .ref b0)]) [2, 3, 4, 5, 6] rfl ?_
          exact kk _ _ n σ τ (zU κ 0 (0) (nI (2))) ρ υ g (by omega) (by omega) (hI) (hI2) (hS)
        · exact absurd c_429 (by omega)
      · exact absurd rfl c_422
    · rcases hl : fl_lead σ b with _ | _
      · have hl2 : fl_lead ρ b = false := by rw [← hR.lead hb]; exact hl
        refine z_aload_n C dL_law_379 rfl 3 rfl ?_
        refine z_aload_n C dL_law_380 rfl 4 rfl ?_
        refine z_iload C dL_law_381 0 rfl ?_
        refine z_iconst C (v := nI (1)) (by decide) dL_law_383 ?_
        refine z_iaddN C dL_law_384 ?_
        refine z_sld C hX hbl hbA (by omega) (by omega) dL_law_385 ?_
        refine z_top (y := nI (b)) e1 ?_
        refine z_aload_n C dL_law_386 rfl 4 rfl ?_
        refine z_iload C dL_law_387 0 rfl ?_
        refine z_iconst C (v := nI (2)) (by decide) dL_law_389 ?_
        refine z_iaddN C dL_law_390 ?_
        refine z_sld C hX hbl hbA (by omega) (by omega) dL_law_391 ?_
        refine z_top (y := nI (f)) e2 ?_
        refine z_aload_n C dL_law_392 rfl 1 rfl ?_
        refine z_callSH C (n := 4) (st' := [.int (nI (3))]) (B' := [(shT t a ta, zZ), (shF a cI cZ, σ), (shF ta cI cZ, τ), (shM u a2 ta2, κ), (shS a2 cI, ρ), (shS ta2 cI, υ), ([(o, .inr (.inr (.inl (cJ, 1, .inr (.inl g)))))], zZ)]) [true, true, true, false, false, false, true] rfl (c_L_write_b3 l hlt D cI cZ cJ t a ta o g σ τ n hI b f hb hf hl) wk_yL_write wi_L ⟨by decide, by decide, by decide +kernel⟩ wm_L_86 ws_yL_write ⟨rfl, rfl, Nat.le_of_ble_eq_true rfl, Nat.le_of_ble_eq_true rfl⟩ rfl rfl (Nat.le_of_ble_eq_true rfl) dL_law_393 ⟨(by show _ ≤ 1087; omega), (by show _ ≤ 9136; omega)⟩ rfl rfl ?_
        refine z_istore C (L' := [(5, .int (nI (3))), (4, .int (nI (i))), (3, .ref (o)), (2, .ref (u)), (1, .ref (t)), (0, .ref (b0))]) dL_law_396 (by decide) rfl ?_
        refine z_aload_n C dL_law_398 rfl 3 rfl ?_
        refine z_aload_n C dL_law_399 rfl 5 rfl ?_
        refine z_iload C dL_law_400 1 rfl ?_
        refine z_iconst C (v := nI (1)) (by decide) dL_law_402 ?_
        refine z_iaddN C dL_law_403 ?_
        refine z_sld C hX hbl hbA (by omega) (by omega) dL_law_404 ?_
        refine z_top (y := nI (b)) e1 ?_
        refine z_aload_n C dL_law_405 rfl 5 rfl ?_
        refine z_iload C dL_law_406 1 rfl ?_
        refine z_iconst C (v := nI (2)) (by decide) dL_law_408 ?_
        refine z_iaddN C dL_law_409 ?_
        refine z_sld C hX hbl hbA (by omega) (by omega) dL_law_410 ?_
        refine z_top (y := nI (f)) e2 ?_
        refine z_cV C (st' := [.int (nI (0))]) (B' := [(shT t a ta, zZ), (shF a cI cZ, σ), (shF ta cI cZ, τ), (shM u a2 ta2, (zU κ 0 (0) (nI (3)))), (shS a2 cI, ρ), (shS ta2 cI, υ), ([(o, .inr (.inr (.inl (cJ, 1, .inr (.inl g)))))], zZ)]) [false, false, false, true, true, true, false] rfl (c_X4_write_b3 l D cI cZ cJ u a2 ta2 κ ρ υ n hI2 b f hb hf hl2) wq_yX4_write wm_L_88 ⟨wn_yX4_write, wo_yX4_write⟩ ⟨rfl, rfl, Nat.le_of_ble_eq_true rfl, Nat.le_of_ble_eq_true rfl⟩ 3 rfl 0 rfl rfl rfl rfl (Nat.le_of_ble_eq_true rfl) dL_law_411 ⟨(by show _ ≤ 1087; omega), (by show _ ≤ 9136; omega)⟩ rfl rfl ?_
        refine z_istore C (L' := [(6, .int (nI (0))), (5, .int (nI (3))), (4, .int (nI (i))), (3, .ref (o)), (2, .ref (u)), (1, .ref (t)), (0, .ref (b0))]) dL_law_414 (by decide) rfl ?_
        refine z_aload_n C dL_law_416 rfl 4 rfl ?_
        refine z_cV C (st' := [.int ((zU κ 0 (0) (nI (3))) 0 (0))]) (B' := [(shT t a ta, zZ), (shF a cI cZ, σ), (shF ta cI cZ, τ), (shM u a2 ta2, (zU κ 0 (0) (nI (3)))), (shS a2 cI, ρ), (shS ta2 cI, υ), ([(o, .inr (.inr (.inl (cJ, 1, .inr (.inl g)))))], zZ)]) [false, false, false, true, true, true, false] rfl (c_X4_thrown l D cI cZ cJ u a2 ta2 (zU κ 0 (0) (nI (3))) ρ υ n hI2) wq_yX4_thrown wm_L_72 ⟨wn_yX4_thrown, wo_yX4_thrown⟩ ⟨rfl, rfl, Nat.le_of_ble_eq_true rfl, Nat.le_of_ble_eq_true rfl⟩ 3 rfl 0 rfl rfl rfl rfl (Nat.le_of_ble_eq_true rfl) dL_law_417 ⟨(by show _ ≤ 1087; omega), (by show _ ≤ 9136; omega)⟩ rfl rfl ?_
        refine z_top (y := nI (3)) (zU_self _ _ _ _) ?_
        refine z_iload C dL_law_420 1 rfl ?_
        refine z_icmp_eqN C (tgt := 427) dL_law_422 (by decide) (by omega) (by omega) (fun c_422 => ?_) (fun c_422 => ?_)
        · refine z_iload C dL_law_427 1 rfl ?_
          refine z_if_neN C (tgt := 444) dL_law_429 (by decide) (by omega) (fun c_429 => ?_) (fun c_429 => ?_)
          · refine z_goto C (tgt := 1135) dL_law_444 (by decide) ?_
            refine z_sub (L' := [(4, .int (nI i)), (3, .ref o), (2, .ref u), (1, .ref t), (0, .ref b0)]) [2, 3, 4, 5, 6] rfl ?_
            exact kk _ _ n σ τ (zU κ 0 (0) (nI (3))) ρ υ g (by omega) (by omega) (hI) (hI2) (hS)
          · exact absurd c_429 (by omega)
        · exact absurd rfl c_422
      · have hl2 : fl_lead ρ b = true := by rw [← hR.lead hb]; exact hl
        by_cases hk : fl_ln σ b < 10
        · have hk2 : fl_ln ρ b < 10 := by rw [← hR.ln hb]; exact hk
          refine z_aload_n C dL_law_379 rfl 3 rfl ?_
          refine z_aload_n C dL_law_380 rfl 4 rfl ?_
          refine z_iload C dL_law_381 0 rfl ?_
          refine z_iconst C (v := nI (1)) (by decide) dL_law_383 ?_
          refine z_iaddN C dL_law_384 ?_
          refine z_sld C hX hbl hbA (by omega) (by omega) dL_law_385 ?_
          refine z_top (y := nI (b)) e1 ?_
          refine z_aload_n C dL_law_386 rfl 4 rfl ?_
          refine z_iload C dL_law_387 0 rfl ?_
          refine z_iconst C (v := nI (2)) (by decide) dL_law_389 ?_
          refine z_iaddN C dL_law_390 ?_
          refine z_sld C hX hbl hbA (by omega) (by omega) dL_law_391 ?_
          refine z_top (y := nI (f)) e2 ?_
          refine z_aload_n C dL_law_392 rfl 1 rfl ?_
          refine z_callSH C (n := 4) (st' := [.int (nI (0))]) (B' := [(shT t a ta, zZ), (shF a cI cZ, (fl_app σ b (σ 3 b) (nI f))), (shF ta cI cZ, τ), (shM u a2 ta2, κ), (shS a2 cI, ρ), (shS ta2 cI, υ), ([(o, .inr (.inr (.inl (cJ, 1, .inr (.inl (vp_updL g 0 ((nI (fl_ln σ b)).toInt64)))))))], zZ)]) [true, true, true, false, false, false, true] rfl (c_L_write l hlt D cI cZ cJ t a ta o g σ τ n hI b f hb hf hl hk) wk_yL_write wi_L ⟨by decide, by decide, by decide +kernel⟩ wm_L_86 ws_yL_write ⟨rfl, rfl, Nat.le_of_ble_eq_true rfl, Nat.le_of_ble_eq_true rfl⟩ rfl rfl (Nat.le_of_ble_eq_true rfl) dL_law_393 ⟨(by show _ ≤ 1087; omega), (by show _ ≤ 9136; omega)⟩ rfl rfl ?_
          refine z_istore C (L' := [(5, .int (nI (0))), (4, .int (nI (i))), (3, .ref (o)), (2, .ref (u)), (1, .ref (t)), (0, .ref (b0))]) dL_law_396 (by decide) rfl ?_
          refine z_aload_n C dL_law_398 rfl 3 rfl ?_
          refine z_aload_n C dL_law_399 rfl 5 rfl ?_
          refine z_iload C dL_law_400 1 rfl ?_
          refine z_iconst C (v := nI (1)) (by decide) dL_law_402 ?_
          refine z_iaddN C dL_law_403 ?_
          refine z_sld C hX hbl hbA (by omega) (by omega) dL_law_404 ?_
          refine z_top (y := nI (b)) e1 ?_
          refine z_aload_n C dL_law_405 rfl 5 rfl ?_
          refine z_iload C dL_law_406 1 rfl ?_
          refine z_iconst C (v := nI (2)) (by decide) dL_law_408 ?_
          refine z_iaddN C dL_law_409 ?_
          refine z_sld C hX hbl hbA (by omega) (by omega) dL_law_410 ?_
          refine z_top (y := nI (f)) e2 ?_
          refine z_cV C (st' := [.int (nI (fl_ln ρ b))]) (B' := [(shT t a ta, zZ), (shF a cI cZ, (fl_app σ b (σ 3 b) (nI f))), (shF ta cI cZ, τ), (shM u a2 ta2, (zU κ 0 (0) (nI (0)))), (shS a2 cI, (fl_app ρ b (ρ 3 b) (nI f))), (shS ta2 cI, υ), ([(o, .inr (.inr (.inl (cJ, 1, .inr (.inl (vp_updL g 0 ((nI (fl_ln σ b)).toInt64)))))))], zZ)]) [false, false, false, true, true, true, false] rfl (c_X4_write l D cI cZ cJ u a2 ta2 κ ρ υ n hI2 b f hb hf hl2 hk2) wq_yX4_write wm_L_88 ⟨wn_yX4_write, wo_yX4_write⟩ ⟨rfl, rfl, Nat.le_of_ble_eq_true rfl, Nat.le_of_ble_eq_true rfl⟩ 3 rfl 0 rfl rfl rfl rfl (Nat.le_of_ble_eq_true rfl) dL_law_411 ⟨(by show _ ≤ 1087; omega), (by show _ ≤ 9136; omega)⟩ rfl rfl ?_
          refine z_top (y := nI (fl_ln σ b)) (congrArg nI (hR.ln hb).symm) ?_
          refine z_istore C (L' := [(6, .int (nI (fl_ln σ b))), (5, .int (nI (0))), (4, .int (nI (i))), (3, .ref (o)), (2, .ref (u)), (1, .ref (t)), (0, .ref (b0))]) dL_law_414 (by decide) rfl ?_
          refine z_aload_n C dL_law_416 rfl 4 rfl ?_
          refine z_cV C (st' := [.int ((zU κ 0 (0) (nI (0))) 0 (0))]) (B' := [(shT t a ta, zZ), (shF a cI cZ, (fl_app σ b (σ 3 b) (nI f))), (shF ta cI cZ, τ), (shM u a2 ta2, (zU κ 0 (0) (nI (0)))), (shS a2 cI, (fl_app ρ b (ρ 3 b) (nI f))), (shS ta2 cI, υ), ([(o, .inr (.inr (.inl (cJ, 1, .inr (.inl (vp_updL g 0 ((nI (fl_ln σ b)).toInt64)))))))], zZ)]) [false, false, false, true, true, true, false] rfl (c_X4_thrown l D cI cZ cJ u a2 ta2 (zU κ 0 (0) (nI (0))) (fl_app ρ b (ρ 3 b) (nI f)) υ n (fl_app_Iv hI2 b _ _ hk2)) wq_yX4_thrown wm_L_72 ⟨wn_yX4_thrown, wo_yX4_thrown⟩ ⟨rfl, rfl, Nat.le_of_ble_eq_true rfl, Nat.le_of_ble_eq_true rfl⟩ 3 rfl 0 rfl rfl rfl rfl (Nat.le_of_ble_eq_true rfl) dL_law_417 ⟨(by show _ ≤ 1087; omega), (by show _ ≤ 9136; omega)⟩ rfl rfl ?_
          refine z_top (y := nI (0)) (zU_self _ _ _ _) ?_
          refine z_iload C dL_law_420 1 rfl ?_
          refine z_icmp_eqN C (tgt := 427) dL_law_422 (by decide) (by omega) (by omega) (fun c_422 => ?_) (fun c_422 => ?_)
          · refine z_iload C dL_law_427 1 rfl ?_
            refine z_if_neN C (tgt := 444) dL_law_429 (by decide) (by omega) (fun c_429 => ?_) (fun c_429 => ?_)
            · exact absurd c_429 (by omega)
            · refine z_aload_n C dL_law_432 rfl 3 rfl ?_
              refine z_iconst C (v := nI (0)) (by decide) dL_law_433 ?_
              refine z_lald C 6 rfl 0 2 rfl rfl dL_law_434 (by decide) (by decide) ?_
              refine z_topV (y := .long ((nI (fl_ln σ b)).toInt64)) (congrArg Value.long (by simp [vp_updL])) ?_
              refine z_iload C dL_law_435 0 rfl ?_
              refine z_i2l C (v := (nI (fl_ln σ b)).toInt64) rfl dL_law_437 ?_
              refine z_lcmp C dL_law_438 ?_
              refine z_if_eq C (tgt := 444) dL_law_439 (by decide) (fun c_439 => ?_) (fun c_439 => ?_)
              · refine z_goto C (tgt := 1135) dL_law_444 (by decide) ?_
                refine z_sub (L' := [(4, .int (nI i)), (3, .ref o), (2, .ref u), (1, .ref t), (0, .ref b0)]) [2, 3, 4, 5, 6] rfl ?_
                exact kk _ _ n (fl_app σ b (σ 3 b) (nI f)) τ (zU κ 0 (0) (nI (0))) (fl_app ρ b (ρ 3 b) (nI f)) υ (vp_updL g 0 ((nI (fl_ln σ b)).toInt64)) (by omega) (by omega) (fl_app_Iv hI b _ _ hk) (fl_app_Iv hI2 b _ _ hk2) (hR.app hb (hR.r 3 hb) rfl)
              · exact absurd (lg_cmp_self _) c_439
          · exact absurd rfl c_422
        · have hk : 10 ≤ fl_ln σ b := by omega
          have hk2 : 10 ≤ fl_ln ρ b := by rw [← hR.ln hb]; exact hk
          refine z_aload_n C dL_law_379 rfl 3 rfl ?_
          refine z_aload_n C dL_law_380 rfl 4 rfl ?_
          refine z_iload C dL_law_381 0 rfl ?_
          refine z_iconst C (v := nI (1)) (by decide) dL_law_383 ?_
          refine z_iaddN C dL_law_384 ?_
          refine z_sld C hX hbl hbA (by omega) (by omega) dL_law_385 ?_
          refine z_top (y := nI (b)) e1 ?_
          refine z_aload_n C dL_law_386 rfl 4 rfl ?_
          refine z_iload C dL_law_387 0 rfl ?_
          refine z_iconst C (v := nI (2)) (by decide) dL_law_389 ?_
          refine z_iaddN C dL_law_390 ?_
          refine z_sld C hX hbl hbA (by omega) (by omega) dL_law_391 ?_
          refine z_top (y := nI (f)) e2 ?_
          refine z_aload_n C dL_law_392 rfl 1 rfl ?_
          refine z_callSH C (n := 4) (st' := [.int (nI (3))]) (B' := [(shT t a ta, zZ), (shF a cI cZ, σ), (shF ta cI cZ, τ), (shM u a2 ta2, κ), (shS a2 cI, ρ), (shS ta2 cI, υ), ([(o, .inr (.inr (.inl (cJ, 1, .inr (.inl g)))))], zZ)]) [true, true, true, false, false, false, true] rfl (c_L_write_b4 l hlt D cI cZ cJ t a ta o g σ τ n hI b f hb hf hl hk) wk_yL_write wi_L ⟨by decide, by decide, by decide +kernel⟩ wm_L_86 ws_yL_write ⟨rfl, rfl, Nat.le_of_ble_eq_true rfl, Nat.le_of_ble_eq_true rfl⟩ rfl rfl (Nat.le_of_ble_eq_true rfl) dL_law_393 ⟨(by show _ ≤ 1087; omega), (by show _ ≤ 9136; omega)⟩ rfl rfl ?_
          refine z_istore C (L' := [(5, .int (nI (3))), (4, .int (nI (i))), (3, .ref (o)), (2, .ref (u)), (1, .ref (t)), (0, .ref (b0))]) dL_law_396 (by decide) rfl ?_
          refine z_aload_n C dL_law_398 rfl 3 rfl ?_
          refine z_aload_n C dL_law_399 rfl 5 rfl ?_
          refine z_iload C dL_law_400 1 rfl ?_
          refine z_iconst C (v := nI (1)) (by decide) dL_law_402 ?_
          refine z_iaddN C dL_law_403 ?_
          refine z_sld C hX hbl hbA (by omega) (by omega) dL_law_404 ?_
          refine z_top (y := nI (b)) e1 ?_
          refine z_aload_n C dL_law_405 rfl 5 rfl ?_
          refine z_iload C dL_law_406 1 rfl ?_
          refine z_iconst C (v := nI (2)) (by decide) dL_law_408 ?_
          refine z_iaddN C dL_law_409 ?_
          refine z_sld C hX hbl hbA (by omega) (by omega) dL_law_410 ?_
          refine z_top (y := nI (f)) e2 ?_
          refine z_cV C (st' := [.int (nI (0))]) (B' := [(shT t a ta, zZ), (shF a cI cZ, σ), (shF ta cI cZ, τ), (shM u a2 ta2, (zU κ 0 (0) (nI (3)))), (shS a2 cI, ρ), (shS ta2 cI, υ), ([(o, .inr (.inr (.inl (cJ, 1, .inr (.inl g)))))], zZ)]) [false, false, false, true, true, true, false] rfl (c_X4_write_b4 l D cI cZ cJ u a2 ta2 κ ρ υ n hI2 b f hb hf hl2 hk2) wq_yX4_write wm_L_88 ⟨wn_yX4_write, wo_yX4_write⟩ ⟨rfl, rfl, Nat.le_of_ble_eq_true rfl, Nat.le_of_ble_eq_true rfl⟩ 3 rfl 0 rfl rfl rfl rfl (Nat.le_of_ble_eq_true rfl) dL_law_411 ⟨(by show _ ≤ 1087; omega), (by show _ ≤ 9136; omega)⟩ rfl rfl ?_
          refine z_istore C (L' := [(6, .int (nI (0))), (5, .int (nI (3))), (4, .int (nI (i))), (3, .ref (o)), (2, .ref (u)), (1, .ref (t)), (0, .ref (b0))]) dL_law_414 (by decide) rfl ?_
          refine z_aload_n C dL_law_416 rfl 4 rfl ?_
          refine z_cV C (st' := [.int ((zU κ 0 (0) (nI (3))) 0 (0))]) (B' := [(shT t a ta, zZ), (shF a cI cZ, σ), (shF ta cI cZ, τ), (shM u a2 ta2, (zU κ 0 (0) (nI (3)))), (shS a2 cI, ρ), (shS ta2 cI, υ), ([(o, .inr (.inr (.inl (cJ, 1, .inr (.inl g)))))], zZ)]) [false, false, false, true, true, true, false] rfl (c_X4_thrown l D cI cZ cJ u a2 ta2 (zU κ 0 (0) (nI (3))) ρ υ n hI2) wq_yX4_thrown wm_L_72 ⟨wn_yX4_thrown, wo_yX4_thrown⟩ ⟨rfl, rfl, Nat.le_of_ble_eq_true rfl, Nat.le_of_ble_eq_true rfl⟩ 3 rfl 0 rfl rfl rfl rfl (Nat.le_of_ble_eq_true rfl) dL_law_417 ⟨(by show _ ≤ 1087; omega), (by show _ ≤ 9136; omega)⟩ rfl rfl ?_
          refine z_top (y := nI (3)) (zU_self _ _ _ _) ?_
          refine z_iload C dL_law_420 1 rfl ?_
          refine z_icmp_eqN C (tgt := 427) dL_law_422 (by decide) (by omega) (by omega) (fun c_422 => ?_) (fun c_422 => ?_)
          · refine z_iload C dL_law_427 1 rfl ?_
            refine z_if_neN C (tgt := 444) dL_law_429 (by decide) (by omega) (fun c_429 => ?_) (fun c_429 => ?_)
            · refine z_goto C (tgt := 1135) dL_law_444 (by decide) ?_
              refine z_sub (L' := [(4, .int (nI i)), (3, .ref o), (2, .ref u), (1, .ref t), (0, .ref b0)]) [2, 3, 4, 5, 6] rfl ?_
              exact kk _ _ n σ τ (zU κ 0 (0) (nI (3))) ρ υ g (by omega) (by omega) (hI) (hI2) (hS)
            · exact absurd c_429 (by omega)
          · exact absurd rfl c_422
set_option maxHeartbeats 4000000 in
set_option maxRecDepth 100000 in
theorem lw_op5 (C : zX p s m args meth c D (tyL cI cZ cJ) A RL cL_law 9) (hlt : l.stackTraces = false) (hX : va_X b0 L xs s s.heap) (hbl : b0 < s.heap.size) (hbA : ¬ A b0) (hL : L ≤ 2048) {cells slots i n : Nat} {σ τ κ ρ υ : zF} {g : Nat → Int64} (hi : i + 4 ≤ L) (hc : cells ≤ 600) (hs : slots ≤ 4000) (hI : fl_Iv n σ) (hI2 : fl_Iv n ρ) (hS : fl_S n σ ρ) (kk : lwG p l e s m args below meth c D A Q cI cZ cJ t u o b0 a ta a2 ta2 1135 i (cells + 1) (slots + 6)) : zK p l e room_1 s m args below meth c D A 9 Q cells slots 447 [(4, .int (nI i)), (3, .ref o), (2, .ref u), (1, .ref t), (0, .ref b0)] [] [(shT t a ta, zZ), (shF a cI cZ, σ), (shF ta cI cZ, τ), (shM u a2 ta2, κ), (shS a2 cI, ρ), (shS ta2 cI, υ), ([(o, .inr (.inr (.inl (cJ, 1, .inr (.inl g)))))], zZ)] := by
  have hn3 := hI.n3
  have hn7 := hI.n7
  have hR : fl_R n σ ρ := ⟨hI, hS⟩
  rcases rg_cases 1 50 (by omega) (by omega) (xs (i + 1)) with hx | ⟨h, h1, h50, e1⟩
  · refine z_aload_n C dL_law_447 rfl 3 rfl ?_
    refine z_aload_n C dL_law_448 rfl 4 rfl ?_
    refine z_iload C dL_law_449 0 rfl ?_
    refine z_iconst C (v := nI (1)) (by decide) dL_law_451 ?_
    refine z_iaddN C dL_law_452 ?_
    refine z_sld C hX hbl hbA (by omega) (by omega) dL_law_453 ?_
    refine z_aload_n C dL_law_454 rfl 1 rfl ?_
    refine z_callSH C (n := 3) (st' := [.int (nI (1))]) (B' := [(shT t a ta, zZ), (shF a cI cZ, σ), (shF ta cI cZ, τ), (shM u a2 ta2, κ), (shS a2 cI, ρ), (shS ta2 cI, υ), ([(o, .inr (.inr (.inl (cJ, 1, .inr (.inl g)))))], zZ)]) [true, true, true, false, false, false, true] rfl (c_L_pass_b1 l hlt D cI cZ cJ t a ta o g σ τ n hI (xs (i + 1)) hx) wk_yL_pass wi_L ⟨by decide, by decide, by decide +kernel⟩ wm_L_89 ws_yL_pass ⟨rfl, rfl, Nat.le_of_ble_eq_true rfl, Nat.le_of_ble_eq_true rfl⟩ rfl rfl (Nat.le_of_ble_eq_true rfl) dL_law_455 ⟨(by show _ ≤ 1087; omega), (by show _ ≤ 9136; omega)⟩ rfl rfl ?_
    refine z_istore C (L' := [(5, .int (nI (1))), (4, .int (nI (i))), (3, .ref (o)), (2, .ref (u)), (1, .ref (t)), (0, .ref (b0))]) dL_law_458 (by decide) rfl ?_
    refine z_aload_n C dL_law_460 rfl 3 rfl ?_
    refine z_aload_n C dL_law_461 rfl 5 rfl ?_
    refine z_iload C dL_law_462 1 rfl ?_
    refine z_iconst C (v := nI (1)) (by decide) dL_law_464 ?_
    refine z_iaddN C dL_law_465 ?_
    refine z_sld C hX hbl hbA (by omega) (by omega) dL_law_466 ?_
    refine z_cV C (st' := [.int (nI (0))]) (B' := [(shT t a ta, zZ), (shF a cI cZ, σ), (shF ta cI cZ, τ), (shM u a2 ta2, (zU κ 0 (0) (nI (1)))), (shS a2 cI, ρ), (shS ta2 cI, υ), ([(o, .inr (.inr (.inl (cJ, 1, .inr (.inl g)))))], zZ)]) [false, false, false, true, true, true, false] rfl (c_X4_pass_b1 l D cI cZ cJ u a2 ta2 κ ρ υ n hI2 (xs (i + 1)) hx) wq_yX4_pass wm_L_91 ⟨wn_yX4_pass, wo_yX4_pass⟩ ⟨rfl, rfl, Nat.le_of_ble_eq_true rfl, Nat.le_of_ble_eq_true rfl⟩ 3 rfl 0 rfl rfl rfl rfl (Nat.le_of_ble_eq_true rfl) dL_law_467 ⟨(by show _ ≤ 1087; omega), (by show _ ≤ 9136; omega)⟩ rfl rfl ?_
    refine z_istore C (L' := [(6, .int (nI (0))), (5, .int (nI (1))), (4, .int (nI (i))), (3, .ref (o)), (2, .ref (u)), (1, .ref (t)), (0, .ref (b0))]) dL_law_470 (by decide) rfl ?_
    refine z_aload_n C dL_law_472 rfl 4 rfl ?_
    refine z_cV C (st' := [.int ((zU κ 0 (0) (nI (1))) 0 (0))]) (B' := [(shT t a ta, zZ), (shF a cI cZ, σ), (shF ta cI cZ, τ), (shM u a2 ta2, (zU κ 0 (0) (nI (1)))), (shS a2 cI, ρ), (shS ta2 cI, υ), ([(o, .inr (.inr (.inl (cJ, 1, .inr (.inl g)))))], zZ)]) [false, false, false, true, true, true, false] rfl (c_X4_thrown l D cI cZ cJ u a2 ta2 (zU κ 0 (0) (nI (1))) ρ υ n hI2) wq_yX4_thrown wm_L_72 ⟨wn_yX4_thrown, wo_yX4_thrown⟩ ⟨rfl, rfl, Nat.le_of_ble_eq_true rfl, Nat.le_of_ble_eq_true rfl⟩ 3 rfl 0 rfl rfl rfl rfl (Nat.le_of_ble_eq_true rfl) dL_law_473 ⟨(by show _ ≤ 1087; omega), (by show _ ≤ 9136; omega)⟩ rfl rfl ?_
    refine z_top (y := nI (1)) (zU_self _ _ _ _) ?_
    refine z_iload C dL_law_476 1 rfl ?_
    refine z_icmp_eqN C (tgt := 483) dL_law_478 (by decide) (by omega) (by omega) (fun c_478 => ?_) (fun c_478 => ?_)
    · refine z_iload C dL_law_483 1 rfl ?_
      refine z_if_neN C (tgt := 500) dL_law_485 (by decide) (by omega) (fun c_485 => ?_) (fun c_485 => ?_)
      · refine z_goto C (tgt := 1135) dL_law_500 (by decide) ?_
        refine z_sub (L' := [(4, .int (nI i)), (3, .ref o), (2, .ref u), (1, .ref t), (0, .ref b0)]) [2, 3, 4, 5, 6] rfl ?_
        exact kk _ _ n σ τ (zU κ 0 (0) (nI (1))) ρ υ g (by omega) (by omega) (hI) (hI2) (hS)
      · exact absurd c_485 (by omega)
    · exact absurd rfl c_478
  · refine z_aload_n C dL_law_447 rfl 3 rfl ?_
    refine z_aload_n C dL_law_448 rfl 4 rfl ?_
    refine z_iload C dL_law_449 0 rfl ?_
    refine z_iconst C (v := nI (1)) (by decide) dL_law_451 ?_
    refine z_iaddN C dL_law_452 ?_
    refine z_sld C hX hbl hbA (by omega) (by omega) dL_law_453 ?_
    refine z_top (y := nI (h)) e1 ?_
    refine z_aload_n C dL_law_454 rfl 1 rfl ?_
    refine z_callSH C (n := 3) (st' := [.int (nI (0))]) (B' := [(shT t a ta, zZ), (shF a cI cZ, (fl_hours n h σ)), (shF ta cI cZ, τ), (shM u a2 ta2, κ), (shS a2 cI, ρ), (shS ta2 cI, υ), ([(o, .inr (.inr (.inl (cJ, 1, .inr (.inl (vp_updL g 0 (((fl_hours n h σ) 0 (3) - σ 0 (3)).toInt64)))))))], zZ)]) [true, true, true, false, false, false, true] rfl (c_L_pass l hlt D cI cZ cJ t a ta o g σ τ n hI h h1 h50) wk_yL_pass wi_L ⟨by decide, by decide, by decide +kernel⟩ wm_L_89 ws_yL_pass ⟨rfl, rfl, Nat.le_of_ble_eq_true rfl, Nat.le_of_ble_eq_true rfl⟩ rfl rfl (Nat.le_of_ble_eq_true rfl) dL_law_455 ⟨(by show _ ≤ 1087; omega), (by show _ ≤ 9136; omega)⟩ rfl rfl ?_
    refine z_istore C (L' := [(5, .int (nI (0))), (4, .int (nI (i))), (3, .ref (o)), (2, .ref (u)), (1, .ref (t)), (0, .ref (b0))]) dL_law_458 (by decide) rfl ?_
    refine z_aload_n C dL_law_460 rfl 3 rfl ?_
    refine z_aload_n C dL_law_461 rfl 5 rfl ?_
    refine z_iload C dL_law_462 1 rfl ?_
    refine z_iconst C (v := nI (1)) (by decide) dL_law_464 ?_
    refine z_iaddN C dL_law_465 ?_
    refine z_sld C hX hbl hbA (by omega) (by omega) dL_law_466 ?_
    refine z_top (y := nI (h)) e1 ?_
    refine z_cV C (st' := [.int ((fl_hours n h ρ) 0 (3) - ρ 0 (3))]) (B' := [(shT t a ta, zZ), (shF a cI cZ, (fl_hours n h σ)), (shF ta cI cZ, τ), (shM u a2 ta2, (zU κ 0 (0) (nI (0)))), (shS a2 cI, (fl_hours n h ρ)), (shS ta2 cI, υ), ([(o, .inr (.inr (.inl (cJ, 1, .inr (.inl (vp_updL g 0 (((fl_hours n h σ) 0 (3) - σ 0 (3)).toInt64)))))))], zZ)]) [false, false, false, true, true, true, false] rfl (c_X4_pass l D cI cZ cJ u a2 ta2 κ ρ υ n hI2 h h1 h50) wq_yX4_pass wm_L_91 ⟨wn_yX4_pass, wo_yX4_pass⟩ ⟨rfl, rfl, Nat.le_of_ble_eq_true rfl, Nat.le_of_ble_eq_true rfl⟩ 3 rfl 0 rfl rfl rfl rfl (Nat.le_of_ble_eq_true rfl) dL_law_467 ⟨(by show _ ≤ 1087; omega), (by show _ ≤ 9136; omega)⟩ rfl rfl ?_
    refine z_top (y := (fl_hours n h σ) 0 (3) - σ 0 (3)) (by rw [(hR.hours h).z 3, hR.z 3]) ?_
    refine z_istore C (L' := [(6, .int ((fl_hours n h σ) 0 (3) - σ 0 (3))), (5, .int (nI (0))), (4, .int (nI (i))), (3, .ref (o)), (2, .ref (u)), (1, .ref (t)), (0, .ref (b0))]) dL_law_470 (by decide) rfl ?_
    refine z_aload_n C dL_law_472 rfl 4 rfl ?_
    refine z_cV C (st' := [.int ((zU κ 0 (0) (nI (0))) 0 (0))]) (B' := [(shT t a ta, zZ), (shF a cI cZ, (fl_hours n h σ)), (shF ta cI cZ, τ), (shM u a2 ta2, (zU κ 0 (0) (nI (0)))), (shS a2 cI, (fl_hours n h ρ)), (shS ta2 cI, υ), ([(o, .inr (.inr (.inl (cJ, 1, .inr (.inl (vp_updL g 0 (((fl_hours n h σ) 0 (3) - σ 0 (3)).toInt64)))))))], zZ)]) [false, false, false, true, true, true, false] rfl (c_X4_thrown l D cI cZ cJ u a2 ta2 (zU κ 0 (0) (nI (0))) (fl_hours n h ρ) υ n (fl_hours_Iv hI2 h)) wq_yX4_thrown wm_L_72 ⟨wn_yX4_thrown, wo_yX4_thrown⟩ ⟨rfl, rfl, Nat.le_of_ble_eq_true rfl, Nat.le_of_ble_eq_true rfl⟩ 3 rfl 0 rfl rfl rfl rfl (Nat.le_of_ble_eq_true rfl) dL_law_473 ⟨(by show _ ≤ 1087; omega), (by show _ ≤ 9136; omega)⟩ rfl rfl ?_
    refine z_top (y := nI (0)) (zU_self _ _ _ _) ?_
    refine z_iload C dL_law_476 1 rfl ?_
    refine z_icmp_eqN C (tgt := 483) dL_law_478 (by decide) (by omega) (by omega) (fun c_478 => ?_) (fun c_478 => ?_)
    · refine z_iload C dL_law_483 1 rfl ?_
      refine z_if_neN C (tgt := 500) dL_law_485 (by decide) (by omega) (fun c_485 => ?_) (fun c_485 => ?_)
      · exact absurd c_485 (by omega)
      · refine z_aload_n C dL_law_488 rfl 3 rfl ?_
        refine z_iconst C (v := nI (0)) (by decide) dL_law_489 ?_
        refine z_lald C 6 rfl 0 2 rfl rfl dL_law_490 (by decide) (by decide) ?_
        refine z_topV (y := .long (((fl_hours n h σ) 0 (3) - σ 0 (3)).toInt64)) (congrArg Value.long (by simp [vp_updL])) ?_
        refine z_iload C dL_law_491 0 rfl ?_
        refine z_i2l C (v := ((fl_hours n h σ) 0 (3) - σ 0 (3)).toInt64) rfl dL_law_493 ?_
        refine z_lcmp C dL_law_494 ?_
        refine z_if_eq C (tgt := 500) dL_law_495 (by decide) (fun c_495 => ?_) (fun c_495 => ?_)
        · refine z_goto C (tgt := 1135) dL_law_500 (by decide) ?_
          refine z_sub (L' := [(4, .int (nI i)), (3, .ref o), (2, .ref u), (1, .ref t), (0, .ref b0)]) [2, 3, 4, 5, 6] rfl ?_
          exact kk _ _ n (fl_hours n h σ) τ (zU κ 0 (0) (nI (0))) (fl_hours n h ρ) υ (vp_updL g 0 (((fl_hours n h σ) 0 (3) - σ 0 (3)).toInt64)) (by omega) (by omega) (fl_hours_Iv hI h) (fl_hours_Iv hI2 h) ((hR.hours h).2)
        · exact absurd (lg_cmp_self _) c_495
    · exact absurd rfl c_478
set_option maxHeartbeats 4000000 in
set_option maxRecDepth 100000 in
theorem lw_op6 (C : zX p s m args meth c D (tyL cI cZ cJ) A RL cL_law 9) (hlt : l.stackTraces = false) (hX : va_X b0 L xs s s.heap) (hbl : b0 < s.heap.size) (hbA : ¬ A b0) (hL : L ≤ 2048) {cells slots i n : Nat} {σ τ κ ρ υ : zF} {g : Nat → Int64} (hi : i + 4 ≤ L) (hc : cells ≤ 600) (hs : slots ≤ 4000) (hI : fl_Iv n σ) (hI2 : fl_Iv n ρ) (hS : fl_S n σ ρ) (kk : lwG p l e s m args below meth c D A Q cI cZ cJ t u o b0 a ta a2 ta2 1135 i (cells + 1) (slots + 6)) : zK p l e room_1 s m args below meth c D A 9 Q cells slots 503 [(4, .int (nI i)), (3, .ref o), (2, .ref u), (1, .ref t), (0, .ref b0)] [] [(shT t a ta, zZ), (shF a cI cZ, σ), (shF ta cI cZ, τ), (shM u a2 ta2, κ), (shS a2 cI, ρ), (shS ta2 cI, υ), ([(o, .inr (.inr (.inl (cJ, 1, .inr (.inl g)))))], zZ)] := by
  have hn3 := hI.n3
  have hn7 := hI.n7
  have hR : fl_R n σ ρ := ⟨hI, hS⟩
  rcases bx_cases n (by omega) (xs (i + 1)) with hx | ⟨b, hb, e1⟩
  · refine z_aload_n C dL_law_503 rfl 3 rfl ?_
    refine z_aload_n C dL_law_504 rfl 4 rfl ?_
    refine z_iload C dL_law_505 0 rfl ?_
    refine z_iconst C (v := nI (1)) (by decide) dL_law_507 ?_
    refine z_iaddN C dL_law_508 ?_
    refine z_sld C hX hbl hbA (by omega) (by omega) dL_law_509 ?_
    refine z_aload_n C dL_law_510 rfl 4 rfl ?_
    refine z_iload C dL_law_511 0 rfl ?_
    refine z_iconst C (v := nI (2)) (by decide) dL_law_513 ?_
    refine z_iaddN C dL_law_514 ?_
    refine z_sld C hX hbl hbA (by omega) (by omega) dL_law_515 ?_
    refine z_aload_n C dL_law_516 rfl 1 rfl ?_
    refine z_callSH C (n := 4) (st' := [.int (nI (1))]) (B' := [(shT t a ta, zZ), (shF a cI cZ, σ), (shF ta cI cZ, τ), (shM u a2 ta2, κ), (shS a2 cI, ρ), (shS ta2 cI, υ), ([(o, .inr (.inr (.inl (cJ, 1, .inr (.inl g)))))], zZ)]) [true, true, true, false, false, false, true] rfl (c_L_told_b1 l hlt D cI cZ cJ t a ta o g σ τ n hI (xs (i + 1)) (xs (i + 2)) hx) wk_yL_told wi_L ⟨by decide, by decide, by decide +kernel⟩ wm_L_92 ws_yL_told ⟨rfl, rfl, Nat.le_of_ble_eq_true rfl, Nat.le_of_ble_eq_true rfl⟩ rfl rfl (Nat.le_of_ble_eq_true rfl) dL_law_517 ⟨(by show _ ≤ 1087; omega), (by show _ ≤ 9136; omega)⟩ rfl rfl ?_
    refine z_istore C (L' := [(5, .int (nI (1))), (4, .int (nI (i))), (3, .ref (o)), (2, .ref (u)), (1, .ref (t)), (0, .ref (b0))]) dL_law_520 (by decide) rfl ?_
    refine z_aload_n C dL_law_522 rfl 3 rfl ?_
    refine z_aload_n C dL_law_523 rfl 5 rfl ?_
    refine z_iload C dL_law_524 1 rfl ?_
    refine z_iconst C (v := nI (1)) (by decide) dL_law_526 ?_
    refine z_iaddN C dL_law_527 ?_
    refine z_sld C hX hbl hbA (by omega) (by omega) dL_law_528 ?_
    refine z_aload_n C dL_law_529 rfl 5 rfl ?_
    refine z_iload C dL_law_530 1 rfl ?_
    refine z_iconst C (v := nI (2)) (by decide) dL_law_532 ?_
    refine z_iaddN C dL_law_533 ?_
    refine z_sld C hX hbl hbA (by omega) (by omega) dL_law_534 ?_
    refine z_cV C (st' := [.int (nI (0))]) (B' := [(shT t a ta, zZ), (shF a cI cZ, σ), (shF ta cI cZ, τ), (shM u a2 ta2, (zU κ 0 (0) (nI (1)))), (shS a2 cI, ρ), (shS ta2 cI, υ), ([(o, .inr (.inr (.inl (cJ, 1, .inr (.inl g)))))], zZ)]) [false, false, false, true, true, true, false] rfl (c_X4_told_b1 l D cI cZ cJ u a2 ta2 κ ρ υ n hI2 (xs (i + 1)) (xs (i + 2)) hx) wq_yX4_told wm_L_94 ⟨wn_yX4_told, wo_yX4_told⟩ ⟨rfl, rfl, Nat.le_of_ble_eq_true rfl, Nat.le_of_ble_eq_true rfl⟩ 3 rfl 0 rfl rfl rfl rfl (Nat.le_of_ble_eq_true rfl) dL_law_535 ⟨(by show _ ≤ 1087; omega), (by show _ ≤ 9136; omega)⟩ rfl rfl ?_
    refine z_istore C (L' := [(6, .int (nI (0))), (5, .int (nI (1))), (4, .int (nI (i))), (3, .ref (o)), (2, .ref (u)), (1, .ref (t)), (0, .ref (b0))]) dL_law_538 (by decide) rfl ?_
    refine z_aload_n C dL_law_540 rfl 4 rfl ?_
    refine z_cV C (st' := [.int ((zU κ 0 (0) (nI (1))) 0 (0))]) (B' := [(shT t a ta, zZ), (shF a cI cZ, σ), (shF ta cI cZ, τ), (shM u a2 ta2, (zU κ 0 (0) (nI (1)))), (shS a2 cI, ρ), (shS ta2 cI, υ), ([(o, .inr (.inr (.inl (cJ, 1, .inr (.inl g)))))], zZ)]) [false, false, false, true, true, true, false] rfl (c_X4_thrown l D cI cZ cJ u a2 ta2 (zU κ 0 (0) (nI (1))) ρ υ n hI2) wq_yX4_thrown wm_L_72 ⟨wn_yX4_thrown, wo_yX4_thrown⟩ ⟨rfl, rfl, Nat.le_of_ble_eq_true rfl, Nat.le_of_ble_eq_true rfl⟩ 3 rfl 0 rfl rfl rfl rfl (Nat.le_of_ble_eq_true rfl) dL_law_541 ⟨(by show _ ≤ 1087; omega), (by show _ ≤ 9136; omega)⟩ rfl rfl ?_
    refine z_top (y := nI (1)) (zU_self _ _ _ _) ?_
    refine z_iload C dL_law_544 1 rfl ?_
    refine z_icmp_eqN C (tgt := 551) dL_law_546 (by decide) (by omega) (by omega) (fun c_546 => ?_) (fun c_546 => ?_)
    · refine z_iload C dL_law_551 1 rfl ?_
      refine z_if_neN C (tgt := 568) dL_law_553 (by decide) (by omega) (fun c_553 => ?_) (fun c_553 => ?_)
      · refine z_goto C (tgt := 1135) dL_law_568 (by decide) ?_
        refine z_sub (L' := [(4, .int (nI i)), (3, .ref o), (2, .ref u), (1, .ref t), (0, .ref b0)]) [2, 3, 4, 5, 6] rfl ?_
        exact kk _ _ n σ τ (zU κ 0 (0) (nI (1))) ρ υ g (by omega) (by omega) (hI) (hI2) (hS)
      · exact absurd c_553 (by omega)
    · exact absurd rfl c_546
  · rcases bx_cases 10 (by omega) (xs (i + 2)) with hx | ⟨w, hw, e2⟩
    · refine z_aload_n C dL_law_503 rfl 3 rfl ?_
      refine z_aload_n C dL_law_504 rfl 4 rfl ?_
      refine z_iload C dL_law_505 0 rfl ?_
      refine z_iconst C (v := nI (1)) (by decide) dL_law_507 ?_
      refine z_iaddN C dL_law_508 ?_
      refine z_sld C hX hbl hbA (by omega) (by omega) dL_law_509 ?_
      refine z_top (y := nI (b)) e1 ?_
      refine z_aload_n C dL_law_510 rfl 4 rfl ?_
      refine z_iload C dL_law_511 0 rfl ?_
      refine z_iconst C (v := nI (2)) (by decide) dL_law_513 ?_
      refine z_iaddN C dL_law_514 ?_
      refine z_sld C hX hbl hbA (by omega) (by omega) dL_law_515 ?_
      refine z_aload_n C dL_law_516 rfl 1 rfl ?_
      refine z_callSH C (n := 4) (st' := [.int (nI (1))]) (B' := [(shT t a ta, zZ), (shF a cI cZ, σ), (shF ta cI cZ, τ), (shM u a2 ta2, κ), (shS a2 cI, ρ), (shS ta2 cI, υ), ([(o, .inr (.inr (.inl (cJ, 1, .inr (.inl g)))))], zZ)]) [true, true, true, false, false, false, true] rfl (c_L_told_b2 l hlt D cI cZ cJ t a ta o g σ τ n hI b (xs (i + 2)) hb hx) wk_yL_told wi_L ⟨by decide, by decide, by decide +kernel⟩ wm_L_92 ws_yL_told ⟨rfl, rfl, Nat.le_of_ble_eq_true rfl, Nat.le_of_ble_eq_true rfl⟩ rfl rfl (Nat.le_of_ble_eq_true rfl) dL_law_517 ⟨(by show _ ≤ 1087; omega), (by show _ ≤ 9136; omega)⟩ rfl rfl ?_
      refine z_istore C (L' := [(5, .int (nI (1))), (4, .int (nI (i))), (3, .ref (o)), (2, .ref (u)), (1, .ref (t)), (0, .ref (b0))]) dL_law_520 (by decide) rfl ?_
      refine z_aload_n C dL_law_522 rfl 3 rfl ?_
      refine z_aload_n C dL_law_523 rfl 5 rfl ?_
      refine z_iload C dL_law_524 1 rfl ?_
      refine z_iconst C (v := nI (1)) (by decide) dL_law_526 ?_
      refine z_iaddN C dL_law_527 ?_
      refine z_sld C hX hbl hbA (by omega) (by omega) dL_law_528 ?_
      refine z_top (y := nI (b)) e1 ?_
      refine z_aload_n C dL_law_529 rfl 5 rfl ?_
      refine z_iload C dL_law_530 1 rfl ?_
      refine z_iconst C (v := nI (2)) (by decide) dL_law_532 ?_
      refine z_iaddN C dL_law_533 ?_
      refine z_sld C hX hbl hbA (by omega) (by omega) dL_law_534 ?_
      refine z_cV C (st' := [.int (nI (0))]) (B' := [(shT t a ta, zZ), (shF a cI cZ, σ), (shF ta cI cZ, τ), (shM u a2 ta2, (zU κ 0 (0) (nI (1)))), (shS a2 cI, ρ), (shS ta2 cI, υ), ([(o, .inr (.inr (.inl (cJ, 1, .inr (.inl g)))))], zZ)]) [false, false, false, true, true, true, false] rfl (c_X4_told_b2 l D cI cZ cJ u a2 ta2 κ ρ υ n hI2 b (xs (i + 2)) hb hx) wq_yX4_told wm_L_94 ⟨wn_yX4_told, wo_yX4_told⟩ ⟨rfl, rfl, Nat.le_of_ble_eq_true rfl, Nat.le_of_ble_eq_true rfl⟩ 3 rfl 0 rfl rfl rfl rfl (Nat.le_of_ble_eq_true rfl) dL_law_535 ⟨(by show _ ≤ 1087; omega), (by show _ ≤ 9136; omega)⟩ rfl rfl ?_
      refine z_istore C (L' := [(6, .int (nI (0))), (5, .int (nI (1))), (4, .int (nI (i))), (3, .ref (o)), (2, .ref (u)), (1, .ref (t)), (0, .ref (b0))]) dL_law_538 (by decide) rfl ?_
      refine z_aload_n C dL_law_540 rfl 4 rfl ?_
      refine z_cV C (st' := [.int ((zU κ 0 (0) (nI (1))) 0 (0))]) (B' := [(shT t a ta, zZ), (shF a cI cZ, σ), (shF ta cI cZ, τ), (shM u a2 ta2, (zU κ 0 (0) (nI (1)))), (shS a2 cI, ρ), (shS ta2 cI, υ), ([(o, .inr (.inr (.inl (cJ, 1, .inr (.inl g)))))], zZ)]) [false, false, false, true, true, true, false] rfl (c_X4_thrown l D cI cZ cJ u a2 ta2 (zU κ 0 (0) (nI (1))) ρ υ n hI2) wq_yX4_thrown wm_L_72 ⟨wn_yX4_thrown, wo_yX4_thrown⟩ ⟨rfl, rfl, Nat.le_of_ble_eq_true rfl, Nat.le_of_ble_eq_true rfl⟩ 3 rfl 0 rfl rfl rfl rfl (Nat.le_of_ble_eq_true rfl) dL_law_541 ⟨(by show _ ≤ 1087; omega), (by show _ ≤ 9136; omega)⟩ rfl rfl ?_
      refine z_top (y := nI (1)) (zU_self _ _ _ _) ?_
      refine z_iload C dL_law_544 1 rfl ?_
      refine z_icmp_eqN C (tgt := 551) dL_law_546 (by decide) (by omega) (by omega) (fun c_546 => ?_) (fun c_546 => ?_)
      · refine z_iload C dL_law_551 1 rfl ?_
        refine z_if_neN C (tgt := 568) dL_law_553 (by decide) (by omega) (fun c_553 => ?_) (fun c_553 => ?_)
        · refine z_goto C (tgt := 1135) dL_law_568 (by decide) ?_
          refine z_sub (L' := [(4, .int (nI i)), (3, .ref o), (2, .ref u), (1, .ref t), (0, .ref b0)]) [2, 3, 4, 5, 6] rfl ?_
          exact kk _ _ n σ τ (zU κ 0 (0) (nI (1))) ρ υ g (by omega) (by omega) (hI) (hI2) (hS)
        · exact absurd c_553 (by omega)
      · exact absurd rfl c_546
    · refine z_aload_n C dL_law_503 rfl 3 rfl ?_
      refine z_aload_n C dL_law_504 rfl 4 rfl ?_
      refine z_iload C dL_law_505 0 rfl ?_
      refine z_iconst C (v := nI (1)) (by decide) dL_law_507 ?_
      refine z_iaddN C dL_law_508 ?_
      refine z_sld C hX hbl hbA (by omega) (by omega) dL_law_509 ?_
      refine z_top (y := nI (b)) e1 ?_
      refine z_aload_n C dL_law_510 rfl 4 rfl ?_
      refine z_iload C dL_law_511 0 rfl ?_
      refine z_iconst C (v := nI (2)) (by decide) dL_law_513 ?_
      refine z_iaddN C dL_law_514 ?_
      refine z_sld C hX hbl hbA (by omega) (by omega) dL_law_515 ?_
      refine z_top (y := nI (w)) e2 ?_
      refine z_aload_n C dL_law_516 rfl 1 rfl ?_
      refine z_callSH C (n := 4) (st' := [.int (nI (0))]) (B' := [(shT t a ta, zZ), (shF a cI cZ, σ), (shF ta cI cZ, τ), (shM u a2 ta2, κ), (shS a2 cI, ρ), (shS ta2 cI, υ), ([(o, .inr (.inr (.inl (cJ, 1, .inr (.inl (vp_updL g 0 ((fl_ofB σ b w).toInt64)))))))], zZ)]) [true, true, true, false, false, false, true] rfl (c_L_told l hlt D cI cZ cJ t a ta o g σ τ n hI b w hb hw) wk_yL_told wi_L ⟨by decide, by decide, by decide +kernel⟩ wm_L_92 ws_yL_told ⟨rfl, rfl, Nat.le_of_ble_eq_true rfl, Nat.le_of_ble_eq_true rfl⟩ rfl rfl (Nat.le_of_ble_eq_true rfl) dL_law_517 ⟨(by show _ ≤ 1087; omega), (by show _ ≤ 9136; omega)⟩ rfl rfl ?_
      refine z_istore C (L' := [(5, .int (nI (0))), (4, .int (nI (i))), (3, .ref (o)), (2, .ref (u)), (1, .ref (t)), (0, .ref (b0))]) dL_law_520 (by decide) rfl ?_
      refine z_aload_n C dL_law_522 rfl 3 rfl ?_
      refine z_aload_n C dL_law_523 rfl 5 rfl ?_
      refine z_iload C dL_law_524 1 rfl ?_
      refine z_iconst C (v := nI (1)) (by decide) dL_law_526 ?_
      refine z_iaddN C dL_law_527 ?_
      refine z_sld C hX hbl hbA (by omega) (by omega) dL_law_528 ?_
      refine z_top (y := nI (b)) e1 ?_
      refine z_aload_n C dL_law_529 rfl 5 rfl ?_
      refine z_iload C dL_law_530 1 rfl ?_
      refine z_iconst C (v := nI (2)) (by decide) dL_law_532 ?_
      refine z_iaddN C dL_law_533 ?_
      refine z_sld C hX hbl hbA (by omega) (by omega) dL_law_534 ?_
      refine z_top (y := nI (w)) e2 ?_
      refine z_cV C (st' := [.int (fl_ofB ρ b w)]) (B' := [(shT t a ta, zZ), (shF a cI cZ, σ), (shF ta cI cZ, τ), (shM u a2 ta2, (zU κ 0 (0) (nI (0)))), (shS a2 cI, ρ), (shS ta2 cI, υ), ([(o, .inr (.inr (.inl (cJ, 1, .inr (.inl (vp_updL g 0 ((fl_ofB σ b w).toInt64)))))))], zZ)]) [false, false, false, true, true, true, false] rfl (c_X4_told l D cI cZ cJ u a2 ta2 κ ρ υ n hI2 b w hb hw) wq_yX4_told wm_L_94 ⟨wn_yX4_told, wo_yX4_told⟩ ⟨rfl, rfl, Nat.le_of_ble_eq_true rfl, Nat.le_of_ble_eq_true rfl⟩ 3 rfl 0 rfl rfl rfl rfl (Nat.le_of_ble_eq_true rfl) dL_law_535 ⟨(by show _ ≤ 1087; omega), (by show _ ≤ 9136; omega)⟩ rfl rfl ?_
      refine z_top (y := fl_ofB σ b w) ((hR.ofB hb w).symm) ?_
      refine z_istore C (L' := [(6, .int (fl_ofB σ b w)), (5, .int (nI (0))), (4, .int (nI (i))), (3, .ref (o)), (2, .ref (u)), (1, .ref (t)), (0, .ref (b0))]) dL_law_538 (by decide) rfl ?_
      refine z_aload_n C dL_law_540 rfl 4 rfl ?_
      refine z_cV C (st' := [.int ((zU κ 0 (0) (nI (0))) 0 (0))]) (B' := [(shT t a ta, zZ), (shF a cI cZ, σ), (shF ta cI cZ, τ), (shM u a2 ta2, (zU κ 0 (0) (nI (0)))), (shS a2 cI, ρ), (shS ta2 cI, υ), ([(o, .inr (.inr (.inl (cJ, 1, .inr (.inl (vp_updL g 0 ((fl_ofB σ b w).toInt64)))))))], zZ)]) [false, false, false, true, true, true, false] rfl (c_X4_thrown l D cI cZ cJ u a2 ta2 (zU κ 0 (0) (nI (0))) ρ υ n hI2) wq_yX4_thrown wm_L_72 ⟨wn_yX4_thrown, wo_yX4_thrown⟩ ⟨rfl, rfl, Nat.le_of_ble_eq_true rfl, Nat.le_of_ble_eq_true rfl⟩ 3 rfl 0 rfl rfl rfl rfl (Nat.le_of_ble_eq_true rfl) dL_law_541 ⟨(by show _ ≤ 1087; omega), (by show _ ≤ 9136; omega)⟩ rfl rfl ?_
      refine z_top (y := nI (0)) (zU_self _ _ _ _) ?_
      refine z_iload C dL_law_544 1 rfl ?_
      refine z_icmp_eqN C (tgt := 551) dL_law_546 (by decide) (by omega) (by omega) (fun c_546 => ?_) (fun c_546 => ?_)
      · refine z_iload C dL_law_551 1 rfl ?_
        refine z_if_neN C (tgt := 568) dL_law_553 (by decide) (by omega) (fun c_553 => ?_) (fun c_553 => ?_)
        · exact absurd c_553 (by omega)
        · refine z_aload_n C dL_law_556 rfl 3 rfl ?_
          refine z_iconst C (v := nI (0)) (by decide) dL_law_557 ?_
          refine z_lald C 6 rfl 0 2 rfl rfl dL_law_558 (by decide) (by decide) ?_
          refine z_topV (y := .long ((fl_ofB σ b w).toInt64)) (congrArg Value.long (by simp [vp_updL])) ?_
          refine z_iload C dL_law_559 0 rfl ?_
          refine z_i2l C (v := (fl_ofB σ b w).toInt64) rfl dL_law_561 ?_
          refine z_lcmp C dL_law_562 ?_
          refine z_if_eq C (tgt := 568) dL_law_563 (by decide) (fun c_563 => ?_) (fun c_563 => ?_)
          · refine z_goto C (tgt := 1135) dL_law_568 (by decide) ?_
            refine z_sub (L' := [(4, .int (nI i)), (3, .ref o), (2, .ref u), (1, .ref t), (0, .ref b0)]) [2, 3, 4, 5, 6] rfl ?_
            exact kk _ _ n σ τ (zU κ 0 (0) (nI (0))) ρ υ (vp_updL g 0 ((fl_ofB σ b w).toInt64)) (by omega) (by omega) (hI) (hI2) (hS)
          · exact absurd (lg_cmp_self _) c_563
      · exact absurd rfl c_546
set_option maxHeartbeats 4000000 in
set_option maxRecDepth 100000 in
theorem lw_op7 (C : zX p s m args meth c D (tyL cI cZ cJ) A RL cL_law 9) (hlt : l.stackTraces = false) (hX : va_X b0 L xs s s.heap) (hbl : b0 < s.heap.size) (hbA : ¬ A b0) (hL : L ≤ 2048) {cells slots i n : Nat} {σ τ κ ρ υ : zF} {g : Nat → Int64} (hi : i + 4 ≤ L) (hc : cells ≤ 600) (hs : slots ≤ 4000) (hI : fl_Iv n σ) (hI2 : fl_Iv n ρ) (hS : fl_S n σ ρ) (kk : lwG p l e s m args below meth c D A Q cI cZ cJ t u o b0 a ta a2 ta2 1135 i (cells + 1) (slots + 6)) : zK p l e room_1 s m args below meth c D A 9 Q cells slots 571 [(4, .int (nI i)), (3, .ref o), (2, .ref u), (1, .ref t), (0, .ref b0)] [] [(shT t a ta, zZ), (shF a cI cZ, σ), (shF ta cI cZ, τ), (shM u a2 ta2, κ), (shS a2 cI, ρ), (shS ta2 cI, υ), ([(o, .inr (.inr (.inl (cJ, 1, .inr (.inl g)))))], zZ)] := by
  have hn3 := hI.n3
  have hn7 := hI.n7
  have hR : fl_R n σ ρ := ⟨hI, hS⟩
  rcases bx_cases n (by omega) (xs (i + 1)) with hx | ⟨b, hb, e1⟩
  · refine z_aload_n C dL_law_571 rfl 3 rfl ?_
    refine z_aload_n C dL_law_572 rfl 4 rfl ?_
    refine z_iload C dL_law_573 0 rfl ?_
    refine z_iconst C (v := nI (1)) (by decide) dL_law_575 ?_
    refine z_iaddN C dL_law_576 ?_
    refine z_sld C hX hbl hbA (by omega) (by omega) dL_law_577 ?_
    refine z_aload_n C dL_law_578 rfl 4 rfl ?_
    refine z_iload C dL_law_579 0 rfl ?_
    refine z_iconst C (v := nI (2)) (by decide) dL_law_581 ?_
    refine z_iaddN C dL_law_582 ?_
    refine z_sld C hX hbl hbA (by omega) (by omega) dL_law_583 ?_
    refine z_aload_n C dL_law_584 rfl 4 rfl ?_
    refine z_iload C dL_law_585 0 rfl ?_
    refine z_iconst C (v := nI (3)) (by decide) dL_law_587 ?_
    refine z_iaddN C dL_law_588 ?_
    refine z_sld C hX hbl hbA (by omega) (by omega) dL_law_589 ?_
    refine z_aload_n C dL_law_590 rfl 1 rfl ?_
    refine z_callSH C (n := 5) (st' := [.int (nI (1))]) (B' := [(shT t a ta, zZ), (shF a cI cZ, σ), (shF ta cI cZ, τ), (shM u a2 ta2, κ), (shS a2 cI, ρ), (shS ta2 cI, υ), ([(o, .inr (.inr (.inl (cJ, 1, .inr (.inl g)))))], zZ)]) [true, true, true, false, false, false, true] rfl (c_L_entry_b1 l hlt D cI cZ cJ t a ta o g σ τ n hI (xs (i + 1)) (xs (i + 2)) (xs (i + 3)) hx) wk_yL_entry wi_L ⟨by decide, by decide, by decide +kernel⟩ wm_L_95 ws_yL_entry ⟨rfl, rfl, Nat.le_of_ble_eq_true rfl, Nat.le_of_ble_eq_true rfl⟩ rfl rfl (Nat.le_of_ble_eq_true rfl) dL_law_591 ⟨(by show _ ≤ 1087; omega), (by show _ ≤ 9136; omega)⟩ rfl rfl ?_
    refine z_istore C (L' := [(5, .int (nI (1))), (4, .int (nI (i))), (3, .ref (o)), (2, .ref (u)), (1, .ref (t)), (0, .ref (b0))]) dL_law_594 (by decide) rfl ?_
    refine z_aload_n C dL_law_596 rfl 3 rfl ?_
    refine z_aload_n C dL_law_597 rfl 5 rfl ?_
    refine z_iload C dL_law_598 1 rfl ?_
    refine z_iconst C (v := nI (1)) (by decide) dL_law_600 ?_
    refine z_iaddN C dL_law_601 ?_
    refine z_sld C hX hbl hbA (by omega) (by omega) dL_law_602 ?_
    refine z_aload_n C dL_law_603 rfl 5 rfl ?_
    refine z_iload C dL_law_604 1 rfl ?_
    refine z_iconst C (v := nI (2)) (by decide) dL_law_606 ?_
    refine z_iaddN C dL_law_607 ?_
    refine z_sld C hX hbl hbA (by omega) (by omega) dL_law_608 ?_
    refine z_aload_n C dL_law_609 rfl 5 rfl ?_
    refine z_iload C dL_law_610 1 rfl ?_
    refine z_iconst C (v := nI (3)) (by decide) dL_law_612 ?_
    refine z_iaddN C dL_law_613 ?_
    refine z_sld C hX hbl hbA (by omega) (by omega) dL_law_614 ?_
    refine z_cV C (st' := [.int (nI (0))]) (B' := [(shT t a ta, zZ), (shF a cI cZ, σ), (shF ta cI cZ, τ), (shM u a2 ta2, (zU κ 0 (0) (nI (1)))), (shS a2 cI, ρ), (shS ta2 cI, υ), ([(o, .inr (.inr (.inl (cJ, 1, .inr (.inl g)))))], zZ)]) [false, false, false, true, true, true, false] rfl (c_X4_entry_b1 l D cI cZ cJ u a2 ta2 κ ρ υ n hI2 (xs (i + 1)) (xs (i + 2)) (xs (i + 3)) hx) wq_yX4_entry wm_L_98 ⟨wn_yX4_entry, wo_yX4_entry⟩ ⟨rfl, rfl, Nat.le_of_ble_eq_true rfl, Nat.le_of_ble_eq_true rfl⟩ 3 rfl 0 rfl rfl rfl rfl (Nat.le_of_ble_eq_true rfl) dL_law_615 ⟨(by show _ ≤ 1087; omega), (by show _ ≤ 9136; omega)⟩ rfl rfl ?_
    refine z_istore C (L' := [(6, .int (nI (0))), (5, .int (nI (1))), (4, .int (nI (i))), (3, .ref (o)), (2, .ref (u)), (1, .ref (t)), (0, .ref (b0))]) dL_law_618 (by decide) rfl ?_
    refine z_aload_n C dL_law_620 rfl 4 rfl ?_
    refine z_cV C (st' := [.int ((zU κ 0 (0) (nI (1))) 0 (0))]) (B' := [(shT t a ta, zZ), (shF a cI cZ, σ), (shF ta cI cZ, τ), (shM u a2 ta2, (zU κ 0 (0) (nI (1)))), (shS a2 cI, ρ), (shS ta2 cI, υ), ([(o, .inr (.inr (.inl (cJ, 1, .inr (.inl g)))))], zZ)]) [false, false, false, true, true, true, false] rfl (c_X4_thrown l D cI cZ cJ u a2 ta2 (zU κ 0 (0) (nI (1))) ρ υ n hI2) wq_yX4_thrown wm_L_72 ⟨wn_yX4_thrown, wo_yX4_thrown⟩ ⟨rfl, rfl, Nat.le_of_ble_eq_true rfl, Nat.le_of_ble_eq_true rfl⟩ 3 rfl 0 rfl rfl rfl rfl (Nat.le_of_ble_eq_true rfl) dL_law_621 ⟨(by show _ ≤ 1087; omega), (by show _ ≤ 9136; omega)⟩ rfl rfl ?_
    refine z_top (y := nI (1)) (zU_self _ _ _ _) ?_
    refine z_iload C dL_law_624 1 rfl ?_
    refine z_icmp_eqN C (tgt := 631) dL_law_626 (by decide) (by omega) (by omega) (fun c_626 => ?_) (fun c_626 => ?_)
    · refine z_iload C dL_law_631 1 rfl ?_
      refine z_if_neN C (tgt := 648) dL_law_633 (by decide) (by omega) (fun c_633 => ?_) (fun c_633 => ?_)
      · refine z_goto C (tgt := 1135) dL_law_648 (by decide) ?_
        refine z_sub (L' := [(4, .int (nI i)), (3, .ref o), (2, .ref u), (1, .ref t), (0, .ref b0)]) [2, 3, 4, 5, 6] rfl ?_
        exact kk _ _ n σ τ (zU κ 0 (0) (nI (1))) ρ υ g (by omega) (by omega) (hI) (hI2) (hS)
      · exact absurd c_633 (by omega)
    · exact absurd rfl c_626
  · have hlb := hI.lnT hb
    rcases bx_cases (fl_ln σ b) (by omega) (xs (i + 2)) with hx | ⟨k, hk, e2⟩
    · have hx2 : xs (i + 2) < 0 ∨ nI (fl_ln ρ b) ≤ xs (i + 2) := by rw [← hR.ln hb]; exact hx
      refine z_aload_n C dL_law_571 rfl 3 rfl ?_
      refine z_aload_n C dL_law_572 rfl 4 rfl ?_
      refine z_iload C dL_law_573 0 rfl ?_
      refine z_iconst C (v := nI (1)) (by decide) dL_law_575 ?_
      refine z_iaddN C dL_law_576 ?_
      refine z_sld C hX hbl hbA (by omega) (by omega) dL_law_577 ?_
      refine z_top (y := nI (b)) e1 ?_
      refine z_aload_n C dL_law_578 rfl 4 rfl ?_
      refine z_iload C dL_law_579 0 rfl ?_
      refine z_iconst C (v := nI (2)) (by decide) dL_law_581 ?_
      refine z_iaddN C dL_law_582 ?_
      refine z_sld C hX hbl hbA (by omega) (by omega) dL_law_583 ?_
      refine z_aload_n C dL_law_584 rfl 4 rfl ?_
      refine z_iload C dL_law_585 0 rfl ?_
      refine z_iconst C (v := nI (3)) (by decide) dL_law_587 ?_
      refine z_iaddN C dL_law_588 ?_
      refine z_sld C hX hbl hbA (by omega) (by omega) dL_law_589 ?_
      refine z_aload_n C dL_law_590 rfl 1 rfl ?_
      refine z_callSH C (n := 5) (st' := [.int (nI (1))]) (B' := [(shT t a ta, zZ), (shF a cI cZ, σ), (shF ta cI cZ, τ), (shM u a2 ta2, κ), (shS a2 cI, ρ), (shS ta2 cI, υ), ([(o, .inr (.inr (.inl (cJ, 1, .inr (.inl g)))))], zZ)]) [true, true, true, false, false, false, true] rfl (c_L_entry_b2 l hlt D cI cZ cJ t a ta o g σ τ n hI b (xs (i + 2)) (xs (i + 3)) hb hx) wk_yL_entry wi_L ⟨by decide, by decide, by decide +kernel⟩ wm_L_95 ws_yL_entry ⟨rfl, rfl, Nat.le_of_ble_eq_true rfl, Nat.le_of_ble_eq_true rfl⟩ rfl rfl (Nat.le_of_ble_eq_true rfl) dL_law_591 ⟨(by show _ ≤ 1087; omega), (by show _ ≤ 9136; omega)⟩ rfl rfl ?_
      refine z_istore C (L' := [(5, .int (nI (1))), (4, .int (nI (i))), (3, .ref (o)), (2, .ref (u)), (1, .ref (t)), (0, .ref (b0))]) dL_law_594 (by decide) rfl ?_
      refine z_aload_n C dL_law_596 rfl 3 rfl ?_
      refine z_aload_n C dL_law_597 rfl 5 rfl ?_
      refine z_iload C dL_law_598 1 rfl ?_
      refine z_iconst C (v := nI (1)) (by decide) dL_law_600 ?_
      refine z_iaddN C dL_law_601 ?_
      refine z_sld C hX hbl hbA (by omega) (by omega) dL_law_602 ?_
      refine z_top (y := nI (b)) e1 ?_
      refine z_aload_n C dL_law_603 rfl 5 rfl ?_
      refine z_iload C dL_law_604 1 rfl ?_
      refine z_iconst C (v := nI (2)) (by decide) dL_law_606 ?_
      refine z_iaddN C dL_law_607 ?_
      refine z_sld C hX hbl hbA (by omega) (by omega) dL_law_608 ?_
      refine z_aload_n C dL_law_609 rfl 5 rfl ?_
      refine z_iload C dL_law_610 1 rfl ?_
      refine z_iconst C (v := nI (3)) (by decide) dL_law_612 ?_
      refine z_iaddN C dL_law_613 ?_
      refine z_sld C hX hbl hbA (by omega) (by omega) dL_law_614 ?_
      refine z_cV C (st' := [.int (nI (0))]) (B' := [(shT t a ta, zZ), (shF a cI cZ, σ), (shF ta cI cZ, τ), (shM u a2 ta2, (zU κ 0 (0) (nI (1)))), (shS a2 cI, ρ), (shS ta2 cI, υ), ([(o, .inr (.inr (.inl (cJ, 1, .inr (.inl g)))))], zZ)]) [false, false, false, true, true, true, false] rfl (c_X4_entry_b2 l D cI cZ cJ u a2 ta2 κ ρ υ n hI2 b (xs (i + 2)) (xs (i + 3)) hb hx2) wq_yX4_entry wm_L_98 ⟨wn_yX4_entry, wo_yX4_entry⟩ ⟨rfl, rfl, Nat.le_of_ble_eq_true rfl, Nat.le_of_ble_eq_true rfl⟩ 3 rfl 0 rfl rfl rfl rfl (Nat.le_of_ble_eq_true rfl) dL_law_615 ⟨(by show _ ≤ 1087; omega), (by show _ ≤ 9136; omega)⟩ rfl rfl ?_
      refine z_istore C (L' := [(6, .int (nI (0))), (5, .int (nI (1))), (4, .int (nI (i))), (3, .ref (o)), (2, .ref (u)), (1, .ref (t)), (0, .ref (b0))]) dL_law_618 (by decide) rfl ?_
      refine z_aload_n C dL_law_620 rfl 4 rfl ?_
      refine z_cV C (st' := [.int ((zU κ 0 (0) (nI (1))) 0 (0))]) (B' := [(shT t a ta, zZ), (shF a cI cZ, σ), (shF ta cI cZ, τ), (shM u a2 ta2, (zU κ 0 (0) (nI (1)))), (shS a2 cI, ρ), (shS ta2 cI, υ), ([(o, .inr (.inr (.inl (cJ, 1, .inr (.inl g)))))], zZ)]) [false, false, false, true, true, true, false] rfl (c_X4_thrown l D cI cZ cJ u a2 ta2 (zU κ 0 (0) (nI (1))) ρ υ n hI2) wq_yX4_thrown wm_L_72 ⟨wn_yX4_thrown, wo_yX4_thrown⟩ ⟨rfl, rfl, Nat.le_of_ble_eq_true rfl, Nat.le_of_ble_eq_true rfl⟩ 3 rfl 0 rfl rfl rfl rfl (Nat.le_of_ble_eq_true rfl) dL_law_621 ⟨(by show _ ≤ 1087; omega), (by show _ ≤ 9136; omega)⟩ rfl rfl ?_
      refine z_top (y := nI (1)) (zU_self _ _ _ _) ?_
      refine z_iload C dL_law_624 1 rfl ?_
      refine z_icmp_eqN C (tgt := 631) dL_law_626 (by decide) (by omega) (by omega) (fun c_626 => ?_) (fun c_626 => ?_)
      · refine z_iload C dL_law_631 1 rfl ?_
        refine z_if_neN C (tgt := 648) dL_law_633 (by decide) (by omega) (fun c_633 => ?_) (fun c_633 => ?_)
        · refine z_goto C (tgt := 1135) dL_law_648 (by decide) ?_
          refine z_sub (L' := [(4, .int (nI i)), (3, .ref o), (2, .ref u), (1, .ref t), (0, .ref b0)]) [2, 3, 4, 5, 6] rfl ?_
          exact kk _ _ n σ τ (zU κ 0 (0) (nI (1))) ρ υ g (by omega) (by omega) (hI) (hI2) (hS)
        · exact absurd c_633 (by omega)
      · exact absurd rfl c_626
    · rcases bx_cases 3 (by omega) (xs (i + 3)) with hx | ⟨w, hw, e3⟩
      · have hk2 : k < fl_ln ρ b := by rw [← hR.ln hb]; exact hk
        refine z_aload_n C dL_law_571 rfl 3 rfl ?_
        refine z_aload_n C dL_law_572 rfl 4 rfl ?_
        refine z_iload C dL_law_573 0 rfl ?_
        refine z_iconst C (v := nI (1)) (by decide) dL_law_575 ?_
        refine z_iaddN C dL_law_576 ?_
        refine z_sld C hX hbl hbA (by omega) (by omega) dL_law_577 ?_
        refine z_top (y := nI (b)) e1 ?_
        refine z_aload_n C dL_law_578 rfl 4 rfl ?_
        refine z_iload C dL_law_579 0 rfl ?_
        refine z_iconst C (v := nI (2)) (by decide) dL_law_581 ?_
        refine z_iaddN C dL_law_582 ?_
        refine z_sld C hX hbl hbA (by omega) (by omega) dL_law_583 ?_
        refine z_top (y := nI (k)) e2 ?_
        refine z_aload_n C dL_law_584 rfl 4 rfl ?_
        refine z_iload C dL_law_585 0 rfl ?_
        refine z_iconst C (v := nI (3)) (by decide) dL_law_587 ?_
        refine z_iaddN C dL_law_588 ?_
        refine z_sld C hX hbl hbA (by omega) (by omega) dL_law_589 ?_
        refine z_aload_n C dL_law_590 rfl 1 rfl ?_
        refine z_callSH C (n := 5) (st' := [.int (nI (1))]) (B' := [(shT t a ta, zZ), (shF a cI cZ, σ), (shF ta cI cZ, τ), (shM u a2 ta2, κ), (shS a2 cI, ρ), (shS ta2 cI, υ), ([(o, .inr (.inr (.inl (cJ, 1, .inr (.inl g)))))], zZ)]) [true, true, true, false, false, false, true] rfl (c_L_entry_b3 l hlt D cI cZ cJ t a ta o g σ τ n hI b k (xs (i + 3)) hb hk hx) wk_yL_entry wi_L ⟨by decide, by decide, by decide +kernel⟩ wm_L_95 ws_yL_entry ⟨rfl, rfl, Nat.le_of_ble_eq_true rfl, Nat.le_of_ble_eq_true rfl⟩ rfl rfl (Nat.le_of_ble_eq_true rfl) dL_law_591 ⟨(by show _ ≤ 1087; omega), (by show _ ≤ 9136; omega)⟩ rfl rfl ?_
        refine z_istore C (L' := [(5, .int (nI (1))), (4, .int (nI (i))), (3, .ref (o)), (2, .ref (u)), (1, .ref (t)), (0, .ref (b0))]) dL_law_594 (by decide) rfl ?_
        refine z_aload_n C dL_law_596 rfl 3 rfl ?_
        refine z_aload_n C dL_law_597 rfl 5 rfl ?_
        refine z_iload C dL_law_598 1 rfl ?_
        refine z_iconst C (v := nI (1)) (by decide) dL_law_600 ?_
        refine z_iaddN C dL_law_601 ?_
        refine z_sld C hX hbl hbA (by omega) (by omega) dL_law_602 ?_
        refine z_top (y := nI (b)) e1 ?_
        refine z_aload_n C dL_law_603 rfl 5 rfl ?_
        refine z_iload C dL_law_604 1 rfl ?_
        refine z_iconst C (v := nI (2)) (by decide) dL_law_606 ?_
        refine z_iaddN C dL_law_607 ?_
        refine z_sld C hX hbl hbA (by omega) (by omega) dL_law_608 ?_
        refine z_top (y := nI (k)) e2 ?_
        refine z_aload_n C dL_law_609 rfl 5 rfl ?_
        refine z_iload C dL_law_610 1 rfl ?_
        refine z_iconst C (v := nI (3)) (by decide) dL_law_612 ?_
        refine z_iaddN C dL_law_613 ?_
        refine z_sld C hX hbl hbA (by omega) (by omega) dL_law_614 ?_
        refine z_cV C (st' := [.int (nI (0))]) (B' := [(shT t a ta, zZ), (shF a cI cZ, σ), (shF ta cI cZ, τ), (shM u a2 ta2, (zU κ 0 (0) (nI (1)))), (shS a2 cI, ρ), (shS ta2 cI, υ), ([(o, .inr (.inr (.inl (cJ, 1, .inr (.inl g)))))], zZ)]) [false, false, false, true, true, true, false] rfl (c_X4_entry_b3 l D cI cZ cJ u a2 ta2 κ ρ υ n hI2 b k (xs (i + 3)) hb hk2 hx) wq_yX4_entry wm_L_98 ⟨wn_yX4_entry, wo_yX4_entry⟩ ⟨rfl, rfl, Nat.le_of_ble_eq_true rfl, Nat.le_of_ble_eq_true rfl⟩ 3 rfl 0 rfl rfl rfl rfl (Nat.le_of_ble_eq_true rfl) dL_law_615 ⟨(by show _ ≤ 1087; omega), (by show _ ≤ 9136; omega)⟩ rfl rfl ?_
        refine z_istore C (L' := [(6, .int (nI (0))), (5, .int (nI (1))), (4, .int (nI (i))), (3, .ref (o)), (2, .ref (u)), (1, .ref (t)), (0, .ref (b0))]) dL_law_618 (by decide) rfl ?_
        refine z_aload_n C dL_law_620 rfl 4 rfl ?_
        refine z_cV C (st' := [.int ((zU κ 0 (0) (nI (1))) 0 (0))]) (B' := [(shT t a ta, zZ), (shF a cI cZ, σ), (shF ta cI cZ, τ), (shM u a2 ta2, (zU κ 0 (0) (nI (1)))), (shS a2 cI, ρ), (shS ta2 cI, υ), ([(o, .inr (.inr (.inl (cJ, 1, .inr (.inl g)))))], zZ)]) [false, false, false, true, true, true, false] rfl (c_X4_thrown l D cI cZ cJ u a2 ta2 (zU κ 0 (0) (nI (1))) ρ υ n hI2) wq_yX4_thrown wm_L_72 ⟨wn_yX4_thrown, wo_yX4_thrown⟩ ⟨rfl, rfl, Nat.le_of_ble_eq_true rfl, Nat.le_of_ble_eq_true rfl⟩ 3 rfl 0 rfl rfl rfl rfl (Nat.le_of_ble_eq_true rfl) dL_law_621 ⟨(by show _ ≤ 1087; omega), (by show _ ≤ 9136; omega)⟩ rfl rfl ?_
        refine z_top (y := nI (1)) (zU_self _ _ _ _) ?_
        refine z_iload C dL_law_624 1 rfl ?_
        refine z_icmp_eqN C (tgt := 631) dL_law_626 (by decide) (by omega) (by omega) (fun c_626 => ?_) (fun c_626 => ?_)
        · refine z_iload C dL_law_631 1 rfl ?_
          refine z_if_neN C (tgt := 648) dL_law_633 (by decide) (by omega) (fun c_633 => ?_) (fun c_633 => ?_)
          · refine z_goto C (tgt := 1135) dL_law_648 (by decide) ?_
            refine z_sub (L' := [(4, .int (nI i)), (3, .ref o), (2, .ref u), (1, .ref t), (0, .ref b0)]) [2, 3, 4, 5, 6] rfl ?_
            exact kk _ _ n σ τ (zU κ 0 (0) (nI (1))) ρ υ g (by omega) (by omega) (hI) (hI2) (hS)
          · exact absurd c_633 (by omega)
        · exact absurd rfl c_626
      · have hk2 : k < fl_ln ρ b := by rw [← hR.ln hb]; exact hk
        refine z_aload_n C dL_law_571 rfl 3 rfl ?_
        refine z_aload_n C dL_law_572 rfl 4 rfl ?_
        refine z_iload C dL_law_573 0 rfl ?_
        refine z_iconst C (v := nI (1)) (by decide) dL_law_575 ?_
        refine z_iaddN C dL_law_576 ?_
        refine z_sld C hX hbl hbA (by omega) (by omega) dL_law_577 ?_
        refine z_top (y := nI (b)) e1 ?_
        refine z_aload_n C dL_law_578 rfl 4 rfl ?_
        refine z_iload C dL_law_579 0 rfl ?_
        refine z_iconst C (v := nI (2)) (by decide) dL_law_581 ?_
        refine z_iaddN C dL_law_582 ?_
        refine z_sld C hX hbl hbA (by omega) (by omega) dL_law_583 ?_
        refine z_top (y := nI (k)) e2 ?_
        refine z_aload_n C dL_law_584 rfl 4 rfl ?_
        refine z_iload C dL_law_585 0 rfl ?_
        refine z_iconst C (v := nI (3)) (by decide) dL_law_587 ?_
        refine z_iaddN C dL_law_588 ?_
        refine z_sld C hX hbl hbA (by omega) (by omega) dL_law_589 ?_
        refine z_top (y := nI (w)) e3 ?_
        refine z_aload_n C dL_law_590 rfl 1 rfl ?_
        refine z_callSH C (n := 5) (st' := [.int (nI (0))]) (B' := [(shT t a ta, zZ), (shF a cI cZ, σ), (shF ta cI cZ, τ), (shM u a2 ta2, κ), (shS a2 cI, ρ), (shS ta2 cI, υ), ([(o, .inr (.inr (.inl (cJ, 1, .inr (.inl (vp_updL g 0 ((fl_ofE n σ b k w).toInt64)))))))], zZ)]) [true, true, true, false, false, false, true] rfl (c_L_entry l hlt D cI cZ cJ t a ta o g σ τ n hI b k w hb hk hw) wk_yL_entry wi_L ⟨by decide, by decide, by decide +kernel⟩ wm_L_95 ws_yL_entry ⟨rfl, rfl, Nat.le_of_ble_eq_true rfl, Nat.le_of_ble_eq_true rfl⟩ rfl rfl (Nat.le_of_ble_eq_true rfl) dL_law_591 ⟨(by show _ ≤ 1087; omega), (by show _ ≤ 9136; omega)⟩ rfl rfl ?_
        refine z_istore C (L' := [(5, .int (nI (0))), (4, .int (nI (i))), (3, .ref (o)), (2, .ref (u)), (1, .ref (t)), (0, .ref (b0))]) dL_law_594 (by decide) rfl ?_
        refine z_aload_n C dL_law_596 rfl 3 rfl ?_
        refine z_aload_n C dL_law_597 rfl 5 rfl ?_
        refine z_iload C dL_law_598 1 rfl ?_
        refine z_iconst C (v := nI (1)) (by decide) dL_law_600 ?_
        refine z_iaddN C dL_law_601 ?_
        refine z_sld C hX hbl hbA (by omega) (by omega) dL_law_602 ?_
        refine z_top (y := nI (b)) e1 ?_
        refine z_aload_n C dL_law_603 rfl 5 rfl ?_
        refine z_iload C dL_law_604 1 rfl ?_
        refine z_iconst C (v := nI (2)) (by decide) dL_law_606 ?_
        refine z_iaddN C dL_law_607 ?_
        refine z_sld C hX hbl hbA (by omega) (by omega) dL_law_608 ?_
        refine z_top (y := nI (k)) e2 ?_
        refine z_aload_n C dL_law_609 rfl 5 rfl ?_
        refine z_iload C dL_law_610 1 rfl ?_
        refine z_iconst C (v := nI (3)) (by decide) dL_law_612 ?_
        refine z_iaddN C dL_law_613 ?_
        refine z_sld C hX hbl hbA (by omega) (by omega) dL_law_614 ?_
        refine z_top (y := nI (w)) e3 ?_
        refine z_cV C (st' := [.int (fl_ofE n ρ b k w)]) (B' := [(shT t a ta, zZ), (shF a cI cZ, σ), (shF ta cI cZ, τ), (shM u a2 ta2, (zU κ 0 (0) (nI (0)))), (shS a2 cI, ρ), (shS ta2 cI, υ), ([(o, .inr (.inr (.inl (cJ, 1, .inr (.inl (vp_updL g 0 ((fl_ofE n σ b k w).toInt64)))))))], zZ)]) [false, false, false, true, true, true, false] rfl (c_X4_entry l D cI cZ cJ u a2 ta2 κ ρ υ n hI2 b k w hb hk2 hw) wq_yX4_entry wm_L_98 ⟨wn_yX4_entry, wo_yX4_entry⟩ ⟨rfl, rfl, Nat.le_of_ble_eq_true rfl, Nat.le_of_ble_eq_true rfl⟩ 3 rfl 0 rfl rfl rfl rfl (Nat.le_of_ble_eq_true rfl) dL_law_615 ⟨(by show _ ≤ 1087; omega), (by show _ ≤ 9136; omega)⟩ rfl rfl ?_
        refine z_top (y := fl_ofE n σ b k w) ((hR.ofE hb (by have := hI.lnT hb; omega) w).symm) ?_
        refine z_istore C (L' := [(6, .int (fl_ofE n σ b k w)), (5, .int (nI (0))), (4, .int (nI (i))), (3, .ref (o)), (2, .ref (u)), (1, .ref (t)), (0, .ref (b0))]) dL_law_618 (by decide) rfl ?_
        refine z_aload_n C dL_law_620 rfl 4 rfl ?_
        refine z_cV C (st' := [.int ((zU κ 0 (0) (nI (0))) 0 (0))]) (B' := [(shT t a ta, zZ), (shF a cI cZ, σ), (shF ta cI cZ, τ), (shM u a2 ta2, (zU κ 0 (0) (nI (0)))), (shS a2 cI, ρ), (shS ta2 cI, υ), ([(o, .inr (.inr (.inl (cJ, 1, .inr (.inl (vp_updL g 0 ((fl_ofE n σ b k w).toInt64)))))))], zZ)]) [false, false, false, true, true, true, false] rfl (c_X4_thrown l D cI cZ cJ u a2 ta2 (zU κ 0 (0) (nI (0))) ρ υ n hI2) wq_yX4_thrown wm_L_72 ⟨wn_yX4_thrown, wo_yX4_thrown⟩ ⟨rfl, rfl, Nat.le_of_ble_eq_true rfl, Nat.le_of_ble_eq_true rfl⟩ 3 rfl 0 rfl rfl rfl rfl (Nat.le_of_ble_eq_true rfl) dL_law_621 ⟨(by show _ ≤ 1087; omega), (by show _ ≤ 9136; omega)⟩ rfl rfl ?_
        refine z_top (y := nI (0)) (zU_self _ _ _ _) ?_
        refine z_iload C dL_law_624 1 rfl ?_
        refine z_icmp_eqN C (tgt := 631) dL_law_626 (by decide) (by omega) (by omega) (fun c_626 => ?_) (fun c_626 => ?_)
        · refine z_iload C dL_law_631 1 rfl ?_
          refine z_if_neN C (tgt := 648) dL_law_633 (by decide) (by omega) (fun c_633 => ?_) (fun c_633 => ?_)
          · exact absurd c_633 (by omega)
          · refine z_aload_n C dL_law_636 rfl 3 rfl ?_
            refine z_iconst C (v := nI (0)) (by decide) dL_law_637 ?_
            refine z_lald C 6 rfl 0 2 rfl rfl dL_law_638 (by decide) (by decide) ?_
            refine z_topV (y := .long ((fl_ofE n σ b k w).toInt64)) (congrArg Value.long (by simp [vp_updL])) ?_
            refine z_iload C dL_law_639 0 rfl ?_
            refine z_i2l C (v := (fl_ofE n σ b k w).toInt64) rfl dL_law_641 ?_
            refine z_lcmp C dL_law_642 ?_
            refine z_if_eq C (tgt := 648) dL_law_643 (by decide) (fun c_643 => ?_) (fun c_643 => ?_)
            · refine z_goto C (tgt := 1135) dL_law_648 (by decide) ?_
              refine z_sub (L' := [(4, .int (nI i)), (3, .ref o), (2, .ref u), (1, .ref t), (0, .ref b0)]) [2, 3, 4, 5, 6] rfl ?_
              exact kk _ _ n σ τ (zU κ 0 (0) (nI (0))) ρ υ (vp_updL g 0 ((fl_ofE n σ b k w).toInt64)) (by omega) (by omega) (hI) (hI2) (hS)
            · exact absurd (lg_cmp_self _) c_643
        · exact absurd rfl c_626
set_option maxHeartbeats 4000000 in
set_option maxRecDepth 100000 in
theorem lw_op8 (C : zX p s m args meth c D (tyL cI cZ cJ) A RL cL_law 9) (hlt : l.stackTraces = false) (hX : va_X b0 L xs s s.heap) (hbl : b0 < s.heap.size) (hbA : ¬ A b0) (hL : L ≤ 2048) {cells slots i n : Nat} {σ τ κ ρ υ : zF} {g : Nat → Int64} (hi : i + 4 ≤ L) (hc : cells ≤ 600) (hs : slots ≤ 4000) (hI : fl_Iv n σ) (hI2 : fl_Iv n ρ) (hS : fl_S n σ ρ) (kk : lwG p l e s m args below meth c D A Q cI cZ cJ t u o b0 a ta a2 ta2 1135 i (cells + 1) (slots + 6)) : zK p l e room_1 s m args below meth c D A 9 Q cells slots 651 [(4, .int (nI i)), (3, .ref o), (2, .ref u), (1, .ref t), (0, .ref b0)] [] [(shT t a ta, zZ), (shF a cI cZ, σ), (shF ta cI cZ, τ), (shM u a2 ta2, κ), (shS a2 cI, ρ), (shS ta2 cI, υ), ([(o, .inr (.inr (.inl (cJ, 1, .inr (.inl g)))))], zZ)] := by
  have hn3 := hI.n3
  have hn7 := hI.n7
  have hR : fl_R n σ ρ := ⟨hI, hS⟩
  rcases bx_cases n (by omega) (xs (i + 1)) with hx | ⟨b, hb, e1⟩
  · refine z_aload_n C dL_law_651 rfl 3 rfl ?_
    refine z_aload_n C dL_law_652 rfl 4 rfl ?_
    refine z_iload C dL_law_653 0 rfl ?_
    refine z_iconst C (v := nI (1)) (by decide) dL_law_655 ?_
    refine z_iaddN C dL_law_656 ?_
    refine z_sld C hX hbl hbA (by omega) (by omega) dL_law_657 ?_
    refine z_aload_n C dL_law_658 rfl 4 rfl ?_
    refine z_iload C dL_law_659 0 rfl ?_
    refine z_iconst C (v := nI (2)) (by decide) dL_law_661 ?_
    refine z_iaddN C dL_law_662 ?_
    refine z_sld C hX hbl hbA (by omega) (by omega) dL_law_663 ?_
    refine z_aload_n C dL_law_664 rfl 1 rfl ?_
    refine z_callSH C (n := 4) (st' := [.int (nI (1))]) (B' := [(shT t a ta, zZ), (shF a cI cZ, σ), (shF ta cI cZ, τ), (shM u a2 ta2, κ), (shS a2 cI, ρ), (shS ta2 cI, υ), ([(o, .inr (.inr (.inl (cJ, 1, .inr (.inl g)))))], zZ)]) [true, true, true, false, false, false, true] rfl (c_L_agree_b1 l hlt D cI cZ cJ t a ta o g σ τ n hI (xs (i + 1)) (xs (i + 2)) hx) wk_yL_agree wi_L ⟨by decide, by decide, by decide +kernel⟩ wm_L_99 ws_yL_agree ⟨rfl, rfl, Nat.le_of_ble_eq_true rfl, Nat.le_of_ble_eq_true rfl⟩ rfl rfl (Nat.le_of_ble_eq_true rfl) dL_law_665 ⟨(by show _ ≤ 1087; omega), (by show _ ≤ 9136; omega)⟩ rfl rfl ?_
    refine z_istore C (L' := [(5, .int (nI (1))), (4, .int (nI (i))), (3, .ref (o)), (2, .ref (u)), (1, .ref (t)), (0, .ref (b0))]) dL_law_668 (by decide) rfl ?_
    refine z_aload_n C dL_law_670 rfl 3 rfl ?_
    refine z_aload_n C dL_law_671 rfl 5 rfl ?_
    refine z_iload C dL_law_672 1 rfl ?_
    refine z_iconst C (v := nI (1)) (by decide) dL_law_674 ?_
    refine z_iaddN C dL_law_675 ?_
    refine z_sld C hX hbl hbA (by omega) (by omega) dL_law_676 ?_
    refine z_aload_n C dL_law_677 rfl 5 rfl ?_
    refine z_iload C dL_law_678 1 rfl ?_
    refine z_iconst C (v := nI (2)) (by decide) dL_law_680 ?_
    refine z_iaddN C dL_law_681 ?_
    refine z_sld C hX hbl hbA (by omega) (by omega) dL_law_682 ?_
    refine z_cV C (st' := [.int (nI (0))]) (B' := [(shT t a ta, zZ), (shF a cI cZ, σ), (shF ta cI cZ, τ), (shM u a2 ta2, (zU κ 0 (0) (nI (1)))), (shS a2 cI, ρ), (shS ta2 cI, υ), ([(o, .inr (.inr (.inl (cJ, 1, .inr (.inl g)))))], zZ)]) [false, false, false, true, true, true, false] rfl (c_X4_agree_b1 l D cI cZ cJ u a2 ta2 κ ρ υ n hI2 (xs (i + 1)) (xs (i + 2)) hx) wq_yX4_agree wm_L_101 ⟨wn_yX4_agree, wo_yX4_agree⟩ ⟨rfl, rfl, Nat.le_of_ble_eq_true rfl, Nat.le_of_ble_eq_true rfl⟩ 3 rfl 0 rfl rfl rfl rfl (Nat.le_of_ble_eq_true rfl) dL_law_683 ⟨(by show _ ≤ 1087; omega), (by show _ ≤ 9136; omega)⟩ rfl rfl ?_
    refine z_istore C (L' := [(6, .int (nI (0))), (5, .int (nI (1))), (4, .int (nI (i))), (3, .ref (o)), (2, .ref (u)), (1, .ref (t)), (0, .ref (b0))]) dL_law_686 (by decide) rfl ?_
    refine z_aload_n C dL_law_688 rfl 4 rfl ?_
    refine z_cV C (st' := [.int ((zU κ 0 (0) (nI (1))) 0 (0))]) (B' := [(shT t a ta, zZ), (shF a cI cZ, σ), (shF ta cI cZ, τ), (shM u a2 ta2, (zU κ 0 (0) (nI (1)))), (shS a2 cI, ρ), (shS ta2 cI, υ), ([(o, .inr (.inr (.inl (cJ, 1, .inr (.inl g)))))], zZ)]) [false, false, false, true, true, true, false] rfl (c_X4_thrown l D cI cZ cJ u a2 ta2 (zU κ 0 (0) (nI (1))) ρ υ n hI2) wq_yX4_thrown wm_L_72 ⟨wn_yX4_thrown, wo_yX4_thrown⟩ ⟨rfl, rfl, Nat.le_of_ble_eq_true rfl, Nat.le_of_ble_eq_true rfl⟩ 3 rfl 0 rfl rfl rfl rfl (Nat.le_of_ble_eq_true rfl) dL_law_689 ⟨(by show _ ≤ 1087; omega), (by show _ ≤ 9136; omega)⟩ rfl rfl ?_
    refine z_top (y := nI (1)) (zU_self _ _ _ _) ?_
    refine z_iload C dL_law_692 1 rfl ?_
    refine z_icmp_eqN C (tgt := 699) dL_law_694 (by decide) (by omega) (by omega) (fun c_694 => ?_) (fun c_694 => ?_)
    · refine z_iload C dL_law_699 1 rfl ?_
      refine z_if_neN C (tgt := 716) dL_law_701 (by decide) (by omega) (fun c_701 => ?_) (fun c_701 => ?_)
      · refine z_goto C (tgt := 1135) dL_law_716 (by decide) ?_
        refine z_sub (L' := [(4, .int (nI i)), (3, .ref o), (2, .ref u), (1, .ref t), (0, .ref b0)]) [2, 3, 4, 5, 6] rfl ?_
        exact kk _ _ n σ τ (zU κ 0 (0) (nI (1))) ρ υ g (by omega) (by omega) (hI) (hI2) (hS)
      · exact absurd c_701 (by omega)
    · exact absurd rfl c_694
  · rcases bx_cases n (by omega) (xs (i + 2)) with hx | ⟨k, hk, e2⟩
    · refine z_aload_n C dL_law_651 rfl 3 rfl ?_
      refine z_aload_n C dL_law_652 rfl 4 rfl ?_
      refine z_iload C dL_law_653 0 rfl ?_
      refine z_iconst C (v := nI (1)) (by decide) dL_law_655 ?_
      refine z_iaddN C dL_law_656 ?_
      refine z_sld C hX hbl hbA (by omega) (by omega) dL_law_657 ?_
      refine z_top (y := nI (b)) e1 ?_
      refine z_aload_n C dL_law_658 rfl 4 rfl ?_
      refine z_iload C dL_law_659 0 rfl ?_
      refine z_iconst C (v := nI (2)) (by decide) dL_law_661 ?_
      refine z_iaddN C dL_law_662 ?_
      refine z_sld C hX hbl hbA (by omega) (by omega) dL_law_663 ?_
      refine z_aload_n C dL_law_664 rfl 1 rfl ?_
      refine z_callSH C (n := 4) (st' := [.int (nI (1))]) (B' := [(shT t a ta, zZ), (shF a cI cZ, σ), (shF ta cI cZ, τ), (shM u a2 ta2, κ), (shS a2 cI, ρ), (shS ta2 cI, υ), ([(o, .inr (.inr (.inl (cJ, 1, .inr (.inl g)))))], zZ)]) [true, true, true, false, false, false, true] rfl (c_L_agree_b2 l hlt D cI cZ cJ t a ta o g σ τ n hI b (xs (i + 2)) hb hx) wk_yL_agree wi_L ⟨by decide, by decide, by decide +kernel⟩ wm_L_99 ws_yL_agree ⟨rfl, rfl, Nat.le_of_ble_eq_true rfl, Nat.le_of_ble_eq_true rfl⟩ rfl rfl (Nat.le_of_ble_eq_true rfl) dL_law_665 ⟨(by show _ ≤ 1087; omega), (by show _ ≤ 9136; omega)⟩ rfl rfl ?_
      refine z_istore C (L' := [(5, .int (nI (1))), (4, .int (nI (i))), (3, .ref (o)), (2, .ref (u)), (1, .ref (t)), (0, .ref (b0))]) dL_law_668 (by decide) rfl ?_
      refine z_aload_n C dL_law_670 rfl 3 rfl ?_
      refine z_aload_n C dL_law_671 rfl 5 rfl ?_
      refine z_iload C dL_law_672 1 rfl ?_
      refine z_iconst C (v := nI (1)) (by decide) dL_law_674 ?_
      refine z_iaddN C dL_law_675 ?_
      refine z_sld C hX hbl hbA (by omega) (by omega) dL_law_676 ?_
      refine z_top (y := nI (b)) e1 ?_
      refine z_aload_n C dL_law_677 rfl 5 rfl ?_
      refine z_iload C dL_law_678 1 rfl ?_
      refine z_iconst C (v := nI (2)) (by decide) dL_law_680 ?_
      refine z_iaddN C dL_law_681 ?_
      refine z_sld C hX hbl hbA (by omega) (by omega) dL_law_682 ?_
      refine z_cV C (st' := [.int (nI (0))]) (B' := [(shT t a ta, zZ), (shF a cI cZ, σ), (shF ta cI cZ, τ), (shM u a2 ta2, (zU κ 0 (0) (nI (1)))), (shS a2 cI, ρ), (shS ta2 cI, υ), ([(o, .inr (.inr (.inl (cJ, 1, .inr (.inl g)))))], zZ)]) [false, false, false, true, true, true, false] rfl (c_X4_agree_b2 l D cI cZ cJ u a2 ta2 κ ρ υ n hI2 b (xs (i + 2)) hb hx) wq_yX4_agree wm_L_101 ⟨wn_yX4_agree, wo_yX4_agree⟩ ⟨rfl, rfl, Nat.le_of_ble_eq_true rfl, Nat.le_of_ble_eq_true rfl⟩ 3 rfl 0 rfl rfl rfl rfl (Nat.le_of_ble_eq_true rfl) dL_law_683 ⟨(by show _ ≤ 1087; omega), (by show _ ≤ 9136; omega)⟩ rfl rfl ?_
      refine z_istore C (L' := [(6, .int (nI (0))), (5, .int (nI (1))), (4, .int (nI (i))), (3, .ref (o)), (2, .ref (u)), (1, .ref (t)), (0, .ref (b0))]) dL_law_686 (by decide) rfl ?_
      refine z_aload_n C dL_law_688 rfl 4 rfl ?_
      refine z_cV C (st' := [.int ((zU κ 0 (0) (nI (1))) 0 (0))]) (B' := [(shT t a ta, zZ), (shF a cI cZ, σ), (shF ta cI cZ, τ), (shM u a2 ta2, (zU κ 0 (0) (nI (1)))), (shS a2 cI, ρ), (shS ta2 cI, υ), ([(o, .inr (.inr (.inl (cJ, 1, .inr (.inl g)))))], zZ)]) [false, false, false, true, true, true, false] rfl (c_X4_thrown l D cI cZ cJ u a2 ta2 (zU κ 0 (0) (nI (1))) ρ υ n hI2) wq_yX4_thrown wm_L_72 ⟨wn_yX4_thrown, wo_yX4_thrown⟩ ⟨rfl, rfl, Nat.le_of_ble_eq_true rfl, Nat.le_of_ble_eq_true rfl⟩ 3 rfl 0 rfl rfl rfl rfl (Nat.le_of_ble_eq_true rfl) dL_law_689 ⟨(by show _ ≤ 1087; omega), (by show _ ≤ 9136; omega)⟩ rfl rfl ?_
      refine z_top (y := nI (1)) (zU_self _ _ _ _) ?_
      refine z_iload C dL_law_692 1 rfl ?_
      refine z_icmp_eqN C (tgt := 699) dL_law_694 (by decide) (by omega) (by omega) (fun c_694 => ?_) (fun c_694 => ?_)
      · refine z_iload C dL_law_699 1 rfl ?_
        refine z_if_neN C (tgt := 716) dL_law_701 (by decide) (by omega) (fun c_701 => ?_) (fun c_701 => ?_)
        · refine z_goto C (tgt := 1135) dL_law_716 (by decide) ?_
          refine z_sub (L' := [(4, .int (nI i)), (3, .ref o), (2, .ref u), (1, .ref t), (0, .ref b0)]) [2, 3, 4, 5, 6] rfl ?_
          exact kk _ _ n σ τ (zU κ 0 (0) (nI (1))) ρ υ g (by omega) (by omega) (hI) (hI2) (hS)
        · exact absurd c_701 (by omega)
      · exact absurd rfl c_694
    · refine z_aload_n C dL_law_651 rfl 3 rfl ?_
      refine z_aload_n C dL_law_652 rfl 4 rfl ?_
      refine z_iload C dL_law_653 0 rfl ?_
      refine z_iconst C (v := nI (1)) (by decide) dL_law_655 ?_
      refine z_iaddN C dL_law_656 ?_
      refine z_sld C hX hbl hbA (by omega) (by omega) dL_law_657 ?_
      refine z_top (y := nI (b)) e1 ?_
      refine z_aload_n C dL_law_658 rfl 4 rfl ?_
      refine z_iload C dL_law_659 0 rfl ?_
      refine z_iconst C (v := nI (2)) (by decide) dL_law_661 ?_
      refine z_iaddN C dL_law_662 ?_
      refine z_sld C hX hbl hbA (by omega) (by omega) dL_law_663 ?_
      refine z_top (y := nI (k)) e2 ?_
      refine z_aload_n C dL_law_664 rfl 1 rfl ?_
      refine z_callSH C (n := 4) (st' := [.int (nI (0))]) (B' := [(shT t a ta, zZ), (shF a cI cZ, σ), (shF ta cI cZ, τ), (shM u a2 ta2, κ), (shS a2 cI, ρ), (shS ta2 cI, υ), ([(o, .inr (.inr (.inl (cJ, 1, .inr (.inl (vp_updL g 0 ((nI (fl_agr σ b k)).toInt64)))))))], zZ)]) [true, true, true, false, false, false, true] rfl (c_L_agree l hlt D cI cZ cJ t a ta o g σ τ n hI b k hb hk) wk_yL_agree wi_L ⟨by decide, by decide, by decide +kernel⟩ wm_L_99 ws_yL_agree ⟨rfl, rfl, Nat.le_of_ble_eq_true rfl, Nat.le_of_ble_eq_true rfl⟩ rfl rfl (Nat.le_of_ble_eq_true rfl) dL_law_665 ⟨(by show _ ≤ 1087; omega), (by show _ ≤ 9136; omega)⟩ rfl rfl ?_
      refine z_istore C (L' := [(5, .int (nI (0))), (4, .int (nI (i))), (3, .ref (o)), (2, .ref (u)), (1, .ref (t)), (0, .ref (b0))]) dL_law_668 (by decide) rfl ?_
      refine z_aload_n C dL_law_670 rfl 3 rfl ?_
      refine z_aload_n C dL_law_671 rfl 5 rfl ?_
      refine z_iload C dL_law_672 1 rfl ?_
      refine z_iconst C (v := nI (1)) (by decide) dL_law_674 ?_
      refine z_iaddN C dL_law_675 ?_
      refine z_sld C hX hbl hbA (by omega) (by omega) dL_law_676 ?_
      refine z_top (y := nI (b)) e1 ?_
      refine z_aload_n C dL_law_677 rfl 5 rfl ?_
      refine z_iload C dL_law_678 1 rfl ?_
      refine z_iconst C (v := nI (2)) (by decide) dL_law_680 ?_
      refine z_iaddN C dL_law_681 ?_
      refine z_sld C hX hbl hbA (by omega) (by omega) dL_law_682 ?_
      refine z_top (y := nI (k)) e2 ?_
      refine z_cV C (st' := [.int (nI (fl_agr ρ b k))]) (B' := [(shT t a ta, zZ), (shF a cI cZ, σ), (shF ta cI cZ, τ), (shM u a2 ta2, (zU κ 0 (0) (nI (0)))), (shS a2 cI, ρ), (shS ta2 cI, υ), ([(o, .inr (.inr (.inl (cJ, 1, .inr (.inl (vp_updL g 0 ((nI (fl_agr σ b k)).toInt64)))))))], zZ)]) [false, false, false, true, true, true, false] rfl (c_X4_agree l D cI cZ cJ u a2 ta2 κ ρ υ n hI2 b k hb hk) wq_yX4_agree wm_L_101 ⟨wn_yX4_agree, wo_yX4_agree⟩ ⟨rfl, rfl, Nat.le_of_ble_eq_true rfl, Nat.le_of_ble_eq_true rfl⟩ 3 rfl 0 rfl rfl rfl rfl (Nat.le_of_ble_eq_true rfl) dL_law_683 ⟨(by show _ ≤ 1087; omega), (by show _ ≤ 9136; omega)⟩ rfl rfl ?_
      refine z_top (y := nI (fl_agr σ b k)) (congrArg nI (hR.agr hb hk).symm) ?_
      refine z_istore C (L' := [(6, .int (nI (fl_agr σ b k))), (5, .int (nI (0))), (4, .int (nI (i))), (3, .ref (o)), (2, .ref (u)), (1, .ref (t)), (0, .ref (b0))]) dL_law_686 (by decide) rfl ?_
      refine z_aload_n C dL_law_688 rfl 4 rfl ?_
      refine z_cV C (st' := [.int ((zU κ 0 (0) (nI (0))) 0 (0))]) (B' := [(shT t a ta, zZ), (shF a cI cZ, σ), (shF ta cI cZ, τ), (shM u a2 ta2, (zU κ 0 (0) (nI (0)))), (shS a2 cI, ρ), (shS ta2 cI, υ), ([(o, .inr (.inr (.inl (cJ, 1, .inr (.inl (vp_updL g 0 ((nI (fl_agr σ b k)).toInt64)))))))], zZ)]) [false, false, false, true, true, true, false] rfl (c_X4_thrown l D cI cZ cJ u a2 ta2 (zU κ 0 (0) (nI (0))) ρ υ n hI2) wq_yX4_thrown wm_L_72 ⟨wn_yX4_thrown, wo_yX4_thrown⟩ ⟨rfl, rfl, Nat.le_of_ble_eq_true rfl, Nat.le_of_ble_eq_true rfl⟩ 3 rfl 0 rfl rfl rfl rfl (Nat.le_of_ble_eq_true rfl) dL_law_689 ⟨(by show _ ≤ 1087; omega), (by show _ ≤ 9136; omega)⟩ rfl rfl ?_
      refine z_top (y := nI (0)) (zU_self _ _ _ _) ?_
      refine z_iload C dL_law_692 1 rfl ?_
      refine z_icmp_eqN C (tgt := 699) dL_law_694 (by decide) (by omega) (by omega) (fun c_694 => ?_) (fun c_694 => ?_)
      · refine z_iload C dL_law_699 1 rfl ?_
        refine z_if_neN C (tgt := 716) dL_law_701 (by decide) (by omega) (fun c_701 => ?_) (fun c_701 => ?_)
        · exact absurd c_701 (by omega)
        · refine z_aload_n C dL_law_704 rfl 3 rfl ?_
          refine z_iconst C (v := nI (0)) (by decide) dL_law_705 ?_
          refine z_lald C 6 rfl 0 2 rfl rfl dL_law_706 (by decide) (by decide) ?_
          refine z_topV (y := .long ((nI (fl_agr σ b k)).toInt64)) (congrArg Value.long (by simp [vp_updL])) ?_
          refine z_iload C dL_law_707 0 rfl ?_
          refine z_i2l C (v := (nI (fl_agr σ b k)).toInt64) rfl dL_law_709 ?_
          refine z_lcmp C dL_law_710 ?_
          refine z_if_eq C (tgt := 716) dL_law_711 (by decide) (fun c_711 => ?_) (fun c_711 => ?_)
          · refine z_goto C (tgt := 1135) dL_law_716 (by decide) ?_
            refine z_sub (L' := [(4, .int (nI i)), (3, .ref o), (2, .ref u), (1, .ref t), (0, .ref b0)]) [2, 3, 4, 5, 6] rfl ?_
            exact kk _ _ n σ τ (zU κ 0 (0) (nI (0))) ρ υ (vp_updL g 0 ((nI (fl_agr σ b k)).toInt64)) (by omega) (by omega) (hI) (hI2) (hS)
          · exact absurd (lg_cmp_self _) c_711
      · exact absurd rfl c_694
set_option maxHeartbeats 4000000 in
set_option maxRecDepth 100000 in
theorem lw_op9 (C : zX p s m args meth c D (tyL cI cZ cJ) A RL cL_law 9) (hlt : l.stackTraces = false) (hX : va_X b0 L xs s s.heap) (hbl : b0 < s.heap.size) (hbA : ¬ A b0) (hL : L ≤ 2048) {cells slots i n : Nat} {σ τ κ ρ υ : zF} {g : Nat → Int64} (hi : i + 4 ≤ L) (hc : cells ≤ 600) (hs : slots ≤ 4000) (hI : fl_Iv n σ) (hI2 : fl_Iv n ρ) (hS : fl_S n σ ρ) (kk : lwG p l e s m args below meth c D A Q cI cZ cJ t u o b0 a ta a2 ta2 1135 i (cells + 1) (slots + 6)) : zK p l e room_1 s m args below meth c D A 9 Q cells slots 719 [(4, .int (nI i)), (3, .ref o), (2, .ref u), (1, .ref t), (0, .ref b0)] [] [(shT t a ta, zZ), (shF a cI cZ, σ), (shF ta cI cZ, τ), (shM u a2 ta2, κ), (shS a2 cI, ρ), (shS ta2 cI, υ), ([(o, .inr (.inr (.inl (cJ, 1, .inr (.inl g)))))], zZ)] := by
  have hn3 := hI.n3
  have hn7 := hI.n7
  have hR : fl_R n σ ρ := ⟨hI, hS⟩
  rcases bx_cases n (by omega) (xs (i + 1)) with hx | ⟨b, hb, e1⟩
  · refine z_aload_n C dL_law_719 rfl 3 rfl ?_
    refine z_aload_n C dL_law_720 rfl 4 rfl ?_
    refine z_iload C dL_law_721 0 rfl ?_
    refine z_iconst C (v := nI (1)) (by decide) dL_law_723 ?_
    refine z_iaddN C dL_law_724 ?_
    refine z_sld C hX hbl hbA (by omega) (by omega) dL_law_725 ?_
    refine z_aload_n C dL_law_726 rfl 4 rfl ?_
    refine z_iload C dL_law_727 0 rfl ?_
    refine z_iconst C (v := nI (2)) (by decide) dL_law_729 ?_
    refine z_iaddN C dL_law_730 ?_
    refine z_sld C hX hbl hbA (by omega) (by omega) dL_law_731 ?_
    refine z_aload_n C dL_law_732 rfl 1 rfl ?_
    refine z_callSH C (n := 4) (st' := [.int (nI (1))]) (B' := [(shT t a ta, zZ), (shF a cI cZ, σ), (shF ta cI cZ, τ), (shM u a2 ta2, κ), (shS a2 cI, ρ), (shS ta2 cI, υ), ([(o, .inr (.inr (.inl (cJ, 1, .inr (.inl g)))))], zZ)]) [true, true, true, false, false, false, true] rfl (c_L_newer_b1 l hlt D cI cZ cJ t a ta o g σ τ n hI (xs (i + 1)) (xs (i + 2)) hx) wk_yL_newer wi_L ⟨by decide, by decide, by decide +kernel⟩ wm_L_102 ws_yL_newer ⟨rfl, rfl, Nat.le_of_ble_eq_true rfl, Nat.le_of_ble_eq_true rfl⟩ rfl rfl (Nat.le_of_ble_eq_true rfl) dL_law_733 ⟨(by show _ ≤ 1087; omega), (by show _ ≤ 9136; omega)⟩ rfl rfl ?_
    refine z_istore C (L' := [(5, .int (nI (1))), (4, .int (nI (i))), (3, .ref (o)), (2, .ref (u)), (1, .ref (t)), (0, .ref (b0))]) dL_law_736 (by decide) rfl ?_
    refine z_aload_n C dL_law_738 rfl 3 rfl ?_
    refine z_aload_n C dL_law_739 rfl 5 rfl ?_
    refine z_iload C dL_law_740 1 rfl ?_
    refine z_iconst C (v := nI (1)) (by decide) dL_law_742 ?_
    refine z_iaddN C dL_law_743 ?_
    refine z_sld C hX hbl hbA (by omega) (by omega) dL_law_744 ?_
    refine z_aload_n C dL_law_745 rfl 5 rfl ?_
    refine z_iload C dL_law_746 1 rfl ?_
    refine z_iconst C (v := nI (2)) (by decide) dL_law_748 ?_
    refine z_iaddN C dL_law_749 ?_
    refine z_sld C hX hbl hbA (by omega) (by omega) dL_law_750 ?_
    refine z_cV C (st' := [.int (nI (0))]) (B' := [(shT t a ta, zZ), (shF a cI cZ, σ), (shF ta cI cZ, τ), (shM u a2 ta2, (zU κ 0 (0) (nI (1)))), (shS a2 cI, ρ), (shS ta2 cI, υ), ([(o, .inr (.inr (.inl (cJ, 1, .inr (.inl g)))))], zZ)]) [false, false, false, true, true, true, false] rfl (c_X4_newer_b1 l D cI cZ cJ u a2 ta2 κ ρ υ n hI2 (xs (i + 1)) (xs (i + 2)) hx) wq_yX4_newer wm_L_104 ⟨wn_yX4_newer, wo_yX4_newer⟩ ⟨rfl, rfl, Nat.le_of_ble_eq_true rfl, Nat.le_of_ble_eq_true rfl⟩ 3 rfl 0 rfl rfl rfl rfl (Nat.le_of_ble_eq_true rfl) dL_law_751 ⟨(by show _ ≤ 1087; omega), (by show _ ≤ 9136; omega)⟩ rfl rfl ?_
    refine z_istore C (L' := [(6, .int (nI (0))), (5, .int (nI (1))), (4, .int (nI (i))), (3, .ref (o)), (2, .ref (u)), (1, .ref (t)), (0, .ref (b0))]) dL_law_754 (by decide) rfl ?_
    refine z_aload_n C dL_law_756 rfl 4 rfl ?_
    refine z_cV C (st' := [.int ((zU κ 0 (0) (nI (1))) 0 (0))]) (B' := [(shT t a ta, zZ), (shF a cI cZ, σ), (shF ta cI cZ, τ), (shM u a2 ta2, (zU κ 0 (0) (nI (1)))), (shS a2 cI, ρ), (shS ta2 cI, υ), ([(o, .inr (.inr (.inl (cJ, 1, .inr (.inl g)))))], zZ)]) [false, false, false, true, true, true, false] rfl (c_X4_thrown l D cI cZ cJ u a2 ta2 (zU κ 0 (0) (nI (1))) ρ υ n hI2) wq_yX4_thrown wm_L_72 ⟨wn_yX4_thrown, wo_yX4_thrown⟩ ⟨rfl, rfl, Nat.le_of_ble_eq_true rfl, Nat.le_of_ble_eq_true rfl⟩ 3 rfl 0 rfl rfl rfl rfl (Nat.le_of_ble_eq_true rfl) dL_law_757 ⟨(by show _ ≤ 1087; omega), (by show _ ≤ 9136; omega)⟩ rfl rfl ?_
    refine z_top (y := nI (1)) (zU_self _ _ _ _) ?_
    refine z_iload C dL_law_760 1 rfl ?_
    refine z_icmp_eqN C (tgt := 767) dL_law_762 (by decide) (by omega) (by omega) (fun c_762 => ?_) (fun c_762 => ?_)
    · refine z_iload C dL_law_767 1 rfl ?_
      refine z_if_neN C (tgt := 791) dL_law_769 (by decide) (by omega) (fun c_769 => ?_) (fun c_769 => ?_)
      · refine z_goto C (tgt := 1135) dL_law_791 (by decide) ?_
        refine z_sub (L' := [(4, .int (nI i)), (3, .ref o), (2, .ref u), (1, .ref t), (0, .ref b0)]) [2, 3, 4, 5, 6] rfl ?_
        exact kk _ _ n σ τ (zU κ 0 (0) (nI (1))) ρ υ g (by omega) (by omega) (hI) (hI2) (hS)
      · exact absurd c_769 (by omega)
    · exact absurd rfl c_762
  · rcases bx_cases n (by omega) (xs (i + 2)) with hx | ⟨k, hk, e2⟩
    · refine z_aload_n C dL_law_719 rfl 3 rfl ?_
      refine z_aload_n C dL_law_720 rfl 4 rfl ?_
      refine z_iload C dL_law_721 0 rfl ?_
      refine z_iconst C (v := nI (1)) (by decide) dL_law_723 ?_
      refine z_iaddN C dL_law_724 ?_
      refine z_sld C hX hbl hbA (by omega) (by omega) dL_law_725 ?_
      refine z_top (y := nI (b)) e1 ?_
      refine z_aload_n C dL_law_726 rfl 4 rfl ?_
      refine z_iload C dL_law_727 0 rfl ?_
      refine z_iconst C (v := nI (2)) (by decide) dL_law_729 ?_
      refine z_iaddN C dL_law_730 ?_
      refine z_sld C hX hbl hbA (by omega) (by omega) dL_law_731 ?_
      refine z_aload_n C dL_law_732 rfl 1 rfl ?_
      refine z_callSH C (n := 4) (st' := [.int (nI (1))]) (B' := [(shT t a ta, zZ), (shF a cI cZ, σ), (shF ta cI cZ, τ), (shM u a2 ta2, κ), (shS a2 cI, ρ), (shS ta2 cI, υ), ([(o, .inr (.inr (.inl (cJ, 1, .inr (.inl g)))))], zZ)]) [true, true, true, false, false, false, true] rfl (c_L_newer_b2 l hlt D cI cZ cJ t a ta o g σ τ n hI b (xs (i + 2)) hb hx) wk_yL_newer wi_L ⟨by decide, by decide, by decide +kernel⟩ wm_L_102 ws_yL_newer ⟨rfl, rfl, Nat.le_of_ble_eq_true rfl, Nat.le_of_ble_eq_true rfl⟩ rfl rfl (Nat.le_of_ble_eq_true rfl) dL_law_733 ⟨(by show _ ≤ 1087; omega), (by show _ ≤ 9136; omega)⟩ rfl rfl ?_
      refine z_istore C (L' := [(5, .int (nI (1))), (4, .int (nI (i))), (3, .ref (o)), (2, .ref (u)), (1, .ref (t)), (0, .ref (b0))]) dL_law_736 (by decide) rfl ?_
      refine z_aload_n C dL_law_738 rfl 3 rfl ?_
      refine z_aload_n C dL_law_739 rfl 5 rfl ?_
      refine z_iload C dL_law_740 1 rfl ?_
      refine z_iconst C (v := nI (1)) (by decide) dL_law_742 ?_
      refine z_iaddN C dL_law_743 ?_
      refine z_sld C hX hbl hbA (by omega) (by omega) dL_law_744 ?_
      refine z_top (y := nI (b)) e1 ?_
      refine z_aload_n C dL_law_745 rfl 5 rfl ?_
      refine z_iload C dL_law_746 1 rfl ?_
      refine z_iconst C (v := nI (2)) (by decide) dL_law_748 ?_
      refine z_iaddN C dL_law_749 ?_
      refine z_sld C hX hbl hbA (by omega) (by omega) dL_law_750 ?_
      refine z_cV C (st' := [.int (nI (0))]) (B' := [(shT t a ta, zZ), (shF a cI cZ, σ), (shF ta cI cZ, τ), (shM u a2 ta2, (zU κ 0 (0) (nI (1)))), (shS a2 cI, ρ), (shS ta2 cI, υ), ([(o, .inr (.inr (.inl (cJ, 1, .inr (.inl g)))))], zZ)]) [false, false, false, true, true, true, false] rfl (c_X4_newer_b2 l D cI cZ cJ u a2 ta2 κ ρ υ n hI2 b (xs (i + 2)) hb hx) wq_yX4_newer wm_L_104 ⟨wn_yX4_newer, wo_yX4_newer⟩ ⟨rfl, rfl, Nat.le_of_ble_eq_true rfl, Nat.le_of_ble_eq_true rfl⟩ 3 rfl 0 rfl rfl rfl rfl (Nat.le_of_ble_eq_true rfl) dL_law_751 ⟨(by show _ ≤ 1087; omega), (by show _ ≤ 9136; omega)⟩ rfl rfl ?_
      refine z_istore C (L' := [(6, .int (nI (0))), (5, .int (nI (1))), (4, .int (nI (i))), (3, .ref (o)), (2, .ref (u)), (1, .ref (t)), (0, .ref (b0))]) dL_law_754 (by decide) rfl ?_
      refine z_aload_n C dL_law_756 rfl 4 rfl ?_
      refine z_cV C (st' := [.int ((zU κ 0 (0) (nI (1))) 0 (0))]) (B' := [(shT t a ta, zZ), (shF a cI cZ, σ), (shF ta cI cZ, τ), (shM u a2 ta2, (zU κ 0 (0) (nI (1)))), (shS a2 cI, ρ), (shS ta2 cI, υ), ([(o, .inr (.inr (.inl (cJ, 1, .inr (.inl g)))))], zZ)]) [false, false, false, true, true, true, false] rfl (c_X4_thrown l D cI cZ cJ u a2 ta2 (zU κ 0 (0) (nI (1))) ρ υ n hI2) wq_yX4_thrown wm_L_72 ⟨wn_yX4_thrown, wo_yX4_thrown⟩ ⟨rfl, rfl, Nat.le_of_ble_eq_true rfl, Nat.le_of_ble_eq_true rfl⟩ 3 rfl 0 rfl rfl rfl rfl (Nat.le_of_ble_eq_true rfl) dL_law_757 ⟨(by show _ ≤ 1087; omega), (by show _ ≤ 9136; omega)⟩ rfl rfl ?_
      refine z_top (y := nI (1)) (zU_self _ _ _ _) ?_
      refine z_iload C dL_law_760 1 rfl ?_
      refine z_icmp_eqN C (tgt := 767) dL_law_762 (by decide) (by omega) (by omega) (fun c_762 => ?_) (fun c_762 => ?_)
      · refine z_iload C dL_law_767 1 rfl ?_
        refine z_if_neN C (tgt := 791) dL_law_769 (by decide) (by omega) (fun c_769 => ?_) (fun c_769 => ?_)
        · refine z_goto C (tgt := 1135) dL_law_791 (by decide) ?_
          refine z_sub (L' := [(4, .int (nI i)), (3, .ref o), (2, .ref u), (1, .ref t), (0, .ref b0)]) [2, 3, 4, 5, 6] rfl ?_
          exact kk _ _ n σ τ (zU κ 0 (0) (nI (1))) ρ υ g (by omega) (by omega) (hI) (hI2) (hS)
        · exact absurd c_769 (by omega)
      · exact absurd rfl c_762
    · refine z_aload_n C dL_law_719 rfl 3 rfl ?_
      refine z_aload_n C dL_law_720 rfl 4 rfl ?_
      refine z_iload C dL_law_721 0 rfl ?_
      refine z_iconst C (v := nI (1)) (by decide) dL_law_723 ?_
      refine z_iaddN C dL_law_724 ?_
      refine z_sld C hX hbl hbA (by omega) (by omega) dL_law_725 ?_
      refine z_top (y := nI (b)) e1 ?_
      refine z_aload_n C dL_law_726 rfl 4 rfl ?_
      refine z_iload C dL_law_727 0 rfl ?_
      refine z_iconst C (v := nI (2)) (by decide) dL_law_729 ?_
      refine z_iaddN C dL_law_730 ?_
      refine z_sld C hX hbl hbA (by omega) (by omega) dL_law_731 ?_
      refine z_top (y := nI (k)) e2 ?_
      refine z_aload_n C dL_law_732 rfl 1 rfl ?_
      refine z_callSH C (n := 4) (st' := [.int (nI (0))]) (B' := [(shT t a ta, zZ), (shF a cI cZ, σ), (shF ta cI cZ, τ), (shM u a2 ta2, κ), (shS a2 cI, ρ), (shS ta2 cI, υ), ([(o, .inr (.inr (.inl (cJ, 1, .inr (.inl (vp_updL g 0 (zl (fl_nw σ b k))))))))], zZ)]) [true, true, true, false, false, false, true] rfl (c_L_newer l hlt D cI cZ cJ t a ta o g σ τ n hI b k hb hk) wk_yL_newer wi_L ⟨by decide, by decide, by decide +kernel⟩ wm_L_102 ws_yL_newer ⟨rfl, rfl, Nat.le_of_ble_eq_true rfl, Nat.le_of_ble_eq_true rfl⟩ rfl rfl (Nat.le_of_ble_eq_true rfl) dL_law_733 ⟨(by show _ ≤ 1087; omega), (by show _ ≤ 9136; omega)⟩ rfl rfl ?_
      refine z_istore C (L' := [(5, .int (nI (0))), (4, .int (nI (i))), (3, .ref (o)), (2, .ref (u)), (1, .ref (t)), (0, .ref (b0))]) dL_law_736 (by decide) rfl ?_
      refine z_aload_n C dL_law_738 rfl 3 rfl ?_
      refine z_aload_n C dL_law_739 rfl 5 rfl ?_
      refine z_iload C dL_law_740 1 rfl ?_
      refine z_iconst C (v := nI (1)) (by decide) dL_law_742 ?_
      refine z_iaddN C dL_law_743 ?_
      refine z_sld C hX hbl hbA (by omega) (by omega) dL_law_744 ?_
      refine z_top (y := nI (b)) e1 ?_
      refine z_aload_n C dL_law_745 rfl 5 rfl ?_
      refine z_iload C dL_law_746 1 rfl ?_
      refine z_iconst C (v := nI (2)) (by decide) dL_law_748 ?_
      refine z_iaddN C dL_law_749 ?_
      refine z_sld C hX hbl hbA (by omega) (by omega) dL_law_750 ?_
      refine z_top (y := nI (k)) e2 ?_
      refine z_cV C (st' := [.int (zb (fl_nw ρ b k))]) (B' := [(shT t a ta, zZ), (shF a cI cZ, σ), (shF ta cI cZ, τ), (shM u a2 ta2, (zU κ 0 (0) (nI (0)))), (shS a2 cI, ρ), (shS ta2 cI, υ), ([(o, .inr (.inr (.inl (cJ, 1, .inr (.inl (vp_updL g 0 (zl (fl_nw σ b k))))))))], zZ)]) [false, false, false, true, true, true, false] rfl (c_X4_newer l D cI cZ cJ u a2 ta2 κ ρ υ n hI2 b k hb hk) wq_yX4_newer wm_L_104 ⟨wn_yX4_newer, wo_yX4_newer⟩ ⟨rfl, rfl, Nat.le_of_ble_eq_true rfl, Nat.le_of_ble_eq_true rfl⟩ 3 rfl 0 rfl rfl rfl rfl (Nat.le_of_ble_eq_true rfl) dL_law_751 ⟨(by show _ ≤ 1087; omega), (by show _ ≤ 9136; omega)⟩ rfl rfl ?_
      refine z_top (y := zb (fl_nw σ b k)) (congrArg zb (hR.nw hb hk).symm) ?_
      refine z_istore C (L' := [(6, .int (zb (fl_nw σ b k))), (5, .int (nI (0))), (4, .int (nI (i))), (3, .ref (o)), (2, .ref (u)), (1, .ref (t)), (0, .ref (b0))]) dL_law_754 (by decide) rfl ?_
      refine z_aload_n C dL_law_756 rfl 4 rfl ?_
      refine z_cV C (st' := [.int ((zU κ 0 (0) (nI (0))) 0 (0))]) (B' := [(shT t a ta, zZ), (shF a cI cZ, σ), (shF ta cI cZ, τ), (shM u a2 ta2, (zU κ 0 (0) (nI (0)))), (shS a2 cI, ρ), (shS ta2 cI, υ), ([(o, .inr (.inr (.inl (cJ, 1, .inr (.inl (vp_updL g 0 (zl (fl_nw σ b k))))))))], zZ)]) [false, false, false, true, true, true, false] rfl (c_X4_thrown l D cI cZ cJ u a2 ta2 (zU κ 0 (0) (nI (0))) ρ υ n hI2) wq_yX4_thrown wm_L_72 ⟨wn_yX4_thrown, wo_yX4_thrown⟩ ⟨rfl, rfl, Nat.le_of_ble_eq_true rfl, Nat.le_of_ble_eq_true rfl⟩ 3 rfl 0 rfl rfl rfl rfl (Nat.le_of_ble_eq_true rfl) dL_law_757 ⟨(by show _ ≤ 1087; omega), (by show _ ≤ 9136; omega)⟩ rfl rfl ?_
      refine z_top (y := nI (0)) (zU_self _ _ _ _) ?_
      refine z_iload C dL_law_760 1 rfl ?_
      refine z_icmp_eqN C (tgt := 767) dL_law_762 (by decide) (by omega) (by omega) (fun c_762 => ?_) (fun c_762 => ?_)
      · refine z_iload C dL_law_767 1 rfl ?_
        refine z_if_neN C (tgt := 791) dL_law_769 (by decide) (by omega) (fun c_769 => ?_) (fun c_769 => ?_)
        · exact absurd c_769 (by omega)
        · refine z_aload_n C dL_law_772 rfl 3 rfl ?_
          refine z_iconst C (v := nI (0)) (by decide) dL_law_773 ?_
          refine z_lald C 6 rfl 0 2 rfl rfl dL_law_774 (by decide) (by decide) ?_
          refine z_topV (y := .long (zl (fl_nw σ b k))) (congrArg Value.long (by simp [vp_updL])) ?_
          refine z_iload C dL_law_775 0 rfl ?_
          refine z_if_eqB C (tgt := 784) dL_law_777 (by decide) (fun c_777 => ?_) (fun c_777 => ?_)
          · refine z_lconst C (v := 0) (by decide) dL_law_784 ?_
            refine z_lcmp C dL_law_785 ?_
            refine z_if_eq C (tgt := 791) dL_law_786 (by decide) (fun c_786 => ?_) (fun c_786 => ?_)
            · refine z_goto C (tgt := 1135) dL_law_791 (by decide) ?_
              refine z_sub (L' := [(4, .int (nI i)), (3, .ref o), (2, .ref u), (1, .ref t), (0, .ref b0)]) [2, 3, 4, 5, 6] rfl ?_
              exact kk _ _ n σ τ (zU κ 0 (0) (nI (0))) ρ υ (vp_updL g 0 (zl (fl_nw σ b k))) (by omega) (by omega) (hI) (hI2) (hS)
            · exact absurd (by rw [c_777]; exact lg_cmp_self _) c_786
          · refine z_lconst C (v := 1) (by decide) dL_law_780 ?_
            refine z_goto C (tgt := 785) dL_law_781 (by decide) ?_
            refine z_lcmp C dL_law_785 ?_
            refine z_if_eq C (tgt := 791) dL_law_786 (by decide) (fun c_786 => ?_) (fun c_786 => ?_)
            · refine z_goto C (tgt := 1135) dL_law_791 (by decide) ?_
              refine z_sub (L' := [(4, .int (nI i)), (3, .ref o), (2, .ref u), (1, .ref t), (0, .ref b0)]) [2, 3, 4, 5, 6] rfl ?_
              exact kk _ _ n σ τ (zU κ 0 (0) (nI (0))) ρ υ (vp_updL g 0 (zl (fl_nw σ b k))) (by omega) (by omega) (hI) (hI2) (hS)
            · exact absurd (by rw [c_777]; exact lg_cmp_self _) c_786
      · exact absurd rfl c_762
set_option maxHeartbeats 4000000 in
set_option maxRecDepth 100000 in
theorem lw_op10 (C : zX p s m args meth c D (tyL cI cZ cJ) A RL cL_law 9) (hlt : l.stackTraces = false) (hX : va_X b0 L xs s s.heap) (hbl : b0 < s.heap.size) (hbA : ¬ A b0) (hL : L ≤ 2048) {cells slots i n : Nat} {σ τ κ ρ υ : zF} {g : Nat → Int64} (hi : i + 4 ≤ L) (hc : cells ≤ 600) (hs : slots ≤ 4000) (hI : fl_Iv n σ) (hI2 : fl_Iv n ρ) (hS : fl_S n σ ρ) (kk : lwG p l e s m args below meth c D A Q cI cZ cJ t u o b0 a ta a2 ta2 1135 i (cells + 1) (slots + 6)) : zK p l e room_1 s m args below meth c D A 9 Q cells slots 794 [(4, .int (nI i)), (3, .ref o), (2, .ref u), (1, .ref t), (0, .ref b0)] [] [(shT t a ta, zZ), (shF a cI cZ, σ), (shF ta cI cZ, τ), (shM u a2 ta2, κ), (shS a2 cI, ρ), (shS ta2 cI, υ), ([(o, .inr (.inr (.inl (cJ, 1, .inr (.inl g)))))], zZ)] := by
  have hn3 := hI.n3
  have hn7 := hI.n7
  have hR : fl_R n σ ρ := ⟨hI, hS⟩
  refine z_aload_n C dL_law_794 rfl 3 rfl ?_
  refine z_cV C (st' := [.int (fl_oI (fl_ldr σ n))]) (B' := [(shT t a ta, zZ), (shF a cI cZ, σ), (shF ta cI cZ, τ), (shM u a2 ta2, κ), (shS a2 cI, ρ), (shS ta2 cI, υ), ([(o, .inr (.inr (.inl (cJ, 1, .inr (.inl g)))))], zZ)]) [true, true, true, false, false, false, false] rfl (c_X2_leader l D cI cZ cJ t a ta σ τ n hI) wq_yX2_leader wm_L_105 ⟨wn_yX2_leader, wo_yX2_leader⟩ ⟨rfl, rfl, Nat.le_of_ble_eq_true rfl, Nat.le_of_ble_eq_true rfl⟩ 0 rfl 0 rfl rfl rfl rfl (Nat.le_of_ble_eq_true rfl) dL_law_795 ⟨(by show _ ≤ 1087; omega), (by show _ ≤ 9136; omega)⟩ rfl rfl ?_
  refine z_aload_n C dL_law_798 rfl 2 rfl ?_
  refine z_cV C (st' := [.int (fl_oI (fl_ldr ρ n)), .int (fl_oI (fl_ldr σ n))]) (B' := [(shT t a ta, zZ), (shF a cI cZ, σ), (shF ta cI cZ, τ), (shM u a2 ta2, (zU κ 0 (0) (nI (0)))), (shS a2 cI, ρ), (shS ta2 cI, υ), ([(o, .inr (.inr (.inl (cJ, 1, .inr (.inl g)))))], zZ)]) [false, false, false, true, true, true, false] rfl (c_X4_leader l D cI cZ cJ u a2 ta2 κ ρ υ n hI2  ) wq_yX4_leader wm_L_108 ⟨wn_yX4_leader, wo_yX4_leader⟩ ⟨rfl, rfl, Nat.le_of_ble_eq_true rfl, Nat.le_of_ble_eq_true rfl⟩ 3 rfl 0 rfl rfl rfl rfl (Nat.le_of_ble_eq_true rfl) dL_law_799 ⟨(by show _ ≤ 1087; omega), (by show _ ≤ 9136; omega)⟩ rfl rfl ?_
  refine z_top (y := fl_oI (fl_ldr σ n)) (by rw [hR.ldr n (Nat.le_refl n)]) ?_
  refine z_icmp_eq C (tgt := 1135) dL_law_802 (by decide) (fun c_802 => ?_) (fun c_802 => ?_)
  · refine z_sub (L' := [(4, .int (nI i)), (3, .ref o), (2, .ref u), (1, .ref t), (0, .ref b0)]) [0, 1, 2, 3, 4] rfl ?_
    exact kk _ _ n σ τ (zU κ 0 (0) (nI (0))) ρ υ g (by omega) (by omega) (hI) (hI2) (hS)
  · exact absurd rfl c_802
set_option maxHeartbeats 4000000 in
set_option maxRecDepth 100000 in
theorem lw_op11 (C : zX p s m args meth c D (tyL cI cZ cJ) A RL cL_law 9) (hlt : l.stackTraces = false) (hX : va_X b0 L xs s s.heap) (hbl : b0 < s.heap.size) (hbA : ¬ A b0) (hL : L ≤ 2048) {cells slots i n : Nat} {σ τ κ ρ υ : zF} {g : Nat → Int64} (hi : i + 4 ≤ L) (hc : cells ≤ 600) (hs : slots ≤ 4000) (hI : fl_Iv n σ) (hI2 : fl_Iv n ρ) (hS : fl_S n σ ρ) (kk : lwG p l e s m args below meth c D A Q cI cZ cJ t u o b0 a ta a2 ta2 1135 i (cells + 1) (slots + 6)) : zK p l e room_1 s m args below meth c D A 9 Q cells slots 807 [(4, .int (nI i)), (3, .ref o), (2, .ref u), (1, .ref t), (0, .ref b0)] [] [(shT t a ta, zZ), (shF a cI cZ, σ), (shF ta cI cZ, τ), (shM u a2 ta2, κ), (shS a2 cI, ρ), (shS ta2 cI, υ), ([(o, .inr (.inr (.inl (cJ, 1, .inr (.inl g)))))], zZ)] := by
  have hn3 := hI.n3
  have hn7 := hI.n7
  have hR : fl_R n σ ρ := ⟨hI, hS⟩
  rcases bx_cases 10 (by omega) (xs (i + 1)) with hx | ⟨w, hw, e1⟩
  · refine z_aload_n C dL_law_807 rfl 3 rfl ?_
    refine z_aload_n C dL_law_808 rfl 4 rfl ?_
    refine z_iload C dL_law_809 0 rfl ?_
    refine z_iconst C (v := nI (1)) (by decide) dL_law_811 ?_
    refine z_iaddN C dL_law_812 ?_
    refine z_sld C hX hbl hbA (by omega) (by omega) dL_law_813 ?_
    refine z_aload_n C dL_law_814 rfl 1 rfl ?_
    refine z_callSH C (n := 3) (st' := [.int (nI (1))]) (B' := [(shT t a ta, zZ), (shF a cI cZ, σ), (shF ta cI cZ, τ), (shM u a2 ta2, κ), (shS a2 cI, ρ), (shS ta2 cI, υ), ([(o, .inr (.inr (.inl (cJ, 1, .inr (.inl g)))))], zZ)]) [true, true, true, false, false, false, true] rfl (c_L_count_b1 l hlt D cI cZ cJ t a ta o g σ τ n hI (xs (i + 1)) hx) wk_yL_count wi_L ⟨by decide, by decide, by decide +kernel⟩ wm_L_109 ws_yL_count ⟨rfl, rfl, Nat.le_of_ble_eq_true rfl, Nat.le_of_ble_eq_true rfl⟩ rfl rfl (Nat.le_of_ble_eq_true rfl) dL_law_815 ⟨(by show _ ≤ 1087; omega), (by show _ ≤ 9136; omega)⟩ rfl rfl ?_
    refine z_istore C (L' := [(5, .int (nI (1))), (4, .int (nI (i))), (3, .ref (o)), (2, .ref (u)), (1, .ref (t)), (0, .ref (b0))]) dL_law_818 (by decide) rfl ?_
    refine z_aload_n C dL_law_820 rfl 3 rfl ?_
    refine z_aload_n C dL_law_821 rfl 5 rfl ?_
    refine z_iload C dL_law_822 1 rfl ?_
    refine z_iconst C (v := nI (1)) (by decide) dL_law_824 ?_
    refine z_iaddN C dL_law_825 ?_
    refine z_sld C hX hbl hbA (by omega) (by omega) dL_law_826 ?_
    refine z_cV C (st' := [.int (nI (0))]) (B' := [(shT t a ta, zZ), (shF a cI cZ, σ), (shF ta cI cZ, τ), (shM u a2 ta2, (zU κ 0 (0) (nI (1)))), (shS a2 cI, ρ), (shS ta2 cI, υ), ([(o, .inr (.inr (.inl (cJ, 1, .inr (.inl g)))))], zZ)]) [false, false, false, true, true, true, false] rfl (c_X4_count_b1 l D cI cZ cJ u a2 ta2 κ ρ υ n hI2 (xs (i + 1)) hx) wq_yX4_count wm_L_111 ⟨wn_yX4_count, wo_yX4_count⟩ ⟨rfl, rfl, Nat.le_of_ble_eq_true rfl, Nat.le_of_ble_eq_true rfl⟩ 3 rfl 0 rfl rfl rfl rfl (Nat.le_of_ble_eq_true rfl) dL_law_827 ⟨(by show _ ≤ 1087; omega), (by show _ ≤ 9136; omega)⟩ rfl rfl ?_
    refine z_istore C (L' := [(6, .int (nI (0))), (5, .int (nI (1))), (4, .int (nI (i))), (3, .ref (o)), (2, .ref (u)), (1, .ref (t)), (0, .ref (b0))]) dL_law_830 (by decide) rfl ?_
    refine z_aload_n C dL_law_832 rfl 4 rfl ?_
    refine z_cV C (st' := [.int ((zU κ 0 (0) (nI (1))) 0 (0))]) (B' := [(shT t a ta, zZ), (shF a cI cZ, σ), (shF ta cI cZ, τ), (shM u a2 ta2, (zU κ 0 (0) (nI (1)))), (shS a2 cI, ρ), (shS ta2 cI, υ), ([(o, .inr (.inr (.inl (cJ, 1, .inr (.inl g)))))], zZ)]) [false, false, false, true, true, true, false] rfl (c_X4_thrown l D cI cZ cJ u a2 ta2 (zU κ 0 (0) (nI (1))) ρ υ n hI2) wq_yX4_thrown wm_L_72 ⟨wn_yX4_thrown, wo_yX4_thrown⟩ ⟨rfl, rfl, Nat.le_of_ble_eq_true rfl, Nat.le_of_ble_eq_true rfl⟩ 3 rfl 0 rfl rfl rfl rfl (Nat.le_of_ble_eq_true rfl) dL_law_833 ⟨(by show _ ≤ 1087; omega), (by show _ ≤ 9136; omega)⟩ rfl rfl ?_
    refine z_top (y := nI (1)) (zU_self _ _ _ _) ?_
    refine z_iload C dL_law_836 1 rfl ?_
    refine z_icmp_eqN C (tgt := 843) dL_law_838 (by decide) (by omega) (by omega) (fun c_838 => ?_) (fun c_838 => ?_)
    · refine z_iload C dL_law_843 1 rfl ?_
      refine z_if_neN C (tgt := 860) dL_law_845 (by decide) (by omega) (fun c_845 => ?_) (fun c_845 => ?_)
      · refine z_goto C (tgt := 1135) dL_law_860 (by decide) ?_
        refine z_sub (L' := [(4, .int (nI i)), (3, .ref o), (2, .ref u), (1, .ref t), (0, .ref b0)]) [2, 3, 4, 5, 6] rfl ?_
        exact kk _ _ n σ τ (zU κ 0 (0) (nI (1))) ρ υ g (by omega) (by omega) (hI) (hI2) (hS)
      · exact absurd c_845 (by omega)
    · exact absurd rfl c_838
  · refine z_aload_n C dL_law_807 rfl 3 rfl ?_
    refine z_aload_n C dL_law_808 rfl 4 rfl ?_
    refine z_iload C dL_law_809 0 rfl ?_
    refine z_iconst C (v := nI (1)) (by decide) dL_law_811 ?_
    refine z_iaddN C dL_law_812 ?_
    refine z_sld C hX hbl hbA (by omega) (by omega) dL_law_813 ?_
    refine z_top (y := nI (w)) e1 ?_
    refine z_aload_n C dL_law_814 rfl 1 rfl ?_
    refine z_callSH C (n := 3) (st' := [.int (nI (0))]) (B' := [(shT t a ta, zZ), (shF a cI cZ, σ), (shF ta cI cZ, τ), (shM u a2 ta2, κ), (shS a2 cI, ρ), (shS ta2 cI, υ), ([(o, .inr (.inr (.inl (cJ, 1, .inr (.inl (vp_updL g 0 ((fl_ofF n σ w).toInt64)))))))], zZ)]) [true, true, true, false, false, false, true] rfl (c_L_count l hlt D cI cZ cJ t a ta o g σ τ n hI w hw) wk_yL_count wi_L ⟨by decide, by decide, by decide +kernel⟩ wm_L_109 ws_yL_count ⟨rfl, rfl, Nat.le_of_ble_eq_true rfl, Nat.le_of_ble_eq_true rfl⟩ rfl rfl (Nat.le_of_ble_eq_true rfl) dL_law_815 ⟨(by show _ ≤ 1087; omega), (by show _ ≤ 9136; omega)⟩ rfl rfl ?_
    refine z_istore C (L' := [(5, .int (nI (0))), (4, .int (nI (i))), (3, .ref (o)), (2, .ref (u)), (1, .ref (t)), (0, .ref (b0))]) dL_law_818 (by decide) rfl ?_
    refine z_aload_n C dL_law_820 rfl 3 rfl ?_
    refine z_aload_n C dL_law_821 rfl 5 rfl ?_
    refine z_iload C dL_law_822 1 rfl ?_
    refine z_iconst C (v := nI (1)) (by decide) dL_law_824 ?_
    refine z_iaddN C dL_law_825 ?_
    refine z_sld C hX hbl hbA (by omega) (by omega) dL_law_826 ?_
    refine z_top (y := nI (w)) e1 ?_
    refine z_cV C (st' := [.int (fl_ofF n ρ w)]) (B' := [(shT t a ta, zZ), (shF a cI cZ, σ), (shF ta cI cZ, τ), (shM u a2 ta2, (zU κ 0 (0) (nI (0)))), (shS a2 cI, ρ), (shS ta2 cI, υ), ([(o, .inr (.inr (.inl (cJ, 1, .inr (.inl (vp_updL g 0 ((fl_ofF n σ w).toInt64)))))))], zZ)]) [false, false, false, true, true, true, false] rfl (c_X4_count l D cI cZ cJ u a2 ta2 κ ρ υ n hI2 w hw) wq_yX4_count wm_L_111 ⟨wn_yX4_count, wo_yX4_count⟩ ⟨rfl, rfl, Nat.le_of_ble_eq_true rfl, Nat.le_of_ble_eq_true rfl⟩ 3 rfl 0 rfl rfl rfl rfl (Nat.le_of_ble_eq_true rfl) dL_law_827 ⟨(by show _ ≤ 1087; omega), (by show _ ≤ 9136; omega)⟩ rfl rfl ?_
    refine z_top (y := fl_ofF n σ w) ((hR.ofF w).symm) ?_
    refine z_istore C (L' := [(6, .int (fl_ofF n σ w)), (5, .int (nI (0))), (4, .int (nI (i))), (3, .ref (o)), (2, .ref (u)), (1, .ref (t)), (0, .ref (b0))]) dL_law_830 (by decide) rfl ?_
    refine z_aload_n C dL_law_832 rfl 4 rfl ?_
    refine z_cV C (st' := [.int ((zU κ 0 (0) (nI (0))) 0 (0))]) (B' := [(shT t a ta, zZ), (shF a cI cZ, σ), (shF ta cI cZ, τ), (shM u a2 ta2, (zU κ 0 (0) (nI (0)))), (shS a2 cI, ρ), (shS ta2 cI, υ), ([(o, .inr (.inr (.inl (cJ, 1, .inr (.inl (vp_updL g 0 ((fl_ofF n σ w).toInt64)))))))], zZ)]) [false, false, false, true, true, true, false] rfl (c_X4_thrown l D cI cZ cJ u a2 ta2 (zU κ 0 (0) (nI (0))) ρ υ n hI2) wq_yX4_thrown wm_L_72 ⟨wn_yX4_thrown, wo_yX4_thrown⟩ ⟨rfl, rfl, Nat.le_of_ble_eq_true rfl, Nat.le_of_ble_eq_true rfl⟩ 3 rfl 0 rfl rfl rfl rfl (Nat.le_of_ble_eq_true rfl) dL_law_833 ⟨(by show _ ≤ 1087; omega), (by show _ ≤ 9136; omega)⟩ rfl rfl ?_
    refine z_top (y := nI (0)) (zU_self _ _ _ _) ?_
    refine z_iload C dL_law_836 1 rfl ?_
    refine z_icmp_eqN C (tgt := 843) dL_law_838 (by decide) (by omega) (by omega) (fun c_838 => ?_) (fun c_838 => ?_)
    · refine z_iload C dL_law_843 1 rfl ?_
      refine z_if_neN C (tgt := 860) dL_law_845 (by decide) (by omega) (fun c_845 => ?_) (fun c_845 => ?_)
      · exact absurd c_845 (by omega)
      · refine z_aload_n C dL_law_848 rfl 3 rfl ?_
        refine z_iconst C (v := nI (0)) (by decide) dL_law_849 ?_
        refine z_lald C 6 rfl 0 2 rfl rfl dL_law_850 (by decide) (by decide) ?_
        refine z_topV (y := .long ((fl_ofF n σ w).toInt64)) (congrArg Value.long (by simp [vp_updL])) ?_
        refine z_iload C dL_law_851 0 rfl ?_
        refine z_i2l C (v := (fl_ofF n σ w).toInt64) rfl dL_law_853 ?_
        refine z_lcmp C dL_law_854 ?_
        refine z_if_eq C (tgt := 860) dL_law_855 (by decide) (fun c_855 => ?_) (fun c_855 => ?_)
        · refine z_goto C (tgt := 1135) dL_law_860 (by decide) ?_
          refine z_sub (L' := [(4, .int (nI i)), (3, .ref o), (2, .ref u), (1, .ref t), (0, .ref b0)]) [2, 3, 4, 5, 6] rfl ?_
          exact kk _ _ n σ τ (zU κ 0 (0) (nI (0))) ρ υ (vp_updL g 0 ((fl_ofF n σ w).toInt64)) (by omega) (by omega) (hI) (hI2) (hS)
        · exact absurd (lg_cmp_self _) c_855
    · exact absurd rfl c_838
set_option maxHeartbeats 4000000 in
set_option maxRecDepth 100000 in
theorem lw_op12 (C : zX p s m args meth c D (tyL cI cZ cJ) A RL cL_law 9) (hlt : l.stackTraces = false) (hX : va_X b0 L xs s s.heap) (hbl : b0 < s.heap.size) (hbA : ¬ A b0) (hL : L ≤ 2048) {cells slots i n : Nat} {σ τ κ ρ υ : zF} {g : Nat → Int64} (hi : i + 4 ≤ L) (hc : cells ≤ 600) (hs : slots ≤ 4000) (hI : fl_Iv n σ) (hI2 : fl_Iv n ρ) (hS : fl_S n σ ρ) (kk : lwG p l e s m args below meth c D A Q cI cZ cJ t u o b0 a ta a2 ta2 1135 i (cells + 1) (slots + 6)) : zK p l e room_1 s m args below meth c D A 9 Q cells slots 863 [(4, .int (nI i)), (3, .ref o), (2, .ref u), (1, .ref t), (0, .ref b0)] [] [(shT t a ta, zZ), (shF a cI cZ, σ), (shF ta cI cZ, τ), (shM u a2 ta2, κ), (shS a2 cI, ρ), (shS ta2 cI, υ), ([(o, .inr (.inr (.inl (cJ, 1, .inr (.inl g)))))], zZ)] := by
  have hn3 := hI.n3
  have hn7 := hI.n7
  have hR : fl_R n σ ρ := ⟨hI, hS⟩
  rcases bx_cases 3 (by omega) (xs (i + 1)) with hx | ⟨h, hh, e1⟩
  · refine z_aload_n C dL_law_863 rfl 3 rfl ?_
    refine z_aload_n C dL_law_864 rfl 4 rfl ?_
    refine z_iload C dL_law_865 0 rfl ?_
    refine z_iconst C (v := nI (1)) (by decide) dL_law_867 ?_
    refine z_iaddN C dL_law_868 ?_
    refine z_sld C hX hbl hbA (by omega) (by omega) dL_law_869 ?_
    refine z_aload_n C dL_law_870 rfl 4 rfl ?_
    refine z_iload C dL_law_871 0 rfl ?_
    refine z_iconst C (v := nI (2)) (by decide) dL_law_873 ?_
    refine z_iaddN C dL_law_874 ?_
    refine z_sld C hX hbl hbA (by omega) (by omega) dL_law_875 ?_
    refine z_aload_n C dL_law_876 rfl 1 rfl ?_
    refine z_callSH C (n := 4) (st' := [.int (nI (1))]) (B' := [(shT t a ta, zZ), (shF a cI cZ, σ), (shF ta cI cZ, τ), (shM u a2 ta2, κ), (shS a2 cI, ρ), (shS ta2 cI, υ), ([(o, .inr (.inr (.inl (cJ, 1, .inr (.inl g)))))], zZ)]) [true, true, true, false, false, false, true] rfl (c_L_harbour_b1 l hlt D cI cZ cJ t a ta o g σ τ n hI (xs (i + 1)) (xs (i + 2)) hx) wk_yL_harbour wi_L ⟨by decide, by decide, by decide +kernel⟩ wm_L_112 ws_yL_harbour ⟨rfl, rfl, Nat.le_of_ble_eq_true rfl, Nat.le_of_ble_eq_true rfl⟩ rfl rfl (Nat.le_of_ble_eq_true rfl) dL_law_877 ⟨(by show _ ≤ 1087; omega), (by show _ ≤ 9136; omega)⟩ rfl rfl ?_
    refine z_istore C (L' := [(5, .int (nI (1))), (4, .int (nI (i))), (3, .ref (o)), (2, .ref (u)), (1, .ref (t)), (0, .ref (b0))]) dL_law_880 (by decide) rfl ?_
    refine z_aload_n C dL_law_882 rfl 3 rfl ?_
    refine z_aload_n C dL_law_883 rfl 5 rfl ?_
    refine z_iload C dL_law_884 1 rfl ?_
    refine z_iconst C (v := nI (1)) (by decide) dL_law_886 ?_
    refine z_iaddN C dL_law_887 ?_
    refine z_sld C hX hbl hbA (by omega) (by omega) dL_law_888 ?_
    refine z_aload_n C dL_law_889 rfl 5 rfl ?_
    refine z_iload C dL_law_890 1 rfl ?_
    refine z_iconst C (v := nI (2)) (by decide) dL_law_892 ?_
    refine z_iaddN C dL_law_893 ?_
    refine z_sld C hX hbl hbA (by omega) (by omega) dL_law_894 ?_
    refine z_cV C (st' := [.int (nI (0))]) (B' := [(shT t a ta, zZ), (shF a cI cZ, σ), (shF ta cI cZ, τ), (shM u a2 ta2, (zU κ 0 (0) (nI (1)))), (shS a2 cI, ρ), (shS ta2 cI, υ), ([(o, .inr (.inr (.inl (cJ, 1, .inr (.inl g)))))], zZ)]) [false, false, false, true, true, true, false] rfl (c_X4_harbour_b1 l D cI cZ cJ u a2 ta2 κ ρ υ n hI2 (xs (i + 1)) (xs (i + 2)) hx) wq_yX4_harbour wm_L_114 ⟨wn_yX4_harbour, wo_yX4_harbour⟩ ⟨rfl, rfl, Nat.le_of_ble_eq_true rfl, Nat.le_of_ble_eq_true rfl⟩ 3 rfl 0 rfl rfl rfl rfl (Nat.le_of_ble_eq_true rfl) dL_law_895 ⟨(by show _ ≤ 1087; omega), (by show _ ≤ 9136; omega)⟩ rfl rfl ?_
    refine z_istore C (L' := [(6, .int (nI (0))), (5, .int (nI (1))), (4, .int (nI (i))), (3, .ref (o)), (2, .ref (u)), (1, .ref (t)), (0, .ref (b0))]) dL_law_898 (by decide) rfl ?_
    refine z_aload_n C dL_law_900 rfl 4 rfl ?_
    refine z_cV C (st' := [.int ((zU κ 0 (0) (nI (1))) 0 (0))]) (B' := [(shT t a ta, zZ), (shF a cI cZ, σ), (shF ta cI cZ, τ), (shM u a2 ta2, (zU κ 0 (0) (nI (1)))), (shS a2 cI, ρ), (shS ta2 cI, υ), ([(o, .inr (.inr (.inl (cJ, 1, .inr (.inl g)))))], zZ)]) [false, false, false, true, true, true, false] rfl (c_X4_thrown l D cI cZ cJ u a2 ta2 (zU κ 0 (0) (nI (1))) ρ υ n hI2) wq_yX4_thrown wm_L_72 ⟨wn_yX4_thrown, wo_yX4_thrown⟩ ⟨rfl, rfl, Nat.le_of_ble_eq_true rfl, Nat.le_of_ble_eq_true rfl⟩ 3 rfl 0 rfl rfl rfl rfl (Nat.le_of_ble_eq_true rfl) dL_law_901 ⟨(by show _ ≤ 1087; omega), (by show _ ≤ 9136; omega)⟩ rfl rfl ?_
    refine z_top (y := nI (1)) (zU_self _ _ _ _) ?_
    refine z_iload C dL_law_904 1 rfl ?_
    refine z_icmp_eqN C (tgt := 911) dL_law_906 (by decide) (by omega) (by omega) (fun c_906 => ?_) (fun c_906 => ?_)
    · refine z_iload C dL_law_911 1 rfl ?_
      refine z_if_neN C (tgt := 928) dL_law_913 (by decide) (by omega) (fun c_913 => ?_) (fun c_913 => ?_)
      · refine z_goto C (tgt := 1135) dL_law_928 (by decide) ?_
        refine z_sub (L' := [(4, .int (nI i)), (3, .ref o), (2, .ref u), (1, .ref t), (0, .ref b0)]) [2, 3, 4, 5, 6] rfl ?_
        exact kk _ _ n σ τ (zU κ 0 (0) (nI (1))) ρ υ g (by omega) (by omega) (hI) (hI2) (hS)
      · exact absurd c_913 (by omega)
    · exact absurd rfl c_906
  · rcases bx_cases 3 (by omega) (xs (i + 2)) with hx | ⟨w, hw, e2⟩
    · refine z_aload_n C dL_law_863 rfl 3 rfl ?_
      refine z_aload_n C dL_law_864 rfl 4 rfl ?_
      refine z_iload C dL_law_865 0 rfl ?_
      refine z_iconst C (v := nI (1)) (by decide) dL_law_867 ?_
      refine z_iaddN C dL_law_868 ?_
      refine z_sld C hX hbl hbA (by omega) (by omega) dL_law_869 ?_
      refine z_top (y := nI (h)) e1 ?_
      refine z_aload_n C dL_law_870 rfl 4 rfl ?_
      refine z_iload C dL_law_871 0 rfl ?_
      refine z_iconst C (v := nI (2)) (by decide) dL_law_873 ?_
      refine z_iaddN C dL_law_874 ?_
      refine z_sld C hX hbl hbA (by omega) (by omega) dL_law_875 ?_
      refine z_aload_n C dL_law_876 rfl 1 rfl ?_
      refine z_callSH C (n := 4) (st' := [.int (nI (1))]) (B' := [(shT t a ta, zZ), (shF a cI cZ, σ), (shF ta cI cZ, τ), (shM u a2 ta2, κ), (shS a2 cI, ρ), (shS ta2 cI, υ), ([(o, .inr (.inr (.inl (cJ, 1, .inr (.inl g)))))], zZ)]) [true, true, true, false, false, false, true] rfl (c_L_harbour_b2 l hlt D cI cZ cJ t a ta o g σ τ n hI h (xs (i + 2)) hh hx) wk_yL_harbour wi_L ⟨by decide, by decide, by decide +kernel⟩ wm_L_112 ws_yL_harbour ⟨rfl, rfl, Nat.le_of_ble_eq_true rfl, Nat.le_of_ble_eq_true rfl⟩ rfl rfl (Nat.le_of_ble_eq_true rfl) dL_law_877 ⟨(by show _ ≤ 1087; omega), (by show _ ≤ 9136; omega)⟩ rfl rfl ?_
      refine z_istore C (L' := [(5, .int (nI (1))), (4, .int (nI (i))), (3, .ref (o)), (2, .ref (u)), (1, .ref (t)), (0, .ref (b0))]) dL_law_880 (by decide) rfl ?_
      refine z_aload_n C dL_law_882 rfl 3 rfl ?_
      refine z_aload_n C dL_law_883 rfl 5 rfl ?_
      refine z_iload C dL_law_884 1 rfl ?_
      refine z_iconst C (v := nI (1)) (by decide) dL_law_886 ?_
      refine z_iaddN C dL_law_887 ?_
      refine z_sld C hX hbl hbA (by omega) (by omega) dL_law_888 ?_
      refine z_top (y := nI (h)) e1 ?_
      refine z_aload_n C dL_law_889 rfl 5 rfl ?_
      refine z_iload C dL_law_890 1 rfl ?_
      refine z_iconst C (v := nI (2)) (by decide) dL_law_892 ?_
      refine z_iaddN C dL_law_893 ?_
      refine z_sld C hX hbl hbA (by omega) (by omega) dL_law_894 ?_
      refine z_cV C (st' := [.int (nI (0))]) (B' := [(shT t a ta, zZ), (shF a cI cZ, σ), (shF ta cI cZ, τ), (shM u a2 ta2, (zU κ 0 (0) (nI (1)))), (shS a2 cI, ρ), (shS ta2 cI, υ), ([(o, .inr (.inr (.inl (cJ, 1, .inr (.inl g)))))], zZ)]) [false, false, false, true, true, true, false] rfl (c_X4_harbour_b2 l D cI cZ cJ u a2 ta2 κ ρ υ n hI2 h (xs (i + 2)) hh hx) wq_yX4_harbour wm_L_114 ⟨wn_yX4_harbour, wo_yX4_harbour⟩ ⟨rfl, rfl, Nat.le_of_ble_eq_true rfl, Nat.le_of_ble_eq_true rfl⟩ 3 rfl 0 rfl rfl rfl rfl (Nat.le_of_ble_eq_true rfl) dL_law_895 ⟨(by show _ ≤ 1087; omega), (by show _ ≤ 9136; omega)⟩ rfl rfl ?_
      refine z_istore C (L' := [(6, .int (nI (0))), (5, .int (nI (1))), (4, .int (nI (i))), (3, .ref (o)), (2, .ref (u)), (1, .ref (t)), (0, .ref (b0))]) dL_law_898 (by decide) rfl ?_
      refine z_aload_n C dL_law_900 rfl 4 rfl ?_
      refine z_cV C (st' := [.int ((zU κ 0 (0) (nI (1))) 0 (0))]) (B' := [(shT t a ta, zZ), (shF a cI cZ, σ), (shF ta cI cZ, τ), (shM u a2 ta2, (zU κ 0 (0) (nI (1)))), (shS a2 cI, ρ), (shS ta2 cI, υ), ([(o, .inr (.inr (.inl (cJ, 1, .inr (.inl g)))))], zZ)]) [false, false, false, true, true, true, false] rfl (c_X4_thrown l D cI cZ cJ u a2 ta2 (zU κ 0 (0) (nI (1))) ρ υ n hI2) wq_yX4_thrown wm_L_72 ⟨wn_yX4_thrown, wo_yX4_thrown⟩ ⟨rfl, rfl, Nat.le_of_ble_eq_true rfl, Nat.le_of_ble_eq_true rfl⟩ 3 rfl 0 rfl rfl rfl rfl (Nat.le_of_ble_eq_true rfl) dL_law_901 ⟨(by show _ ≤ 1087; omega), (by show _ ≤ 9136; omega)⟩ rfl rfl ?_
      refine z_top (y := nI (1)) (zU_self _ _ _ _) ?_
      refine z_iload C dL_law_904 1 rfl ?_
      refine z_icmp_eqN C (tgt := 911) dL_law_906 (by decide) (by omega) (by omega) (fun c_906 => ?_) (fun c_906 => ?_)
      · refine z_iload C dL_law_911 1 rfl ?_
        refine z_if_neN C (tgt := 928) dL_law_913 (by decide) (by omega) (fun c_913 => ?_) (fun c_913 => ?_)
        · refine z_goto C (tgt := 1135) dL_law_928 (by decide) ?_
          refine z_sub (L' := [(4, .int (nI i)), (3, .ref o), (2, .ref u), (1, .ref t), (0, .ref b0)]) [2, 3, 4, 5, 6] rfl ?_
          exact kk _ _ n σ τ (zU κ 0 (0) (nI (1))) ρ υ g (by omega) (by omega) (hI) (hI2) (hS)
        · exact absurd c_913 (by omega)
      · exact absurd rfl c_906
    · refine z_aload_n C dL_law_863 rfl 3 rfl ?_
      refine z_aload_n C dL_law_864 rfl 4 rfl ?_
      refine z_iload C dL_law_865 0 rfl ?_
      refine z_iconst C (v := nI (1)) (by decide) dL_law_867 ?_
      refine z_iaddN C dL_law_868 ?_
      refine z_sld C hX hbl hbA (by omega) (by omega) dL_law_869 ?_
      refine z_top (y := nI (h)) e1 ?_
      refine z_aload_n C dL_law_870 rfl 4 rfl ?_
      refine z_iload C dL_law_871 0 rfl ?_
      refine z_iconst C (v := nI (2)) (by decide) dL_law_873 ?_
      refine z_iaddN C dL_law_874 ?_
      refine z_sld C hX hbl hbA (by omega) (by omega) dL_law_875 ?_
      refine z_top (y := nI (w)) e2 ?_
      refine z_aload_n C dL_law_876 rfl 1 rfl ?_
      refine z_callSH C (n := 4) (st' := [.int (nI (0))]) (B' := [(shT t a ta, zZ), (shF a cI cZ, σ), (shF ta cI cZ, τ), (shM u a2 ta2, κ), (shS a2 cI, ρ), (shS ta2 cI, υ), ([(o, .inr (.inr (.inl (cJ, 1, .inr (.inl (vp_updL g 0 ((if w = 2 then fl_oI (fl_nwst σ (nI h) n) else if w = 1 then zb (decide (n / 2 < fl_upIn n σ (nI h))) else nI (fl_upIn n σ (nI h))).toInt64)))))))], zZ)]) [true, true, true, false, false, false, true] rfl (c_L_harbour l hlt D cI cZ cJ t a ta o g σ τ n hI h w hh hw) wk_yL_harbour wi_L ⟨by decide, by decide, by decide +kernel⟩ wm_L_112 ws_yL_harbour ⟨rfl, rfl, Nat.le_of_ble_eq_true rfl, Nat.le_of_ble_eq_true rfl⟩ rfl rfl (Nat.le_of_ble_eq_true rfl) dL_law_877 ⟨(by show _ ≤ 1087; omega), (by show _ ≤ 9136; omega)⟩ rfl rfl ?_
      refine z_istore C (L' := [(5, .int (nI (0))), (4, .int (nI (i))), (3, .ref (o)), (2, .ref (u)), (1, .ref (t)), (0, .ref (b0))]) dL_law_880 (by decide) rfl ?_
      refine z_aload_n C dL_law_882 rfl 3 rfl ?_
      refine z_aload_n C dL_law_883 rfl 5 rfl ?_
      refine z_iload C dL_law_884 1 rfl ?_
      refine z_iconst C (v := nI (1)) (by decide) dL_law_886 ?_
      refine z_iaddN C dL_law_887 ?_
      refine z_sld C hX hbl hbA (by omega) (by omega) dL_law_888 ?_
      refine z_top (y := nI (h)) e1 ?_
      refine z_aload_n C dL_law_889 rfl 5 rfl ?_
      refine z_iload C dL_law_890 1 rfl ?_
      refine z_iconst C (v := nI (2)) (by decide) dL_law_892 ?_
      refine z_iaddN C dL_law_893 ?_
      refine z_sld C hX hbl hbA (by omega) (by omega) dL_law_894 ?_
      refine z_top (y := nI (w)) e2 ?_
      refine z_cV C (st' := [.int ((if w = 2 then fl_oI (fl_nwst ρ (nI h) n) else if w = 1 then zb (decide (n / 2 < fl_upIn n ρ (nI h))) else nI (fl_upIn n ρ (nI h))))]) (B' := [(shT t a ta, zZ), (shF a cI cZ, σ), (shF ta cI cZ, τ), (shM u a2 ta2, (zU κ 0 (0) (nI (0)))), (shS a2 cI, ρ), (shS ta2 cI, υ), ([(o, .inr (.inr (.inl (cJ, 1, .inr (.inl (vp_updL g 0 ((if w = 2 then fl_oI (fl_nwst σ (nI h) n) else if w = 1 then zb (decide (n / 2 < fl_upIn n σ (nI h))) else nI (fl_upIn n σ (nI h))).toInt64)))))))], zZ)]) [false, false, false, true, true, true, false] rfl (c_X4_harbour l D cI cZ cJ u a2 ta2 κ ρ υ n hI2 h w hh hw) wq_yX4_harbour wm_L_114 ⟨wn_yX4_harbour, wo_yX4_harbour⟩ ⟨rfl, rfl, Nat.le_of_ble_eq_true rfl, Nat.le_of_ble_eq_true rfl⟩ 3 rfl 0 rfl rfl rfl rfl (Nat.le_of_ble_eq_true rfl) dL_law_895 ⟨(by show _ ≤ 1087; omega), (by show _ ≤ 9136; omega)⟩ rfl rfl ?_
      refine z_top (y := (if w = 2 then fl_oI (fl_nwst σ (nI h) n) else if w = 1 then zb (decide (n / 2 < fl_upIn n σ (nI h))) else nI (fl_upIn n σ (nI h)))) (by rw [hR.nwst (nI h) n (Nat.le_refl n), hR.upIn]) ?_
      refine z_istore C (L' := [(6, .int ((if w = 2 then fl_oI (fl_nwst σ (nI h) n) else if w = 1 then zb (decide (n / 2 < fl_upIn n σ (nI h))) else nI (fl_upIn n σ (nI h))))), (5, .int (nI (0))), (4, .int (nI (i))), (3, .ref (o)), (2, .ref (u)), (1, .ref (t)), (0, .ref (b0))]) dL_law_898 (by decide) rfl ?_
      refine z_aload_n C dL_law_900 rfl 4 rfl ?_
      refine z_cV C (st' := [.int ((zU κ 0 (0) (nI (0))) 0 (0))]) (B' := [(shT t a ta, zZ), (shF a cI cZ, σ), (shF ta cI cZ, τ), (shM u a2 ta2, (zU κ 0 (0) (nI (0)))), (shS a2 cI, ρ), (shS ta2 cI, υ), ([(o, .inr (.inr (.inl (cJ, 1, .inr (.inl (vp_updL g 0 ((if w = 2 then fl_oI (fl_nwst σ (nI h) n) else if w = 1 then zb (decide (n / 2 < fl_upIn n σ (nI h))) else nI (fl_upIn n σ (nI h))).toInt64)))))))], zZ)]) [false, false, false, true, true, true, false] rfl (c_X4_thrown l D cI cZ cJ u a2 ta2 (zU κ 0 (0) (nI (0))) ρ υ n hI2) wq_yX4_thrown wm_L_72 ⟨wn_yX4_thrown, wo_yX4_thrown⟩ ⟨rfl, rfl, Nat.le_of_ble_eq_true rfl, Nat.le_of_ble_eq_true rfl⟩ 3 rfl 0 rfl rfl rfl rfl (Nat.le_of_ble_eq_true rfl) dL_law_901 ⟨(by show _ ≤ 1087; omega), (by show _ ≤ 9136; omega)⟩ rfl rfl ?_
      refine z_top (y := nI (0)) (zU_self _ _ _ _) ?_
      refine z_iload C dL_law_904 1 rfl ?_
      refine z_icmp_eqN C (tgt := 911) dL_law_906 (by decide) (by omega) (by omega) (fun c_906 => ?_) (fun c_906 => ?_)
      · refine z_iload C dL_law_911 1 rfl ?_
        refine z_if_neN C (tgt := 928) dL_law_913 (by decide) (by omega) (fun c_913 => ?_) (fun c_913 => ?_)
        · exact absurd c_913 (by omega)
        · refine z_aload_n C dL_law_916 rfl 3 rfl ?_
          refine z_iconst C (v := nI (0)) (by decide) dL_law_917 ?_
          refine z_lald C 6 rfl 0 2 rfl rfl dL_law_918 (by decide) (by decide) ?_
          refine z_topV (y := .long ((if w = 2 then fl_oI (fl_nwst σ (nI h) n) else if w = 1 then zb (decide (n / 2 < fl_upIn n σ (nI h))) else nI (fl_upIn n σ (nI h))).toInt64)) (congrArg Value.long (by simp [vp_updL])) ?_
          refine z_iload C dL_law_919 0 rfl ?_
          refine z_i2l C (v := ((if w = 2 then fl_oI (fl_nwst σ (nI h) n) else if w = 1 then zb (decide (n / 2 < fl_upIn n σ (nI h))) else nI (fl_upIn n σ (nI h)))).toInt64) rfl dL_law_921 ?_
          refine z_lcmp C dL_law_922 ?_
          refine z_if_eq C (tgt := 928) dL_law_923 (by decide) (fun c_923 => ?_) (fun c_923 => ?_)
          · refine z_goto C (tgt := 1135) dL_law_928 (by decide) ?_
            refine z_sub (L' := [(4, .int (nI i)), (3, .ref o), (2, .ref u), (1, .ref t), (0, .ref b0)]) [2, 3, 4, 5, 6] rfl ?_
            exact kk _ _ n σ τ (zU κ 0 (0) (nI (0))) ρ υ (vp_updL g 0 ((if w = 2 then fl_oI (fl_nwst σ (nI h) n) else if w = 1 then zb (decide (n / 2 < fl_upIn n σ (nI h))) else nI (fl_upIn n σ (nI h))).toInt64)) (by omega) (by omega) (hI) (hI2) (hS)
          · exact absurd (lg_cmp_self _) c_923
      · exact absurd rfl c_906
set_option maxHeartbeats 4000000 in
set_option maxRecDepth 100000 in
theorem lw_op13 (C : zX p s m args meth c D (tyL cI cZ cJ) A RL cL_law 9) (hlt : l.stackTraces = false) (hX : va_X b0 L xs s s.heap) (hbl : b0 < s.heap.size) (hbA : ¬ A b0) (hL : L ≤ 2048) {cells slots i n : Nat} {σ τ κ ρ υ : zF} {g : Nat → Int64} (hi : i + 4 ≤ L) (hc : cells ≤ 600) (hs : slots ≤ 4000) (hI : fl_Iv n σ) (hI2 : fl_Iv n ρ) (hS : fl_S n σ ρ) (kk : lwG p l e s m args below meth c D A Q cI cZ cJ t u o b0 a ta a2 ta2 1135 i (cells + 1) (slots + 6)) : zK p l e room_1 s m args below meth c D A 9 Q cells slots 931 [(4, .int (nI i)), (3, .ref o), (2, .ref u), (1, .ref t), (0, .ref b0)] [] [(shT t a ta, zZ), (shF a cI cZ, σ), (shF ta cI cZ, τ), (shM u a2 ta2, κ), (shS a2 cI, ρ), (shS ta2 cI, υ), ([(o, .inr (.inr (.inl (cJ, 1, .inr (.inl g)))))], zZ)] := by
  have hn3 := hI.n3
  have hn7 := hI.n7
  have hR : fl_R n σ ρ := ⟨hI, hS⟩
  refine z_aload_n C dL_law_931 rfl 3 rfl ?_
  refine z_cV C (st' := [.int ((fl_unt n 0 (fl_cpy σ τ)).1)]) (B' := [(shT t a ta, zZ), (shF a cI cZ, σ), (shF ta cI cZ, (fl_unt n 0 (fl_cpy σ τ)).2), (shM u a2 ta2, κ), (shS a2 cI, ρ), (shS ta2 cI, υ), ([(o, .inr (.inr (.inl (cJ, 1, .inr (.inl g)))))], zZ)]) [true, true, true, false, false, false, false] rfl (c_X2_until l D cI cZ cJ t a ta σ τ n hI) wq_yX2_until wm_L_115 ⟨wn_yX2_until, wo_yX2_until⟩ ⟨rfl, rfl, Nat.le_of_ble_eq_true rfl, Nat.le_of_ble_eq_true rfl⟩ 0 rfl 0 rfl rfl rfl rfl (Nat.le_of_ble_eq_true rfl) dL_law_932 ⟨(by show _ ≤ 1087; omega), (by show _ ≤ 9136; omega)⟩ rfl rfl ?_
  refine z_aload_n C dL_law_935 rfl 2 rfl ?_
  refine z_cV C (st' := [.int ((fl_unt n 0 (fl_cpy ρ υ)).1), .int ((fl_unt n 0 (fl_cpy σ τ)).1)]) (B' := [(shT t a ta, zZ), (shF a cI cZ, σ), (shF ta cI cZ, (fl_unt n 0 (fl_cpy σ τ)).2), (shM u a2 ta2, (zU κ 0 (0) (nI (0)))), (shS a2 cI, ρ), (shS ta2 cI, (fl_unt n 0 (fl_cpy ρ υ)).2), ([(o, .inr (.inr (.inl (cJ, 1, .inr (.inl g)))))], zZ)]) [false, false, false, true, true, true, false] rfl (c_X4_until l D cI cZ cJ u a2 ta2 κ ρ υ n hI2  ) wq_yX4_until wm_L_118 ⟨wn_yX4_until, wo_yX4_until⟩ ⟨rfl, rfl, Nat.le_of_ble_eq_true rfl, Nat.le_of_ble_eq_true rfl⟩ 3 rfl 0 rfl rfl rfl rfl (Nat.le_of_ble_eq_true rfl) dL_law_936 ⟨(by show _ ≤ 1087; omega), (by show _ ≤ 9136; omega)⟩ rfl rfl ?_
  refine z_top (y := (fl_unt n 0 (fl_cpy σ τ)).1) ((hR.unt τ υ).symm) ?_
  refine z_icmp_eq C (tgt := 1135) dL_law_939 (by decide) (fun c_939 => ?_) (fun c_939 => ?_)
  · refine z_sub (L' := [(4, .int (nI i)), (3, .ref o), (2, .ref u), (1, .ref t), (0, .ref b0)]) [0, 1, 2, 3, 4] rfl ?_
    exact kk _ _ n σ (fl_unt n 0 (fl_cpy σ τ)).2 (zU κ 0 (0) (nI (0))) ρ (fl_unt n 0 (fl_cpy ρ υ)).2 g (by omega) (by omega) (hI) (hI2) (hS)
  · exact absurd rfl c_939
set_option maxHeartbeats 4000000 in
set_option maxRecDepth 100000 in
theorem lw_op14 (C : zX p s m args meth c D (tyL cI cZ cJ) A RL cL_law 9) (hlt : l.stackTraces = false) (hX : va_X b0 L xs s s.heap) (hbl : b0 < s.heap.size) (hbA : ¬ A b0) (hL : L ≤ 2048) {cells slots i n : Nat} {σ τ κ ρ υ : zF} {g : Nat → Int64} (hi : i + 4 ≤ L) (hc : cells ≤ 600) (hs : slots ≤ 4000) (hI : fl_Iv n σ) (hI2 : fl_Iv n ρ) (hS : fl_S n σ ρ) (kk : lwG p l e s m args below meth c D A Q cI cZ cJ t u o b0 a ta a2 ta2 1135 i (cells + 1) (slots + 6)) : zK p l e room_1 s m args below meth c D A 9 Q cells slots 944 [(4, .int (nI i)), (3, .ref o), (2, .ref u), (1, .ref t), (0, .ref b0)] [] [(shT t a ta, zZ), (shF a cI cZ, σ), (shF ta cI cZ, τ), (shM u a2 ta2, κ), (shS a2 cI, ρ), (shS ta2 cI, υ), ([(o, .inr (.inr (.inl (cJ, 1, .inr (.inl g)))))], zZ)] := by
  have hn3 := hI.n3
  have hn7 := hI.n7
  have hR : fl_R n σ ρ := ⟨hI, hS⟩
  rcases rg_cases 1 50 (by omega) (by omega) (xs (i + 1)) with hx | ⟨h, h1, h50, e1⟩
  · refine z_aload_n C dL_law_944 rfl 3 rfl ?_
    refine z_aload_n C dL_law_945 rfl 4 rfl ?_
    refine z_iload C dL_law_946 0 rfl ?_
    refine z_iconst C (v := nI (1)) (by decide) dL_law_948 ?_
    refine z_iaddN C dL_law_949 ?_
    refine z_sld C hX hbl hbA (by omega) (by omega) dL_law_950 ?_
    refine z_aload_n C dL_law_951 rfl 4 rfl ?_
    refine z_iload C dL_law_952 0 rfl ?_
    refine z_iconst C (v := nI (2)) (by decide) dL_law_954 ?_
    refine z_iaddN C dL_law_955 ?_
    refine z_sld C hX hbl hbA (by omega) (by omega) dL_law_956 ?_
    refine z_aload_n C dL_law_957 rfl 1 rfl ?_
    refine z_callSH C (n := 4) (st' := [.int (nI (1))]) (B' := [(shT t a ta, zZ), (shF a cI cZ, σ), (shF ta cI cZ, τ), (shM u a2 ta2, κ), (shS a2 cI, ρ), (shS ta2 cI, υ), ([(o, .inr (.inr (.inl (cJ, 1, .inr (.inl g)))))], zZ)]) [true, true, true, false, false, false, true] rfl (c_L_foresee_b1 l hlt D cI cZ cJ t a ta o g σ τ n hI (xs (i + 1)) (xs (i + 2)) hx) wk_yL_foresee wi_L ⟨by decide, by decide, by decide +kernel⟩ wm_L_119 ws_yL_foresee ⟨rfl, rfl, Nat.le_of_ble_eq_true rfl, Nat.le_of_ble_eq_true rfl⟩ rfl rfl (Nat.le_of_ble_eq_true rfl) dL_law_958 ⟨(by show _ ≤ 1087; omega), (by show _ ≤ 9136; omega)⟩ rfl rfl ?_
    refine z_istore C (L' := [(5, .int (nI (1))), (4, .int (nI (i))), (3, .ref (o)), (2, .ref (u)), (1, .ref (t)), (0, .ref (b0))]) dL_law_961 (by decide) rfl ?_
    refine z_aload_n C dL_law_963 rfl 3 rfl ?_
    refine z_aload_n C dL_law_964 rfl 5 rfl ?_
    refine z_iload C dL_law_965 1 rfl ?_
    refine z_iconst C (v := nI (1)) (by decide) dL_law_967 ?_
    refine z_iaddN C dL_law_968 ?_
    refine z_sld C hX hbl hbA (by omega) (by omega) dL_law_969 ?_
    refine z_aload_n C dL_law_970 rfl 5 rfl ?_
    refine z_iload C dL_law_971 1 rfl ?_
    refine z_iconst C (v := nI (2)) (by decide) dL_law_973 ?_
    refine z_iaddN C dL_law_974 ?_
    refine z_sld C hX hbl hbA (by omega) (by omega) dL_law_975 ?_
    refine z_cV C (st' := [.int (nI (0))]) (B' := [(shT t a ta, zZ), (shF a cI cZ, σ), (shF ta cI cZ, τ), (shM u a2 ta2, (zU κ 0 (0) (nI (1)))), (shS a2 cI, ρ), (shS ta2 cI, υ), ([(o, .inr (.inr (.inl (cJ, 1, .inr (.inl g)))))], zZ)]) [false, false, false, true, true, true, false] rfl (c_X4_foresee_b1 l D cI cZ cJ u a2 ta2 κ ρ υ n hI2 (xs (i + 1)) (xs (i + 2)) hx) wq_yX4_foresee wm_L_121 ⟨wn_yX4_foresee, wo_yX4_foresee⟩ ⟨rfl, rfl, Nat.le_of_ble_eq_true rfl, Nat.le_of_ble_eq_true rfl⟩ 3 rfl 0 rfl rfl rfl rfl (Nat.le_of_ble_eq_true rfl) dL_law_976 ⟨(by show _ ≤ 1087; omega), (by show _ ≤ 9136; omega)⟩ rfl rfl ?_
    refine z_istore C (L' := [(6, .int (nI (0))), (5, .int (nI (1))), (4, .int (nI (i))), (3, .ref (o)), (2, .ref (u)), (1, .ref (t)), (0, .ref (b0))]) dL_law_979 (by decide) rfl ?_
    refine z_aload_n C dL_law_981 rfl 4 rfl ?_
    refine z_cV C (st' := [.int ((zU κ 0 (0) (nI (1))) 0 (0))]) (B' := [(shT t a ta, zZ), (shF a cI cZ, σ), (shF ta cI cZ, τ), (shM u a2 ta2, (zU κ 0 (0) (nI (1)))), (shS a2 cI, ρ), (shS ta2 cI, υ), ([(o, .inr (.inr (.inl (cJ, 1, .inr (.inl g)))))], zZ)]) [false, false, false, true, true, true, false] rfl (c_X4_thrown l D cI cZ cJ u a2 ta2 (zU κ 0 (0) (nI (1))) ρ υ n hI2) wq_yX4_thrown wm_L_72 ⟨wn_yX4_thrown, wo_yX4_thrown⟩ ⟨rfl, rfl, Nat.le_of_ble_eq_true rfl, Nat.le_of_ble_eq_true rfl⟩ 3 rfl 0 rfl rfl rfl rfl (Nat.le_of_ble_eq_true rfl) dL_law_982 ⟨(by show _ ≤ 1087; omega), (by show _ ≤ 9136; omega)⟩ rfl rfl ?_
    refine z_top (y := nI (1)) (zU_self _ _ _ _) ?_
    refine z_iload C dL_law_985 1 rfl ?_
    refine z_icmp_eqN C (tgt := 992) dL_law_987 (by decide) (by omega) (by omega) (fun c_987 => ?_) (fun c_987 => ?_)
    · refine z_iload C dL_law_992 1 rfl ?_
      refine z_if_neN C (tgt := 1009) dL_law_994 (by decide) (by omega) (fun c_994 => ?_) (fun c_994 => ?_)
      · refine z_goto C (tgt := 1135) dL_law_1009 (by decide) ?_
        refine z_sub (L' := [(4, .int (nI i)), (3, .ref o), (2, .ref u), (1, .ref t), (0, .ref b0)]) [2, 3, 4, 5, 6] rfl ?_
        exact kk _ _ n σ τ (zU κ 0 (0) (nI (1))) ρ υ g (by omega) (by omega) (hI) (hI2) (hS)
      · exact absurd c_994 (by omega)
    · exact absurd rfl c_987
  · rcases rl_cases 3 10 (by omega) (by omega) (xs (i + 2)) with hx | ⟨w, hw3, hw, e2⟩
    · refine z_aload_n C dL_law_944 rfl 3 rfl ?_
      refine z_aload_n C dL_law_945 rfl 4 rfl ?_
      refine z_iload C dL_law_946 0 rfl ?_
      refine z_iconst C (v := nI (1)) (by decide) dL_law_948 ?_
      refine z_iaddN C dL_law_949 ?_
      refine z_sld C hX hbl hbA (by omega) (by omega) dL_law_950 ?_
      refine z_top (y := nI (h)) e1 ?_
      refine z_aload_n C dL_law_951 rfl 4 rfl ?_
      refine z_iload C dL_law_952 0 rfl ?_
      refine z_iconst C (v := nI (2)) (by decide) dL_law_954 ?_
      refine z_iaddN C dL_law_955 ?_
      refine z_sld C hX hbl hbA (by omega) (by omega) dL_law_956 ?_
      refine z_aload_n C dL_law_957 rfl 1 rfl ?_
      refine z_callSH C (n := 4) (st' := [.int (nI (2))]) (B' := [(shT t a ta, zZ), (shF a cI cZ, σ), (shF ta cI cZ, τ), (shM u a2 ta2, κ), (shS a2 cI, ρ), (shS ta2 cI, υ), ([(o, .inr (.inr (.inl (cJ, 1, .inr (.inl g)))))], zZ)]) [true, true, true, false, false, false, true] rfl (c_L_foresee_b2 l hlt D cI cZ cJ t a ta o g σ τ n hI h (xs (i + 2)) h1 h50 hx) wk_yL_foresee wi_L ⟨by decide, by decide, by decide +kernel⟩ wm_L_119 ws_yL_foresee ⟨rfl, rfl, Nat.le_of_ble_eq_true rfl, Nat.le_of_ble_eq_true rfl⟩ rfl rfl (Nat.le_of_ble_eq_true rfl) dL_law_958 ⟨(by show _ ≤ 1087; omega), (by show _ ≤ 9136; omega)⟩ rfl rfl ?_
      refine z_istore C (L' := [(5, .int (nI (2))), (4, .int (nI (i))), (3, .ref (o)), (2, .ref (u)), (1, .ref (t)), (0, .ref (b0))]) dL_law_961 (by decide) rfl ?_
      refine z_aload_n C dL_law_963 rfl 3 rfl ?_
      refine z_aload_n C dL_law_964 rfl 5 rfl ?_
      refine z_iload C dL_law_965 1 rfl ?_
      refine z_iconst C (v := nI (1)) (by decide) dL_law_967 ?_
      refine z_iaddN C dL_law_968 ?_
      refine z_sld C hX hbl hbA (by omega) (by omega) dL_law_969 ?_
      refine z_top (y := nI (h)) e1 ?_
      refine z_aload_n C dL_law_970 rfl 5 rfl ?_
      refine z_iload C dL_law_971 1 rfl ?_
      refine z_iconst C (v := nI (2)) (by decide) dL_law_973 ?_
      refine z_iaddN C dL_law_974 ?_
      refine z_sld C hX hbl hbA (by omega) (by omega) dL_law_975 ?_
      refine z_cV C (st' := [.int (nI (0))]) (B' := [(shT t a ta, zZ), (shF a cI cZ, σ), (shF ta cI cZ, τ), (shM u a2 ta2, (zU κ 0 (0) (nI (2)))), (shS a2 cI, ρ), (shS ta2 cI, υ), ([(o, .inr (.inr (.inl (cJ, 1, .inr (.inl g)))))], zZ)]) [false, false, false, true, true, true, false] rfl (c_X4_foresee_b2 l D cI cZ cJ u a2 ta2 κ ρ υ n hI2 h (xs (i + 2)) h1 h50 hx) wq_yX4_foresee wm_L_121 ⟨wn_yX4_foresee, wo_yX4_foresee⟩ ⟨rfl, rfl, Nat.le_of_ble_eq_true rfl, Nat.le_of_ble_eq_true rfl⟩ 3 rfl 0 rfl rfl rfl rfl (Nat.le_of_ble_eq_true rfl) dL_law_976 ⟨(by show _ ≤ 1087; omega), (by show _ ≤ 9136; omega)⟩ rfl rfl ?_
      refine z_istore C (L' := [(6, .int (nI (0))), (5, .int (nI (2))), (4, .int (nI (i))), (3, .ref (o)), (2, .ref (u)), (1, .ref (t)), (0, .ref (b0))]) dL_law_979 (by decide) rfl ?_
      refine z_aload_n C dL_law_981 rfl 4 rfl ?_
      refine z_cV C (st' := [.int ((zU κ 0 (0) (nI (2))) 0 (0))]) (B' := [(shT t a ta, zZ), (shF a cI cZ, σ), (shF ta cI cZ, τ), (shM u a2 ta2, (zU κ 0 (0) (nI (2)))), (shS a2 cI, ρ), (shS ta2 cI, υ), ([(o, .inr (.inr (.inl (cJ, 1, .inr (.inl g)))))], zZ)]) [false, false, false, true, true, true, false] rfl (c_X4_thrown l D cI cZ cJ u a2 ta2 (zU κ 0 (0) (nI (2))) ρ υ n hI2) wq_yX4_thrown wm_L_72 ⟨wn_yX4_thrown, wo_yX4_thrown⟩ ⟨rfl, rfl, Nat.le_of_ble_eq_true rfl, Nat.le_of_ble_eq_true rfl⟩ 3 rfl 0 rfl rfl rfl rfl (Nat.le_of_ble_eq_true rfl) dL_law_982 ⟨(by show _ ≤ 1087; omega), (by show _ ≤ 9136; omega)⟩ rfl rfl ?_
      refine z_top (y := nI (2)) (zU_self _ _ _ _) ?_
      refine z_iload C dL_law_985 1 rfl ?_
      refine z_icmp_eqN C (tgt := 992) dL_law_987 (by decide) (by omega) (by omega) (fun c_987 => ?_) (fun c_987 => ?_)
      · refine z_iload C dL_law_992 1 rfl ?_
        refine z_if_neN C (tgt := 1009) dL_law_994 (by decide) (by omega) (fun c_994 => ?_) (fun c_994 => ?_)
        · refine z_goto C (tgt := 1135) dL_law_1009 (by decide) ?_
          refine z_sub (L' := [(4, .int (nI i)), (3, .ref o), (2, .ref u), (1, .ref t), (0, .ref b0)]) [2, 3, 4, 5, 6] rfl ?_
          exact kk _ _ n σ τ (zU κ 0 (0) (nI (2))) ρ υ g (by omega) (by omega) (hI) (hI2) (hS)
        · exact absurd c_994 (by omega)
      · exact absurd rfl c_987
    · refine z_aload_n C dL_law_944 rfl 3 rfl ?_
      refine z_aload_n C dL_law_945 rfl 4 rfl ?_
      refine z_iload C dL_law_946 0 rfl ?_
      refine z_iconst C (v := nI (1)) (by decide) dL_law_948 ?_
      refine z_iaddN C dL_law_949 ?_
      refine z_sld C hX hbl hbA (by omega) (by omega) dL_law_950 ?_
      refine z_top (y := nI (h)) e1 ?_
      refine z_aload_n C dL_law_951 rfl 4 rfl ?_
      refine z_iload C dL_law_952 0 rfl ?_
      refine z_iconst C (v := nI (2)) (by decide) dL_law_954 ?_
      refine z_iaddN C dL_law_955 ?_
      refine z_sld C hX hbl hbA (by omega) (by omega) dL_law_956 ?_
      refine z_top (y := nI (w)) e2 ?_
      refine z_aload_n C dL_law_957 rfl 1 rfl ?_
      refine z_callSH C (n := 4) (st' := [.int (nI (0))]) (B' := [(shT t a ta, zZ), (shF a cI cZ, σ), (shF ta cI cZ, (fl_hours n h (fl_cpy σ τ))), (shM u a2 ta2, κ), (shS a2 cI, ρ), (shS ta2 cI, υ), ([(o, .inr (.inr (.inl (cJ, 1, .inr (.inl (vp_updL g 0 ((fl_ofF n (fl_hours n h (fl_cpy σ τ)) w).toInt64)))))))], zZ)]) [true, true, true, false, false, false, true] rfl (c_L_foresee l hlt D cI cZ cJ t a ta o g σ τ n hI h w h1 h50 hw3 hw) wk_yL_foresee wi_L ⟨by decide, by decide, by decide +kernel⟩ wm_L_119 ws_yL_foresee ⟨rfl, rfl, Nat.le_of_ble_eq_true rfl, Nat.le_of_ble_eq_true rfl⟩ rfl rfl (Nat.le_of_ble_eq_true rfl) dL_law_958 ⟨(by show _ ≤ 1087; omega), (by show _ ≤ 9136; omega)⟩ rfl rfl ?_
      refine z_istore C (L' := [(5, .int (nI (0))), (4, .int (nI (i))), (3, .ref (o)), (2, .ref (u)), (1, .ref (t)), (0, .ref (b0))]) dL_law_961 (by decide) rfl ?_
      refine z_aload_n C dL_law_963 rfl 3 rfl ?_
      refine z_aload_n C dL_law_964 rfl 5 rfl ?_
      refine z_iload C dL_law_965 1 rfl ?_
      refine z_iconst C (v := nI (1)) (by decide) dL_law_967 ?_
      refine z_iaddN C dL_law_968 ?_
      refine z_sld C hX hbl hbA (by omega) (by omega) dL_law_969 ?_
      refine z_top (y := nI (h)) e1 ?_
      refine z_aload_n C dL_law_970 rfl 5 rfl ?_
      refine z_iload C dL_law_971 1 rfl ?_
      refine z_iconst C (v := nI (2)) (by decide) dL_law_973 ?_
      refine z_iaddN C dL_law_974 ?_
      refine z_sld C hX hbl hbA (by omega) (by omega) dL_law_975 ?_
      refine z_top (y := nI (w)) e2 ?_
      refine z_cV C (st' := [.int (fl_ofF n (fl_hours n h (fl_cpy ρ υ)) w)]) (B' := [(shT t a ta, zZ), (shF a cI cZ, σ), (shF ta cI cZ, (fl_hours n h (fl_cpy σ τ))), (shM u a2 ta2, (zU κ 0 (0) (nI (0)))), (shS a2 cI, ρ), (shS ta2 cI, (fl_hours n h (fl_cpy ρ υ))), ([(o, .inr (.inr (.inl (cJ, 1, .inr (.inl (vp_updL g 0 ((fl_ofF n (fl_hours n h (fl_cpy σ τ)) w).toInt64)))))))], zZ)]) [false, false, false, true, true, true, false] rfl (c_X4_foresee l D cI cZ cJ u a2 ta2 κ ρ υ n hI2 h w h1 h50 hw3 hw) wq_yX4_foresee wm_L_121 ⟨wn_yX4_foresee, wo_yX4_foresee⟩ ⟨rfl, rfl, Nat.le_of_ble_eq_true rfl, Nat.le_of_ble_eq_true rfl⟩ 3 rfl 0 rfl rfl rfl rfl (Nat.le_of_ble_eq_true rfl) dL_law_976 ⟨(by show _ ≤ 1087; omega), (by show _ ≤ 9136; omega)⟩ rfl rfl ?_
      refine z_top (y := fl_ofF n (fl_hours n h (fl_cpy σ τ)) w) ((((hR.cpy τ υ).hours h).ofF w).symm) ?_
      refine z_istore C (L' := [(6, .int (fl_ofF n (fl_hours n h (fl_cpy σ τ)) w)), (5, .int (nI (0))), (4, .int (nI (i))), (3, .ref (o)), (2, .ref (u)), (1, .ref (t)), (0, .ref (b0))]) dL_law_979 (by decide) rfl ?_
      refine z_aload_n C dL_law_981 rfl 4 rfl ?_
      refine z_cV C (st' := [.int ((zU κ 0 (0) (nI (0))) 0 (0))]) (B' := [(shT t a ta, zZ), (shF a cI cZ, σ), (shF ta cI cZ, (fl_hours n h (fl_cpy σ τ))), (shM u a2 ta2, (zU κ 0 (0) (nI (0)))), (shS a2 cI, ρ), (shS ta2 cI, (fl_hours n h (fl_cpy ρ υ))), ([(o, .inr (.inr (.inl (cJ, 1, .inr (.inl (vp_updL g 0 ((fl_ofF n (fl_hours n h (fl_cpy σ τ)) w).toInt64)))))))], zZ)]) [false, false, false, true, true, true, false] rfl (c_X4_thrown l D cI cZ cJ u a2 ta2 (zU κ 0 (0) (nI (0))) ρ (fl_hours n h (fl_cpy ρ υ)) n hI2) wq_yX4_thrown wm_L_72 ⟨wn_yX4_thrown, wo_yX4_thrown⟩ ⟨rfl, rfl, Nat.le_of_ble_eq_true rfl, Nat.le_of_ble_eq_true rfl⟩ 3 rfl 0 rfl rfl rfl rfl (Nat.le_of_ble_eq_true rfl) dL_law_982 ⟨(by show _ ≤ 1087; omega), (by show _ ≤ 9136; omega)⟩ rfl rfl ?_
      refine z_top (y := nI (0)) (zU_self _ _ _ _) ?_
      refine z_iload C dL_law_985 1 rfl ?_
      refine z_icmp_eqN C (tgt := 992) dL_law_987 (by decide) (by omega) (by omega) (fun c_987 => ?_) (fun c_987 => ?_)
      · refine z_iload C dL_law_992 1 rfl ?_
        refine z_if_neN C (tgt := 1009) dL_law_994 (by decide) (by omega) (fun c_994 => ?_) (fun c_994 => ?_)
        · exact absurd c_994 (by omega)
        · refine z_aload_n C dL_law_997 rfl 3 rfl ?_
          refine z_iconst C (v := nI (0)) (by decide) dL_law_998 ?_
          refine z_lald C 6 rfl 0 2 rfl rfl dL_law_999 (by decide) (by decide) ?_
          refine z_topV (y := .long ((fl_ofF n (fl_hours n h (fl_cpy σ τ)) w).toInt64)) (congrArg Value.long (by simp [vp_updL])) ?_
          refine z_iload C dL_law_1000 0 rfl ?_
          refine z_i2l C (v := (fl_ofF n (fl_hours n h (fl_cpy σ τ)) w).toInt64) rfl dL_law_1002 ?_
          refine z_lcmp C dL_law_1003 ?_
          refine z_if_eq C (tgt := 1009) dL_law_1004 (by decide) (fun c_1004 => ?_) (fun c_1004 => ?_)
          · refine z_goto C (tgt := 1135) dL_law_1009 (by decide) ?_
            refine z_sub (L' := [(4, .int (nI i)), (3, .ref o), (2, .ref u), (1, .ref t), (0, .ref b0)]) [2, 3, 4, 5, 6] rfl ?_
            exact kk _ _ n σ (fl_hours n h (fl_cpy σ τ)) (zU κ 0 (0) (nI (0))) ρ (fl_hours n h (fl_cpy ρ υ)) (vp_updL g 0 ((fl_ofF n (fl_hours n h (fl_cpy σ τ)) w).toInt64)) (by omega) (by omega) (hI) (hI2) (hS)
          · exact absurd (lg_cmp_self _) c_1004
      · exact absurd rfl c_987
set_option maxHeartbeats 4000000 in
set_option maxRecDepth 100000 in
theorem lw_op15 (C : zX p s m args meth c D (tyL cI cZ cJ) A RL cL_law 9) (hlt : l.stackTraces = false) (hX : va_X b0 L xs s s.heap) (hbl : b0 < s.heap.size) (hbA : ¬ A b0) (hL : L ≤ 2048) {cells slots i n : Nat} {σ τ κ ρ υ : zF} {g : Nat → Int64} (hi : i + 4 ≤ L) (hc : cells ≤ 600) (hs : slots ≤ 4000) (hI : fl_Iv n σ) (hI2 : fl_Iv n ρ) (hS : fl_S n σ ρ) (kk : lwG p l e s m args below meth c D A Q cI cZ cJ t u o b0 a ta a2 ta2 1135 i (cells + 1) (slots + 6)) : zK p l e room_1 s m args below meth c D A 9 Q cells slots 1012 [(4, .int (nI i)), (3, .ref o), (2, .ref u), (1, .ref t), (0, .ref b0)] [] [(shT t a ta, zZ), (shF a cI cZ, σ), (shF ta cI cZ, τ), (shM u a2 ta2, κ), (shS a2 cI, ρ), (shS ta2 cI, υ), ([(o, .inr (.inr (.inl (cJ, 1, .inr (.inl g)))))], zZ)] := by
  have hn3 := hI.n3
  have hn7 := hI.n7
  have hR : fl_R n σ ρ := ⟨hI, hS⟩
  rcases bx_cases n (by omega) (xs (i + 1)) with hx | ⟨b, hb, e1⟩
  · refine z_aload_n C dL_law_1012 rfl 3 rfl ?_
    refine z_aload_n C dL_law_1013 rfl 4 rfl ?_
    refine z_iload C dL_law_1014 0 rfl ?_
    refine z_iconst C (v := nI (1)) (by decide) dL_law_1016 ?_
    refine z_iaddN C dL_law_1017 ?_
    refine z_sld C hX hbl hbA (by omega) (by omega) dL_law_1018 ?_
    refine z_aload_n C dL_law_1019 rfl 4 rfl ?_
    refine z_iload C dL_law_1020 0 rfl ?_
    refine z_iconst C (v := nI (2)) (by decide) dL_law_1022 ?_
    refine z_iaddN C dL_law_1023 ?_
    refine z_sld C hX hbl hbA (by omega) (by omega) dL_law_1024 ?_
    refine z_aload_n C dL_law_1025 rfl 1 rfl ?_
    refine z_callSH C (n := 4) (st' := [.int (nI (1))]) (B' := [(shT t a ta, zZ), (shF a cI cZ, σ), (shF ta cI cZ, τ), (shM u a2 ta2, κ), (shS a2 cI, ρ), (shS ta2 cI, υ), ([(o, .inr (.inr (.inl (cJ, 1, .inr (.inl g)))))], zZ)]) [true, true, true, false, false, false, true] rfl (c_L_advise_b1 l hlt D cI cZ cJ t a ta o g σ τ n hI (xs (i + 1)) (xs (i + 2)) hx) wk_yL_advise wi_L ⟨by decide, by decide, by decide +kernel⟩ wm_L_122 ws_yL_advise ⟨rfl, rfl, Nat.le_of_ble_eq_true rfl, Nat.le_of_ble_eq_true rfl⟩ rfl rfl (Nat.le_of_ble_eq_true rfl) dL_law_1026 ⟨(by show _ ≤ 1087; omega), (by show _ ≤ 9136; omega)⟩ rfl rfl ?_
    refine z_istore C (L' := [(5, .int (nI (1))), (4, .int (nI (i))), (3, .ref (o)), (2, .ref (u)), (1, .ref (t)), (0, .ref (b0))]) dL_law_1029 (by decide) rfl ?_
    refine z_aload_n C dL_law_1031 rfl 3 rfl ?_
    refine z_aload_n C dL_law_1032 rfl 5 rfl ?_
    refine z_iload C dL_law_1033 1 rfl ?_
    refine z_iconst C (v := nI (1)) (by decide) dL_law_1035 ?_
    refine z_iaddN C dL_law_1036 ?_
    refine z_sld C hX hbl hbA (by omega) (by omega) dL_law_1037 ?_
    refine z_aload_n C dL_law_1038 rfl 5 rfl ?_
    refine z_iload C dL_law_1039 1 rfl ?_
    refine z_iconst C (v := nI (2)) (by decide) dL_law_1041 ?_
    refine z_iaddN C dL_law_1042 ?_
    refine z_sld C hX hbl hbA (by omega) (by omega) dL_law_1043 ?_
    refine z_cV C (st' := [.int (nI (0))]) (B' := [(shT t a ta, zZ), (shF a cI cZ, σ), (shF ta cI cZ, τ), (shM u a2 ta2, (zU κ 0 (0) (nI (1)))), (shS a2 cI, ρ), (shS ta2 cI, υ), ([(o, .inr (.inr (.inl (cJ, 1, .inr (.inl g)))))], zZ)]) [false, false, false, true, true, true, false] rfl (c_X4_advise_b1 l D cI cZ cJ u a2 ta2 κ ρ υ n hI2 (xs (i + 1)) (xs (i + 2)) hx) wq_yX4_advise wm_L_124 ⟨wn_yX4_advise, wo_yX4_advise⟩ ⟨rfl, rfl, Nat.le_of_ble_eq_true rfl, Nat.le_of_ble_eq_true rfl⟩ 3 rfl 0 rfl rfl rfl rfl (Nat.le_of_ble_eq_true rfl) dL_law_1044 ⟨(by show _ ≤ 1087; omega), (by show _ ≤ 9136; omega)⟩ rfl rfl ?_
    refine z_istore C (L' := [(6, .int (nI (0))), (5, .int (nI (1))), (4, .int (nI (i))), (3, .ref (o)), (2, .ref (u)), (1, .ref (t)), (0, .ref (b0))]) dL_law_1047 (by decide) rfl ?_
    refine z_aload_n C dL_law_1049 rfl 4 rfl ?_
    refine z_cV C (st' := [.int ((zU κ 0 (0) (nI (1))) 0 (0))]) (B' := [(shT t a ta, zZ), (shF a cI cZ, σ), (shF ta cI cZ, τ), (shM u a2 ta2, (zU κ 0 (0) (nI (1)))), (shS a2 cI, ρ), (shS ta2 cI, υ), ([(o, .inr (.inr (.inl (cJ, 1, .inr (.inl g)))))], zZ)]) [false, false, false, true, true, true, false] rfl (c_X4_thrown l D cI cZ cJ u a2 ta2 (zU κ 0 (0) (nI (1))) ρ υ n hI2) wq_yX4_thrown wm_L_72 ⟨wn_yX4_thrown, wo_yX4_thrown⟩ ⟨rfl, rfl, Nat.le_of_ble_eq_true rfl, Nat.le_of_ble_eq_true rfl⟩ 3 rfl 0 rfl rfl rfl rfl (Nat.le_of_ble_eq_true rfl) dL_law_1050 ⟨(by show _ ≤ 1087; omega), (by show _ ≤ 9136; omega)⟩ rfl rfl ?_
    refine z_top (y := nI (1)) (zU_self _ _ _ _) ?_
    refine z_iload C dL_law_1053 1 rfl ?_
    refine z_icmp_eqN C (tgt := 1060) dL_law_1055 (by decide) (by omega) (by omega) (fun c_1055 => ?_) (fun c_1055 => ?_)
    · refine z_iload C dL_law_1060 1 rfl ?_
      refine z_if_neN C (tgt := 1077) dL_law_1062 (by decide) (by omega) (fun c_1062 => ?_) (fun c_1062 => ?_)
      · refine z_goto C (tgt := 1135) dL_law_1077 (by decide) ?_
        refine z_sub (L' := [(4, .int (nI i)), (3, .ref o), (2, .ref u), (1, .ref t), (0, .ref b0)]) [2, 3, 4, 5, 6] rfl ?_
        exact kk _ _ n σ τ (zU κ 0 (0) (nI (1))) ρ υ g (by omega) (by omega) (hI) (hI2) (hS)
      · exact absurd c_1062 (by omega)
    · exact absurd rfl c_1055
  · rcases rg_cases 1 20 (by omega) (by omega) (xs (i + 2)) with hx | ⟨k, h1, h20, e2⟩
    · refine z_aload_n C dL_law_1012 rfl 3 rfl ?_
      refine z_aload_n C dL_law_1013 rfl 4 rfl ?_
      refine z_iload C dL_law_1014 0 rfl ?_
      refine z_iconst C (v := nI (1)) (by decide) dL_law_1016 ?_
      refine z_iaddN C dL_law_1017 ?_
      refine z_sld C hX hbl hbA (by omega) (by omega) dL_law_1018 ?_
      refine z_top (y := nI (b)) e1 ?_
      refine z_aload_n C dL_law_1019 rfl 4 rfl ?_
      refine z_iload C dL_law_1020 0 rfl ?_
      refine z_iconst C (v := nI (2)) (by decide) dL_law_1022 ?_
      refine z_iaddN C dL_law_1023 ?_
      refine z_sld C hX hbl hbA (by omega) (by omega) dL_law_1024 ?_
      refine z_aload_n C dL_law_1025 rfl 1 rfl ?_
      refine z_callSH C (n := 4) (st' := [.int (nI (2))]) (B' := [(shT t a ta, zZ), (shF a cI cZ, σ), (shF ta cI cZ, τ), (shM u a2 ta2, κ), (shS a2 cI, ρ), (shS ta2 cI, υ), ([(o, .inr (.inr (.inl (cJ, 1, .inr (.inl g)))))], zZ)]) [true, true, true, false, false, false, true] rfl (c_L_advise_b2 l hlt D cI cZ cJ t a ta o g σ τ n hI b (xs (i + 2)) hb hx) wk_yL_advise wi_L ⟨by decide, by decide, by decide +kernel⟩ wm_L_122 ws_yL_advise ⟨rfl, rfl, Nat.le_of_ble_eq_true rfl, Nat.le_of_ble_eq_true rfl⟩ rfl rfl (Nat.le_of_ble_eq_true rfl) dL_law_1026 ⟨(by show _ ≤ 1087; omega), (by show _ ≤ 9136; omega)⟩ rfl rfl ?_
      refine z_istore C (L' := [(5, .int (nI (2))), (4, .int (nI (i))), (3, .ref (o)), (2, .ref (u)), (1, .ref (t)), (0, .ref (b0))]) dL_law_1029 (by decide) rfl ?_
      refine z_aload_n C dL_law_1031 rfl 3 rfl ?_
      refine z_aload_n C dL_law_1032 rfl 5 rfl ?_
      refine z_iload C dL_law_1033 1 rfl ?_
      refine z_iconst C (v := nI (1)) (by decide) dL_law_1035 ?_
      refine z_iaddN C dL_law_1036 ?_
      refine z_sld C hX hbl hbA (by omega) (by omega) dL_law_1037 ?_
      refine z_top (y := nI (b)) e1 ?_
      refine z_aload_n C dL_law_1038 rfl 5 rfl ?_
      refine z_iload C dL_law_1039 1 rfl ?_
      refine z_iconst C (v := nI (2)) (by decide) dL_law_1041 ?_
      refine z_iaddN C dL_law_1042 ?_
      refine z_sld C hX hbl hbA (by omega) (by omega) dL_law_1043 ?_
      refine z_cV C (st' := [.int (nI (0))]) (B' := [(shT t a ta, zZ), (shF a cI cZ, σ), (shF ta cI cZ, τ), (shM u a2 ta2, (zU κ 0 (0) (nI (2)))), (shS a2 cI, ρ), (shS ta2 cI, υ), ([(o, .inr (.inr (.inl (cJ, 1, .inr (.inl g)))))], zZ)]) [false, false, false, true, true, true, false] rfl (c_X4_advise_b2 l D cI cZ cJ u a2 ta2 κ ρ υ n hI2 b (xs (i + 2)) hb hx) wq_yX4_advise wm_L_124 ⟨wn_yX4_advise, wo_yX4_advise⟩ ⟨rfl, rfl, Nat.le_of_ble_eq_true rfl, Nat.le_of_ble_eq_true rfl⟩ 3 rfl 0 rfl rfl rfl rfl (Nat.le_of_ble_eq_true rfl) dL_law_1044 ⟨(by show _ ≤ 1087; omega), (by show _ ≤ 9136; omega)⟩ rfl rfl ?_
      refine z_istore C (L' := [(6, .int (nI (0))), (5, .int (nI (2))), (4, .int (nI (i))), (3, .ref (o)), (2, .ref (u)), (1, .ref (t)), (0, .ref (b0))]) dL_law_1047 (by decide) rfl ?_
      refine z_aload_n C dL_law_1049 rfl 4 rfl ?_
      refine z_cV C (st' := [.int ((zU κ 0 (0) (nI (2))) 0 (0))]) (B' := [(shT t a ta, zZ), (shF a cI cZ, σ), (shF ta cI cZ, τ), (shM u a2 ta2, (zU κ 0 (0) (nI (2)))), (shS a2 cI, ρ), (shS ta2 cI, υ), ([(o, .inr (.inr (.inl (cJ, 1, .inr (.inl g)))))], zZ)]) [false, false, false, true, true, true, false] rfl (c_X4_thrown l D cI cZ cJ u a2 ta2 (zU κ 0 (0) (nI (2))) ρ υ n hI2) wq_yX4_thrown wm_L_72 ⟨wn_yX4_thrown, wo_yX4_thrown⟩ ⟨rfl, rfl, Nat.le_of_ble_eq_true rfl, Nat.le_of_ble_eq_true rfl⟩ 3 rfl 0 rfl rfl rfl rfl (Nat.le_of_ble_eq_true rfl) dL_law_1050 ⟨(by show _ ≤ 1087; omega), (by show _ ≤ 9136; omega)⟩ rfl rfl ?_
      refine z_top (y := nI (2)) (zU_self _ _ _ _) ?_
      refine z_iload C dL_law_1053 1 rfl ?_
      refine z_icmp_eqN C (tgt := 1060) dL_law_1055 (by decide) (by omega) (by omega) (fun c_1055 => ?_) (fun c_1055 => ?_)
      · refine z_iload C dL_law_1060 1 rfl ?_
        refine z_if_neN C (tgt := 1077) dL_law_1062 (by decide) (by omega) (fun c_1062 => ?_) (fun c_1062 => ?_)
        · refine z_goto C (tgt := 1135) dL_law_1077 (by decide) ?_
          refine z_sub (L' := [(4, .int (nI i)), (3, .ref o), (2, .ref u), (1, .ref t), (0, .ref b0)]) [2, 3, 4, 5, 6] rfl ?_
          exact kk _ _ n σ τ (zU κ 0 (0) (nI (2))) ρ υ g (by omega) (by omega) (hI) (hI2) (hS)
        · exact absurd c_1062 (by omega)
      · exact absurd rfl c_1055
    · by_cases hup : σ 7 b = 0
      · have hup2 : ρ 7 b = 0 := by rw [← hR.r 7 hb]; exact hup
        refine z_aload_n C dL_law_1012 rfl 3 rfl ?_
        refine z_aload_n C dL_law_1013 rfl 4 rfl ?_
        refine z_iload C dL_law_1014 0 rfl ?_
        refine z_iconst C (v := nI (1)) (by decide) dL_law_1016 ?_
        refine z_iaddN C dL_law_1017 ?_
        refine z_sld C hX hbl hbA (by omega) (by omega) dL_law_1018 ?_
        refine z_top (y := nI (b)) e1 ?_
        refine z_aload_n C dL_law_1019 rfl 4 rfl ?_
        refine z_iload C dL_law_1020 0 rfl ?_
        refine z_iconst C (v := nI (2)) (by decide) dL_law_1022 ?_
        refine z_iaddN C dL_law_1023 ?_
        refine z_sld C hX hbl hbA (by omega) (by omega) dL_law_1024 ?_
        refine z_top (y := nI (k)) e2 ?_
        refine z_aload_n C dL_law_1025 rfl 1 rfl ?_
        refine z_callSH C (n := 4) (st' := [.int (nI (3))]) (B' := [(shT t a ta, zZ), (shF a cI cZ, σ), (shF ta cI cZ, τ), (shM u a2 ta2, κ), (shS a2 cI, ρ), (shS ta2 cI, υ), ([(o, .inr (.inr (.inl (cJ, 1, .inr (.inl g)))))], zZ)]) [true, true, true, false, false, false, true] rfl (c_L_advise_b3 l hlt D cI cZ cJ t a ta o g σ τ n hI b k hb h1 h20 hup) wk_yL_advise wi_L ⟨by decide, by decide, by decide +kernel⟩ wm_L_122 ws_yL_advise ⟨rfl, rfl, Nat.le_of_ble_eq_true rfl, Nat.le_of_ble_eq_true rfl⟩ rfl rfl (Nat.le_of_ble_eq_true rfl) dL_law_1026 ⟨(by show _ ≤ 1087; omega), (by show _ ≤ 9136; omega)⟩ rfl rfl ?_
        refine z_istore C (L' := [(5, .int (nI (3))), (4, .int (nI (i))), (3, .ref (o)), (2, .ref (u)), (1, .ref (t)), (0, .ref (b0))]) dL_law_1029 (by decide) rfl ?_
        refine z_aload_n C dL_law_1031 rfl 3 rfl ?_
        refine z_aload_n C dL_law_1032 rfl 5 rfl ?_
        refine z_iload C dL_law_1033 1 rfl ?_
        refine z_iconst C (v := nI (1)) (by decide) dL_law_1035 ?_
        refine z_iaddN C dL_law_1036 ?_
        refine z_sld C hX hbl hbA (by omega) (by omega) dL_law_1037 ?_
        refine z_top (y := nI (b)) e1 ?_
        refine z_aload_n C dL_law_1038 rfl 5 rfl ?_
        refine z_iload C dL_law_1039 1 rfl ?_
        refine z_iconst C (v := nI (2)) (by decide) dL_law_1041 ?_
        refine z_iaddN C dL_law_1042 ?_
        refine z_sld C hX hbl hbA (by omega) (by omega) dL_law_1043 ?_
        refine z_top (y := nI (k)) e2 ?_
        refine z_cV C (st' := [.int (nI (0))]) (B' := [(shT t a ta, zZ), (shF a cI cZ, σ), (shF ta cI cZ, τ), (shM u a2 ta2, (zU κ 0 (0) (nI (3)))), (shS a2 cI, ρ), (shS ta2 cI, υ), ([(o, .inr (.inr (.inl (cJ, 1, .inr (.inl g)))))], zZ)]) [false, false, false, true, true, true, false] rfl (c_X4_advise_b3 l D cI cZ cJ u a2 ta2 κ ρ υ n hI2 b k hb h1 h20 hup2) wq_yX4_advise wm_L_124 ⟨wn_yX4_advise, wo_yX4_advise⟩ ⟨rfl, rfl, Nat.le_of_ble_eq_true rfl, Nat.le_of_ble_eq_true rfl⟩ 3 rfl 0 rfl rfl rfl rfl (Nat.le_of_ble_eq_true rfl) dL_law_1044 ⟨(by show _ ≤ 1087; omega), (by show _ ≤ 9136; omega)⟩ rfl rfl ?_
        refine z_istore C (L' := [(6, .int (nI (0))), (5, .int (nI (3))), (4, .int (nI (i))), (3, .ref (o)), (2, .ref (u)), (1, .ref (t)), (0, .ref (b0))]) dL_law_1047 (by decide) rfl ?_
        refine z_aload_n C dL_law_1049 rfl 4 rfl ?_
        refine z_cV C (st' := [.int ((zU κ 0 (0) (nI (3))) 0 (0))]) (B' := [(shT t a ta, zZ), (shF a cI cZ, σ), (shF ta cI cZ, τ), (shM u a2 ta2, (zU κ 0 (0) (nI (3)))), (shS a2 cI, ρ), (shS ta2 cI, υ), ([(o, .inr (.inr (.inl (cJ, 1, .inr (.inl g)))))], zZ)]) [false, false, false, true, true, true, false] rfl (c_X4_thrown l D cI cZ cJ u a2 ta2 (zU κ 0 (0) (nI (3))) ρ υ n hI2) wq_yX4_thrown wm_L_72 ⟨wn_yX4_thrown, wo_yX4_thrown⟩ ⟨rfl, rfl, Nat.le_of_ble_eq_true rfl, Nat.le_of_ble_eq_true rfl⟩ 3 rfl 0 rfl rfl rfl rfl (Nat.le_of_ble_eq_true rfl) dL_law_1050 ⟨(by show _ ≤ 1087; omega), (by show _ ≤ 9136; omega)⟩ rfl rfl ?_
        refine z_top (y := nI (3)) (zU_self _ _ _ _) ?_
        refine z_iload C dL_law_1053 1 rfl ?_
        refine z_icmp_eqN C (tgt := 1060) dL_law_1055 (by decide) (by omega) (by omega) (fun c_1055 => ?_) (fun c_1055 => ?_)
        · refine z_iload C dL_law_1060 1 rfl ?_
          refine z_if_neN C (tgt := 1077) dL_law_1062 (by decide) (by omega) (fun c_1062 => ?_) (fun c_1062 => ?_)
          · refine z_goto C (tgt := 1135) dL_law_1077 (by decide) ?_
            refine z_sub (L' := [(4, .int (nI i)), (3, .ref o), (2, .ref u), (1, .ref t), (0, .ref b0)]) [2, 3, 4, 5, 6] rfl ?_
            exact kk _ _ n σ τ (zU κ 0 (0) (nI (3))) ρ υ g (by omega) (by omega) (hI) (hI2) (hS)
          · exact absurd c_1062 (by omega)
        · exact absurd rfl c_1055
      · have hup2 : ¬ ρ 7 b = 0 := by rw [← hR.r 7 hb]; exact hup
        refine z_aload_n C dL_law_1012 rfl 3 rfl ?_
        refine z_aload_n C dL_law_1013 rfl 4 rfl ?_
        refine z_iload C dL_law_1014 0 rfl ?_
        refine z_iconst C (v := nI (1)) (by decide) dL_law_1016 ?_
        refine z_iaddN C dL_law_1017 ?_
        refine z_sld C hX hbl hbA (by omega) (by omega) dL_law_1018 ?_
        refine z_top (y := nI (b)) e1 ?_
        refine z_aload_n C dL_law_1019 rfl 4 rfl ?_
        refine z_iload C dL_law_1020 0 rfl ?_
        refine z_iconst C (v := nI (2)) (by decide) dL_law_1022 ?_
        refine z_iaddN C dL_law_1023 ?_
        refine z_sld C hX hbl hbA (by omega) (by omega) dL_law_1024 ?_
        refine z_top (y := nI (k)) e2 ?_
        refine z_aload_n C dL_law_1025 rfl 1 rfl ?_
        refine z_callSH C (n := 4) (st' := [.int (nI (0))]) (B' := [(shT t a ta, zZ), (shF a cI cZ, σ), (shF ta cI cZ, (fl_advL n σ b k τ 3).2.2), (shM u a2 ta2, κ), (shS a2 cI, ρ), (shS ta2 cI, υ), ([(o, .inr (.inr (.inl (cJ, 1, .inr (.inl (vp_updL g 0 (((fl_advL n σ b k τ 3).1).toInt64)))))))], zZ)]) [true, true, true, false, false, false, true] rfl (c_L_advise l hlt D cI cZ cJ t a ta o g σ τ n hI b k hb h1 h20 hup) wk_yL_advise wi_L ⟨by decide, by decide, by decide +kernel⟩ wm_L_122 ws_yL_advise ⟨rfl, rfl, Nat.le_of_ble_eq_true rfl, Nat.le_of_ble_eq_true rfl⟩ rfl rfl (Nat.le_of_ble_eq_true rfl) dL_law_1026 ⟨(by show _ ≤ 1087; omega), (by show _ ≤ 9136; omega)⟩ rfl rfl ?_
        refine z_istore C (L' := [(5, .int (nI (0))), (4, .int (nI (i))), (3, .ref (o)), (2, .ref (u)), (1, .ref (t)), (0, .ref (b0))]) dL_law_1029 (by decide) rfl ?_
        refine z_aload_n C dL_law_1031 rfl 3 rfl ?_
        refine z_aload_n C dL_law_1032 rfl 5 rfl ?_
        refine z_iload C dL_law_1033 1 rfl ?_
        refine z_iconst C (v := nI (1)) (by decide) dL_law_1035 ?_
        refine z_iaddN C dL_law_1036 ?_
        refine z_sld C hX hbl hbA (by omega) (by omega) dL_law_1037 ?_
        refine z_top (y := nI (b)) e1 ?_
        refine z_aload_n C dL_law_1038 rfl 5 rfl ?_
        refine z_iload C dL_law_1039 1 rfl ?_
        refine z_iconst C (v := nI (2)) (by decide) dL_law_1041 ?_
        refine z_iaddN C dL_law_1042 ?_
        refine z_sld C hX hbl hbA (by omega) (by omega) dL_law_1043 ?_
        refine z_top (y := nI (k)) e2 ?_
        refine z_cV C (st' := [.int ((fl_advL n ρ b k υ 3).1)]) (B' := [(shT t a ta, zZ), (shF a cI cZ, σ), (shF ta cI cZ, (fl_advL n σ b k τ 3).2.2), (shM u a2 ta2, (zU κ 0 (0) (nI (0)))), (shS a2 cI, ρ), (shS ta2 cI, (fl_advL n ρ b k υ 3).2.2), ([(o, .inr (.inr (.inl (cJ, 1, .inr (.inl (vp_updL g 0 (((fl_advL n σ b k τ 3).1).toInt64)))))))], zZ)]) [false, false, false, true, true, true, false] rfl (c_X4_advise l D cI cZ cJ u a2 ta2 κ ρ υ n hI2 b k hb h1 h20 hup2) wq_yX4_advise wm_L_124 ⟨wn_yX4_advise, wo_yX4_advise⟩ ⟨rfl, rfl, Nat.le_of_ble_eq_true rfl, Nat.le_of_ble_eq_true rfl⟩ 3 rfl 0 rfl rfl rfl rfl (Nat.le_of_ble_eq_true rfl) dL_law_1044 ⟨(by show _ ≤ 1087; omega), (by show _ ≤ 9136; omega)⟩ rfl rfl ?_
        refine z_top (y := (fl_advL n σ b k τ 3).1) ((hR.advL b k τ υ 3).1.symm) ?_
        refine z_istore C (L' := [(6, .int ((fl_advL n σ b k τ 3).1)), (5, .int (nI (0))), (4, .int (nI (i))), (3, .ref (o)), (2, .ref (u)), (1, .ref (t)), (0, .ref (b0))]) dL_law_1047 (by decide) rfl ?_
        refine z_aload_n C dL_law_1049 rfl 4 rfl ?_
        refine z_cV C (st' := [.int ((zU κ 0 (0) (nI (0))) 0 (0))]) (B' := [(shT t a ta, zZ), (shF a cI cZ, σ), (shF ta cI cZ, (fl_advL n σ b k τ 3).2.2), (shM u a2 ta2, (zU κ 0 (0) (nI (0)))), (shS a2 cI, ρ), (shS ta2 cI, (fl_advL n ρ b k υ 3).2.2), ([(o, .inr (.inr (.inl (cJ, 1, .inr (.inl (vp_updL g 0 (((fl_advL n σ b k τ 3).1).toInt64)))))))], zZ)]) [false, false, false, true, true, true, false] rfl (c_X4_thrown l D cI cZ cJ u a2 ta2 (zU κ 0 (0) (nI (0))) ρ (fl_advL n ρ b k υ 3).2.2 n hI2) wq_yX4_thrown wm_L_72 ⟨wn_yX4_thrown, wo_yX4_thrown⟩ ⟨rfl, rfl, Nat.le_of_ble_eq_true rfl, Nat.le_of_ble_eq_true rfl⟩ 3 rfl 0 rfl rfl rfl rfl (Nat.le_of_ble_eq_true rfl) dL_law_1050 ⟨(by show _ ≤ 1087; omega), (by show _ ≤ 9136; omega)⟩ rfl rfl ?_
        refine z_top (y := nI (0)) (zU_self _ _ _ _) ?_
        refine z_iload C dL_law_1053 1 rfl ?_
        refine z_icmp_eqN C (tgt := 1060) dL_law_1055 (by decide) (by omega) (by omega) (fun c_1055 => ?_) (fun c_1055 => ?_)
        · refine z_iload C dL_law_1060 1 rfl ?_
          refine z_if_neN C (tgt := 1077) dL_law_1062 (by decide) (by omega) (fun c_1062 => ?_) (fun c_1062 => ?_)
          · exact absurd c_1062 (by omega)
          · refine z_aload_n C dL_law_1065 rfl 3 rfl ?_
            refine z_iconst C (v := nI (0)) (by decide) dL_law_1066 ?_
            refine z_lald C 6 rfl 0 2 rfl rfl dL_law_1067 (by decide) (by decide) ?_
            refine z_topV (y := .long (((fl_advL n σ b k τ 3).1).toInt64)) (congrArg Value.long (by simp [vp_updL])) ?_
            refine z_iload C dL_law_1068 0 rfl ?_
            refine z_i2l C (v := ((fl_advL n σ b k τ 3).1).toInt64) rfl dL_law_1070 ?_
            refine z_lcmp C dL_law_1071 ?_
            refine z_if_eq C (tgt := 1077) dL_law_1072 (by decide) (fun c_1072 => ?_) (fun c_1072 => ?_)
            · refine z_goto C (tgt := 1135) dL_law_1077 (by decide) ?_
              refine z_sub (L' := [(4, .int (nI i)), (3, .ref o), (2, .ref u), (1, .ref t), (0, .ref b0)]) [2, 3, 4, 5, 6] rfl ?_
              exact kk _ _ n σ (fl_advL n σ b k τ 3).2.2 (zU κ 0 (0) (nI (0))) ρ (fl_advL n ρ b k υ 3).2.2 (vp_updL g 0 (((fl_advL n σ b k τ 3).1).toInt64)) (by omega) (by omega) (hI) (hI2) (hS)
            · exact absurd (lg_cmp_self _) c_1072
        · exact absurd rfl c_1055
set_option maxHeartbeats 4000000 in
set_option maxRecDepth 100000 in
theorem lw_op16 (C : zX p s m args meth c D (tyL cI cZ cJ) A RL cL_law 9) (hlt : l.stackTraces = false) (hX : va_X b0 L xs s s.heap) (hbl : b0 < s.heap.size) (hbA : ¬ A b0) (hL : L ≤ 2048) {cells slots i n : Nat} {σ τ κ ρ υ : zF} {g : Nat → Int64} (hi : i + 4 ≤ L) (hc : cells ≤ 600) (hs : slots ≤ 4000) (hI : fl_Iv n σ) (hI2 : fl_Iv n ρ) (hS : fl_S n σ ρ) (kk : lwG p l e s m args below meth c D A Q cI cZ cJ t u o b0 a ta a2 ta2 1135 i (cells + 1) (slots + 6)) : zK p l e room_1 s m args below meth c D A 9 Q cells slots 1080 [(4, .int (nI i)), (3, .ref o), (2, .ref u), (1, .ref t), (0, .ref b0)] [] [(shT t a ta, zZ), (shF a cI cZ, σ), (shF ta cI cZ, τ), (shM u a2 ta2, κ), (shS a2 cI, ρ), (shS ta2 cI, υ), ([(o, .inr (.inr (.inl (cJ, 1, .inr (.inl g)))))], zZ)] := by
  have hn3 := hI.n3
  have hn7 := hI.n7
  have hR : fl_R n σ ρ := ⟨hI, hS⟩
  refine z_aload_n C dL_law_1080 rfl 3 rfl ?_
  refine z_cV C (st' := [.double (FP.ddiv (FP.i2d (nI (fl_sm (fl_kn σ) n))) (FP.i2d (nI (n))))]) (B' := [(shT t a ta, zZ), (shF a cI cZ, σ), (shF ta cI cZ, τ), (shM u a2 ta2, κ), (shS a2 cI, ρ), (shS ta2 cI, υ), ([(o, .inr (.inr (.inl (cJ, 1, .inr (.inl g)))))], zZ)]) [true, true, true, false, false, false, false] rfl (c_X2_mean l D cI cZ cJ t a ta σ τ n hI) wq_yX2_mean wm_L_125 ⟨wn_yX2_mean, wo_yX2_mean⟩ ⟨rfl, rfl, Nat.le_of_ble_eq_true rfl, Nat.le_of_ble_eq_true rfl⟩ 0 rfl 0 rfl rfl rfl rfl (Nat.le_of_ble_eq_true rfl) dL_law_1081 ⟨(by show _ ≤ 1087; omega), (by show _ ≤ 9136; omega)⟩ rfl rfl ?_
  refine z_dstore C (L' := [(5, .double (FP.ddiv (FP.i2d (nI (fl_sm (fl_kn σ) n))) (FP.i2d (nI (n))))), (4, .int (nI (i))), (3, .ref (o)), (2, .ref (u)), (1, .ref (t)), (0, .ref (b0))]) dL_law_1084 (by decide) rfl ?_
  refine z_aload_n C dL_law_1086 rfl 3 rfl ?_
  refine z_cV C (st' := [.double (FP.ddiv (FP.i2d (nI (fl_sm (fl_kn ρ) n))) (FP.i2d (nI (n))))]) (B' := [(shT t a ta, zZ), (shF a cI cZ, σ), (shF ta cI cZ, τ), (shM u a2 ta2, (zU κ 0 (0) (nI (0)))), (shS a2 cI, ρ), (shS ta2 cI, υ), ([(o, .inr (.inr (.inl (cJ, 1, .inr (.inl g)))))], zZ)]) [false, false, false, true, true, true, false] rfl (c_X4_mean l D cI cZ cJ u a2 ta2 κ ρ υ n hI2  ) wq_yX4_mean wm_L_129 ⟨wn_yX4_mean, wo_yX4_mean⟩ ⟨rfl, rfl, Nat.le_of_ble_eq_true rfl, Nat.le_of_ble_eq_true rfl⟩ 3 rfl 0 rfl rfl rfl rfl (Nat.le_of_ble_eq_true rfl) dL_law_1087 ⟨(by show _ ≤ 1087; omega), (by show _ ≤ 9136; omega)⟩ rfl rfl ?_
  refine z_topV (y := .double (FP.ddiv (FP.i2d (nI (fl_sm (fl_kn σ) n))) (FP.i2d (nI (n))))) (by rw [hR.smk]) ?_
  refine z_dstore C (L' := [(7, .double (FP.ddiv (FP.i2d (nI (fl_sm (fl_kn σ) n))) (FP.i2d (nI (n))))), (5, .double (FP.ddiv (FP.i2d (nI (fl_sm (fl_kn σ) n))) (FP.i2d (nI (n))))), (4, .int (nI (i))), (3, .ref (o)), (2, .ref (u)), (1, .ref (t)), (0, .ref (b0))]) dL_law_1090 (by decide) rfl ?_
  refine z_dload C dL_law_1092 1 rfl ?_
  refine z_dload C dL_law_1094 0 rfl ?_
  refine z_dcmp C dL_law_1096 ?_
  refine z_if_eq C (tgt := 1118) dL_law_1097 (by decide) (fun c_1097 => ?_) (fun c_1097 => ?_)
  · refine z_goto C (tgt := 1135) dL_law_1118 (by decide) ?_
    refine z_sub (L' := [(4, .int (nI i)), (3, .ref o), (2, .ref u), (1, .ref t), (0, .ref b0)]) [2, 3, 4, 5, 6] rfl ?_
    exact kk _ _ n σ τ (zU κ 0 (0) (nI (0))) ρ υ g (by omega) (by omega) (hI) (hI2) (hS)
  · exact absurd (fl_dceq hI) c_1097
set_option maxHeartbeats 4000000 in
set_option maxRecDepth 100000 in
theorem lw_op17 (C : zX p s m args meth c D (tyL cI cZ cJ) A RL cL_law 9) (hlt : l.stackTraces = false) (hX : va_X b0 L xs s s.heap) (hbl : b0 < s.heap.size) (hbA : ¬ A b0) (hL : L ≤ 2048) {cells slots i n : Nat} {σ τ κ ρ υ : zF} {g : Nat → Int64} (hi : i + 4 ≤ L) (hc : cells ≤ 600) (hs : slots ≤ 4000) (hI : fl_Iv n σ) (hI2 : fl_Iv n ρ) (hS : fl_S n σ ρ) (kk : lwG p l e s m args below meth c D A Q cI cZ cJ t u o b0 a ta a2 ta2 1135 i (cells + 1) (slots + 6)) : zK p l e room_1 s m args below meth c D A 9 Q cells slots 1121 [(4, .int (nI i)), (3, .ref o), (2, .ref u), (1, .ref t), (0, .ref b0)] [] [(shT t a ta, zZ), (shF a cI cZ, σ), (shF ta cI cZ, τ), (shM u a2 ta2, κ), (shS a2 cI, ρ), (shS ta2 cI, υ), ([(o, .inr (.inr (.inl (cJ, 1, .inr (.inl g)))))], zZ)] := by
  have hn3 := hI.n3
  have hn7 := hI.n7
  have hR : fl_R n σ ρ := ⟨hI, hS⟩
  refine z_aload_n C dL_law_1121 rfl 3 rfl ?_
  refine z_cV C (st' := [.long (fl_dA n σ n)]) (B' := [(shT t a ta, zZ), (shF a cI cZ, σ), (shF ta cI cZ, τ), (shM u a2 ta2, κ), (shS a2 cI, ρ), (shS ta2 cI, υ), ([(o, .inr (.inr (.inl (cJ, 1, .inr (.inl g)))))], zZ)]) [true, true, true, false, false, false, false] rfl (c_X2_digest l D cI cZ cJ t a ta σ τ n hI) wq_yX2_digest wm_L_130 ⟨wn_yX2_digest, wo_yX2_digest⟩ ⟨rfl, rfl, Nat.le_of_ble_eq_true rfl, Nat.le_of_ble_eq_true rfl⟩ 0 rfl 0 rfl rfl rfl rfl (Nat.le_of_ble_eq_true rfl) dL_law_1122 ⟨(by show _ ≤ 1087; omega), (by show _ ≤ 9136; omega)⟩ rfl rfl ?_
  refine z_aload_n C dL_law_1125 rfl 2 rfl ?_
  refine z_cV C (st' := [.long (fl_dA n ρ n), .long (fl_dA n σ n)]) (B' := [(shT t a ta, zZ), (shF a cI cZ, σ), (shF ta cI cZ, τ), (shM u a2 ta2, (zU κ 0 (0) (nI (0)))), (shS a2 cI, ρ), (shS ta2 cI, υ), ([(o, .inr (.inr (.inl (cJ, 1, .inr (.inl g)))))], zZ)]) [false, false, false, true, true, true, false] rfl (c_X4_digest l D cI cZ cJ u a2 ta2 κ ρ υ n hI2  ) wq_yX4_digest wm_L_134 ⟨wn_yX4_digest, wo_yX4_digest⟩ ⟨rfl, rfl, Nat.le_of_ble_eq_true rfl, Nat.le_of_ble_eq_true rfl⟩ 3 rfl 0 rfl rfl rfl rfl (Nat.le_of_ble_eq_true rfl) dL_law_1126 ⟨(by show _ ≤ 1087; omega), (by show _ ≤ 9136; omega)⟩ rfl rfl ?_
  refine z_topV (y := .long (fl_dA n σ n)) (congrArg Value.long (hR.dA n (Nat.le_refl n)).symm) ?_
  refine z_lcmp C dL_law_1129 ?_
  refine z_if_eq C (tgt := 1135) dL_law_1130 (by decide) (fun c_1130 => ?_) (fun c_1130 => ?_)
  · refine z_sub (L' := [(4, .int (nI i)), (3, .ref o), (2, .ref u), (1, .ref t), (0, .ref b0)]) [0, 1, 2, 3, 4] rfl ?_
    exact kk _ _ n σ τ (zU κ 0 (0) (nI (0))) ρ υ g (by omega) (by omega) (hI) (hI2) (hS)
  · exact absurd (lg_cmp_self _) c_1130
end ZLAW
