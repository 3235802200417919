def zl (b : Bool) : Int64 := if b = true then 1 else 0
section ZLONG
variable {p : Program} {l : Launch} {e : Env} {R : Room} {s : State} {m : MethodId} {args : Array Value} {below : List Frame} {meth : Method} {c : Code} {D : va_G} {A : Nat → Prop} {nL : Nat} {Q : State → Prop} {cells slots pc : Nat} {L : List (Nat × Value)} {st : List Value} {B : List zB}
theorem z_topV {x y : Value} (h : x = y) (k : zK p l e R s m args below meth c D A nL Q cells slots pc L (y :: st) B) : zK p l e R s m args below meth c D A nL Q cells slots pc L (x :: st) B := h ▸ k
end ZLONG
set_option maxHeartbeats 4000000 in
set_option maxRecDepth 100000 in
theorem c_L_fleet (l : Launch) (hlt : l.stackTraces = false) (D : va_G) (cI cZ cJ : ClassId) (t : Nat) (a ta : Nat → Nat) (o : Nat) (g : Nat → Int64) (σ τ : zF) (n : Nat) (hI : fl_Iv n σ) (k : Nat) (h3 : 3 ≤ k) (h7 : k ≤ 7) : zMH l D (tyL cI cZ cJ) yL_fleet cL_fleet 4 (some .int) [(0, 9, 12, 13)] (zR 7 121) [.ref (t), .int (nI (k)), .ref (o)] [(shT t a ta, zZ), (shF a cI cZ, σ), (shF ta cI cZ, τ), ([(o, .inr (.inr (.inl (cJ, 1, .inr (.inl g)))))], zZ)] 0 0 (fun r u => r = some (.int (nI (0))) ∧ u = [(shT t a ta, zZ), (shF a cI cZ, (fl_begP k k σ)), (shF ta cI cZ, τ), ([(o, .inr (.inr (.inl (cJ, 1, .inr (.inl (vp_updL g 0 ((nI ((k / 2) + 1)).toInt64)))))))], zZ)]) := by
  refine z_ofH (by decide) (Nat.le_of_ble_eq_true rfl) rfl ?_
  intro p e s m args below meth c A C hr htab
  obtain ⟨Q, hQ⟩ : ∃ Q, Q = MQ below (zQ (fun r u => r = some (.int (nI (0))) ∧ u = [(shT t a ta, zZ), (shF a cI cZ, (fl_begP k k σ)), (shF ta cI cZ, τ), ([(o, .inr (.inr (.inl (cJ, 1, .inr (.inl (vp_updL g 0 ((nI ((k / 2) + 1)).toInt64)))))))], zZ)]) D (tyL cI cZ cJ) A) args s 0 0 A := ⟨_, rfl⟩
  rw [← hQ]
  refine z_aload_n C dL_fleet_0 rfl 2 rfl ?_
  refine z_iconst C (v := nI (0)) (by decide) dL_fleet_1 ?_
  refine z_aload_n C dL_fleet_2 rfl 0 rfl ?_
  refine z_iload_n C dL_fleet_3 rfl 1 rfl ?_
  refine z_cV C (st' := [.int (nI ((k / 2) + 1)), .int (nI (0)), .ref (o)]) (B' := [(shT t a ta, zZ), (shF a cI cZ, (fl_begP k k σ)), (shF ta cI cZ, τ), ([(o, .inr (.inr (.inl (cJ, 1, .inr (.inl g)))))], zZ)]) [true, true, true, false] rfl (c_X2_fleet l D cI cZ cJ t a ta σ τ n hI k h3 h7) wq_yX2_fleet wm_L_7 ⟨wn_yX2_fleet, wo_yX2_fleet⟩ ⟨rfl, rfl, Nat.le_of_ble_eq_true rfl, Nat.le_of_ble_eq_true rfl⟩ 0 rfl 0 rfl rfl rfl rfl (Nat.le_of_ble_eq_true rfl) dL_fleet_4 ⟨Nat.le_of_ble_eq_true rfl, Nat.le_of_ble_eq_true rfl⟩ rfl rfl ?_
  refine z_i2l C (v := (nI ((k / 2) + 1)).toInt64) rfl dL_fleet_7 ?_
  refine z_last C (B' := [(shT t a ta, zZ), (shF a cI cZ, (fl_begP k k σ)), (shF ta cI cZ, τ), ([(o, .inr (.inr (.inl (cJ, 1, .inr (.inl (vp_updL g 0 ((nI ((k / 2) + 1)).toInt64)))))))], zZ)]) 3 rfl 0 2 rfl rfl dL_fleet_8 (by decide) (by decide) rfl ?_
  refine z_goto C (tgt := 15) dL_fleet_9 (by decide) ?_
  refine z_iconst C (v := nI (0)) (by decide) dL_fleet_15 ?_
  rw [hQ]; exact z_iret C hr dL_fleet_16 ⟨rfl, rfl⟩
set_option maxHeartbeats 4000000 in
set_option maxRecDepth 100000 in
theorem c_L_fleet_b1 (l : Launch) (hlt : l.stackTraces = false) (D : va_G) (cI cZ cJ : ClassId) (t : Nat) (a ta : Nat → Nat) (o : Nat) (g : Nat → Int64) (σ τ : zF) (n : Nat) (hI : fl_Iv n σ) (x : Int32) (hx : x < nI 3 ∨ nI 7 < x) : zMH l D (tyL cI cZ cJ) yL_fleet cL_fleet 4 (some .int) [(0, 9, 12, 13)] ({ frames := 7, cells := 1, slots := 6, locals := 121 } : Room) [.ref (t), .int (x), .ref (o)] [(shT t a ta, zZ), (shF a cI cZ, σ), (shF ta cI cZ, τ), ([(o, .inr (.inr (.inl (cJ, 1, .inr (.inl g)))))], zZ)] 1 6 (fun r u => r = some (.int (nI (1))) ∧ u = [(shT t a ta, zZ), (shF a cI cZ, σ), (shF ta cI cZ, τ), ([(o, .inr (.inr (.inl (cJ, 1, .inr (.inl g)))))], zZ)]) := by
  refine z_ofH (by decide) (Nat.le_of_ble_eq_true rfl) rfl ?_
  intro p e s m args below meth c A C hr htab
  obtain ⟨Q, hQ⟩ : ∃ Q, Q = MQ below (zQ (fun r u => r = some (.int (nI (1))) ∧ u = [(shT t a ta, zZ), (shF a cI cZ, σ), (shF ta cI cZ, τ), ([(o, .inr (.inr (.inl (cJ, 1, .inr (.inl g)))))], zZ)]) D (tyL cI cZ cJ) A) args s 1 6 A := ⟨_, rfl⟩
  rw [← hQ]
  refine z_aload_n C dL_fleet_0 rfl 2 rfl ?_
  refine z_iconst C (v := nI (0)) (by decide) dL_fleet_1 ?_
  refine z_aload_n C dL_fleet_2 rfl 0 rfl ?_
  refine z_iload_n C dL_fleet_3 rfl 1 rfl ?_
  refine z_catchV C [true, true, true, false] rfl rfl (c_X2_fleet_b1 l hlt D cI cZ cJ t a ta σ τ n hI x hx) wq_yX2_fleet wm_L_7 ⟨wn_yX2_fleet, wo_yX2_fleet⟩ ⟨rfl, rfl, Nat.le_of_ble_eq_true rfl, Nat.le_of_ble_eq_true rfl⟩ 0 rfl 0 rfl rfl rfl rfl (Nat.le_of_ble_eq_true rfl) dL_fleet_4 ⟨Nat.le_of_ble_eq_true rfl, Nat.le_of_ble_eq_true rfl⟩ [] ⟨0, 9, 12, 13⟩ [] (htab.trans rfl) (fun z hz => nomatch hz) (by decide) (by decide) wl_L_13 wt_IllegalArgumentException (fun q => ?_)
  refine z_astore_n C (L' := [(3, .ref (q)), (0, .ref (t)), (1, .int (x)), (2, .ref (o))]) dL_fleet_12 rfl (by decide) rfl ?_
  refine z_iconst C (v := nI (1)) (by decide) dL_fleet_13 ?_
  rw [hQ]; exact z_iret C hr dL_fleet_14 ⟨rfl, rfl⟩
set_option maxHeartbeats 4000000 in
set_option maxRecDepth 100000 in
theorem c_L_setPatience (l : Launch) (hlt : l.stackTraces = false) (D : va_G) (cI cZ cJ : ClassId) (t : Nat) (a ta : Nat → Nat) (o : Nat) (g : Nat → Int64) (σ τ : zF) (n : Nat) (hI : fl_Iv n σ) (b : Nat) (k : Nat) (hb : b < n) (h2 : 2 ≤ k) (h9 : k ≤ 9) : zMH l D (tyL cI cZ cJ) yL_setPatience cL_setPatience 5 (some .int) [(0, 10, 13, 19), (0, 10, 17, 13)] (zR 8 144) [.ref (t), .int (nI (b)), .int (nI (k)), .ref (o)] [(shT t a ta, zZ), (shF a cI cZ, σ), (shF ta cI cZ, τ), ([(o, .inr (.inr (.inl (cJ, 1, .inr (.inl g)))))], zZ)] 0 0 (fun r u => r = some (.int (nI (0))) ∧ u = [(shT t a ta, zZ), (shF a cI cZ, (zU σ 1 b (nI k))), (shF ta cI cZ, τ), ([(o, .inr (.inr (.inl (cJ, 1, .inr (.inl (vp_updL g 0 ((σ 1 (b)).toInt64)))))))], zZ)]) := by
  refine z_ofH (by decide) (Nat.le_of_ble_eq_true rfl) rfl ?_
  intro p e s m args below meth c A C hr htab
  obtain ⟨Q, hQ⟩ : ∃ Q, Q = MQ below (zQ (fun r u => r = some (.int (nI (0))) ∧ u = [(shT t a ta, zZ), (shF a cI cZ, (zU σ 1 b (nI k))), (shF ta cI cZ, τ), ([(o, .inr (.inr (.inl (cJ, 1, .inr (.inl (vp_updL g 0 ((σ 1 (b)).toInt64)))))))], zZ)]) D (tyL cI cZ cJ) A) args s 0 0 A := ⟨_, rfl⟩
  rw [← hQ]
  refine z_aload_n C dL_setPatience_0 rfl 3 rfl ?_
  refine z_iconst C (v := nI (0)) (by decide) dL_setPatience_1 ?_
  refine z_aload_n C dL_setPatience_2 rfl 0 rfl ?_
  refine z_iload_n C dL_setPatience_3 rfl 1 rfl ?_
  refine z_iload_n C dL_setPatience_4 rfl 2 rfl ?_
  refine z_cV C (st' := [.int (σ 1 (b)), .int (nI (0)), .ref (o)]) (B' := [(shT t a ta, zZ), (shF a cI cZ, (zU σ 1 b (nI k))), (shF ta cI cZ, τ), ([(o, .inr (.inr (.inl (cJ, 1, .inr (.inl g)))))], zZ)]) [true, true, true, false] rfl (c_X2_setPatience l D cI cZ cJ t a ta σ τ n hI b k hb h2 h9) wq_yX2_setPatience wm_L_15 ⟨wn_yX2_setPatience, wo_yX2_setPatience⟩ ⟨rfl, rfl, Nat.le_of_ble_eq_true rfl, Nat.le_of_ble_eq_true rfl⟩ 0 rfl 0 rfl rfl rfl rfl (Nat.le_of_ble_eq_true rfl) dL_setPatience_5 ⟨Nat.le_of_ble_eq_true rfl, Nat.le_of_ble_eq_true rfl⟩ rfl rfl ?_
  refine z_i2l C (v := (σ 1 (b)).toInt64) rfl dL_setPatience_8 ?_
  refine z_last C (B' := [(shT t a ta, zZ), (shF a cI cZ, (zU σ 1 b (nI k))), (shF ta cI cZ, τ), ([(o, .inr (.inr (.inl (cJ, 1, .inr (.inl (vp_updL g 0 ((σ 1 (b)).toInt64)))))))], zZ)]) 3 rfl 0 2 rfl rfl dL_setPatience_9 (by decide) (by decide) rfl ?_
  refine z_goto C (tgt := 21) dL_setPatience_10 (by decide) ?_
  refine z_iconst C (v := nI (0)) (by decide) dL_setPatience_21 ?_
  rw [hQ]; exact z_iret C hr dL_setPatience_22 ⟨rfl, rfl⟩
set_option maxHeartbeats 4000000 in
set_option maxRecDepth 100000 in
theorem c_L_setPatience_b1 (l : Launch) (hlt : l.stackTraces = false) (D : va_G) (cI cZ cJ : ClassId) (t : Nat) (a ta : Nat → Nat) (o : Nat) (g : Nat → Int64) (σ τ : zF) (n : Nat) (hI : fl_Iv n σ) (x : Int32) (k : Int32) (hx : x < 0 ∨ nI n ≤ x) : zMH l D (tyL cI cZ cJ) yL_setPatience cL_setPatience 5 (some .int) [(0, 10, 13, 19), (0, 10, 17, 13)] ({ frames := 8, cells := 1, slots := 6, locals := 144 } : Room) [.ref (t), .int (x), .int (k), .ref (o)] [(shT t a ta, zZ), (shF a cI cZ, σ), (shF ta cI cZ, τ), ([(o, .inr (.inr (.inl (cJ, 1, .inr (.inl g)))))], zZ)] 1 6 (fun r u => r = some (.int (nI (1))) ∧ u = [(shT t a ta, zZ), (shF a cI cZ, σ), (shF ta cI cZ, τ), ([(o, .inr (.inr (.inl (cJ, 1, .inr (.inl g)))))], zZ)]) := by
  refine z_ofH (by decide) (Nat.le_of_ble_eq_true rfl) rfl ?_
  intro p e s m args below meth c A C hr htab
  obtain ⟨Q, hQ⟩ : ∃ Q, Q = MQ below (zQ (fun r u => r = some (.int (nI (1))) ∧ u = [(shT t a ta, zZ), (shF a cI cZ, σ), (shF ta cI cZ, τ), ([(o, .inr (.inr (.inl (cJ, 1, .inr (.inl g)))))], zZ)]) D (tyL cI cZ cJ) A) args s 1 6 A := ⟨_, rfl⟩
  rw [← hQ]
  refine z_aload_n C dL_setPatience_0 rfl 3 rfl ?_
  refine z_iconst C (v := nI (0)) (by decide) dL_setPatience_1 ?_
  refine z_aload_n C dL_setPatience_2 rfl 0 rfl ?_
  refine z_iload_n C dL_setPatience_3 rfl 1 rfl ?_
  refine z_iload_n C dL_setPatience_4 rfl 2 rfl ?_
  refine z_catchV C [true, true, true, false] rfl rfl (c_X2_setPatience_b1 l hlt D cI cZ cJ t a ta σ τ n hI x k hx) wq_yX2_setPatience wm_L_15 ⟨wn_yX2_setPatience, wo_yX2_setPatience⟩ ⟨rfl, rfl, Nat.le_of_ble_eq_true rfl, Nat.le_of_ble_eq_true rfl⟩ 0 rfl 0 rfl rfl rfl rfl (Nat.le_of_ble_eq_true rfl) dL_setPatience_5 ⟨Nat.le_of_ble_eq_true rfl, Nat.le_of_ble_eq_true rfl⟩ [] ⟨0, 10, 13, 19⟩ [⟨0, 10, 17, 13⟩] (htab.trans rfl) (fun z hz => nomatch hz) (by decide) (by decide) wl_L_19 wt_IndexOutOfBoundsException (fun q => ?_)
  refine z_astore C (L' := [(4, .ref (q)), (0, .ref (t)), (1, .int (x)), (2, .int (k)), (3, .ref (o))]) dL_setPatience_13 (by decide) rfl ?_
  refine z_iconst C (v := nI (1)) (by decide) dL_setPatience_15 ?_
  rw [hQ]; exact z_iret C hr dL_setPatience_16 ⟨rfl, rfl⟩
set_option maxHeartbeats 4000000 in
set_option maxRecDepth 100000 in
theorem c_L_setPatience_b2 (l : Launch) (hlt : l.stackTraces = false) (D : va_G) (cI cZ cJ : ClassId) (t : Nat) (a ta : Nat → Nat) (o : Nat) (g : Nat → Int64) (σ τ : zF) (n : Nat) (hI : fl_Iv n σ) (b : Nat) (x : Int32) (hb : b < n) (hx : x < nI 2 ∨ nI 9 < x) : zMH l D (tyL cI cZ cJ) yL_setPatience cL_setPatience 5 (some .int) [(0, 10, 13, 19), (0, 10, 17, 13)] ({ frames := 8, cells := 1, slots := 6, locals := 144 } : Room) [.ref (t), .int (nI (b)), .int (x), .ref (o)] [(shT t a ta, zZ), (shF a cI cZ, σ), (shF ta cI cZ, τ), ([(o, .inr (.inr (.inl (cJ, 1, .inr (.inl g)))))], zZ)] 1 6 (fun r u => r = some (.int (nI (2))) ∧ u = [(shT t a ta, zZ), (shF a cI cZ, σ), (shF ta cI cZ, τ), ([(o, .inr (.inr (.inl (cJ, 1, .inr (.inl g)))))], zZ)]) := by
  refine z_ofH (by decide) (Nat.le_of_ble_eq_true rfl) rfl ?_
  intro p e s m args below meth c A C hr htab
  obtain ⟨Q, hQ⟩ : ∃ Q, Q = MQ below (zQ (fun r u => r = some (.int (nI (2))) ∧ u = [(shT t a ta, zZ), (shF a cI cZ, σ), (shF ta cI cZ, τ), ([(o, .inr (.inr (.inl (cJ, 1, .inr (.inl g)))))], zZ)]) D (tyL cI cZ cJ) A) args s 1 6 A := ⟨_, rfl⟩
  rw [← hQ]
  refine z_aload_n C dL_setPatience_0 rfl 3 rfl ?_
  refine z_iconst C (v := nI (0)) (by decide) dL_setPatience_1 ?_
  refine z_aload_n C dL_setPatience_2 rfl 0 rfl ?_
  refine z_iload_n C dL_setPatience_3 rfl 1 rfl ?_
  refine z_iload_n C dL_setPatience_4 rfl 2 rfl ?_
  refine z_catchV C [true, true, true, false] rfl rfl (c_X2_setPatience_b2 l hlt D cI cZ cJ t a ta σ τ n hI b x hb hx) wq_yX2_setPatience wm_L_15 ⟨wn_yX2_setPatience, wo_yX2_setPatience⟩ ⟨rfl, rfl, Nat.le_of_ble_eq_true rfl, Nat.le_of_ble_eq_true rfl⟩ 0 rfl 0 rfl rfl rfl rfl (Nat.le_of_ble_eq_true rfl) dL_setPatience_5 ⟨Nat.le_of_ble_eq_true rfl, Nat.le_of_ble_eq_true rfl⟩ [⟨0, 10, 13, 19⟩] ⟨0, 10, 17, 13⟩ [] (htab.trans rfl) (fun z hz => by
      rcases List.mem_cons.mp hz with rfl | hz
      · exact Or.inr ⟨by decide, "java/lang/IndexOutOfBoundsException", wl_L_19, by decide⟩
      · exact nomatch hz) (by decide) (by decide) wl_L_13 wt_IllegalArgumentException (fun q => ?_)
  refine z_astore C (L' := [(4, .ref (q)), (0, .ref (t)), (1, .int (nI (b))), (2, .int (x)), (3, .ref (o))]) dL_setPatience_17 (by decide) rfl ?_
  refine z_iconst C (v := nI (2)) (by decide) dL_setPatience_19 ?_
  rw [hQ]; exact z_iret C hr dL_setPatience_20 ⟨rfl, rfl⟩
set_option maxHeartbeats 4000000 in
set_option maxRecDepth 100000 in
theorem c_L_go (l : Launch) (hlt : l.stackTraces = false) (D : va_G) (cI cZ cJ : ClassId) (t : Nat) (a ta : Nat → Nat) (o : Nat) (g : Nat → Int64) (σ τ : zF) (n : Nat) (hI : fl_Iv n σ) (b : Nat) (h : Nat) (hb : b < n) (hh : h < 3) : zMH l D (tyL cI cZ cJ) yL_go cL_go 5 (some .int) [(0, 10, 13, 19)] (zR 8 145) [.ref (t), .int (nI (b)), .int (nI (h)), .ref (o)] [(shT t a ta, zZ), (shF a cI cZ, σ), (shF ta cI cZ, τ), ([(o, .inr (.inr (.inl (cJ, 1, .inr (.inl g)))))], zZ)] 0 0 (fun r u => r = some (.int (nI (0))) ∧ u = [(shT t a ta, zZ), (shF a cI cZ, (zU σ 6 b (nI h))), (shF ta cI cZ, τ), ([(o, .inr (.inr (.inl (cJ, 1, .inr (.inl (vp_updL g 0 ((σ 6 (b)).toInt64)))))))], zZ)]) := by
  refine z_ofH (by decide) (Nat.le_of_ble_eq_true rfl) rfl ?_
  intro p e s m args below meth c A C hr htab
  obtain ⟨Q, hQ⟩ : ∃ Q, Q = MQ below (zQ (fun r u => r = some (.int (nI (0))) ∧ u = [(shT t a ta, zZ), (shF a cI cZ, (zU σ 6 b (nI h))), (shF ta cI cZ, τ), ([(o, .inr (.inr (.inl (cJ, 1, .inr (.inl (vp_updL g 0 ((σ 6 (b)).toInt64)))))))], zZ)]) D (tyL cI cZ cJ) A) args s 0 0 A := ⟨_, rfl⟩
  rw [← hQ]
  refine z_aload_n C dL_go_0 rfl 3 rfl ?_
  refine z_iconst C (v := nI (0)) (by decide) dL_go_1 ?_
  refine z_aload_n C dL_go_2 rfl 0 rfl ?_
  refine z_iload_n C dL_go_3 rfl 1 rfl ?_
  refine z_iload_n C dL_go_4 rfl 2 rfl ?_
  refine z_cV C (st' := [.int (σ 6 (b)), .int (nI (0)), .ref (o)]) (B' := [(shT t a ta, zZ), (shF a cI cZ, (zU σ 6 b (nI h))), (shF ta cI cZ, τ), ([(o, .inr (.inr (.inl (cJ, 1, .inr (.inl g)))))], zZ)]) [true, true, true, false] rfl (c_X2_go l D cI cZ cJ t a ta σ τ n hI b h hb hh) wq_yX2_go wm_L_21 ⟨wn_yX2_go, wo_yX2_go⟩ ⟨rfl, rfl, Nat.le_of_ble_eq_true rfl, Nat.le_of_ble_eq_true rfl⟩ 0 rfl 0 rfl rfl rfl rfl (Nat.le_of_ble_eq_true rfl) dL_go_5 ⟨Nat.le_of_ble_eq_true rfl, Nat.le_of_ble_eq_true rfl⟩ rfl rfl ?_
  refine z_i2l C (v := (σ 6 (b)).toInt64) rfl dL_go_8 ?_
  refine z_last C (B' := [(shT t a ta, zZ), (shF a cI cZ, (zU σ 6 b (nI h))), (shF ta cI cZ, τ), ([(o, .inr (.inr (.inl (cJ, 1, .inr (.inl (vp_updL g 0 ((σ 6 (b)).toInt64)))))))], zZ)]) 3 rfl 0 2 rfl rfl dL_go_9 (by decide) (by decide) rfl ?_
  refine z_goto C (tgt := 17) dL_go_10 (by decide) ?_
  refine z_iconst C (v := nI (0)) (by decide) dL_go_17 ?_
  rw [hQ]; exact z_iret C hr dL_go_18 ⟨rfl, rfl⟩
set_option maxHeartbeats 4000000 in
set_option maxRecDepth 100000 in
theorem c_L_go_b1 (l : Launch) (hlt : l.stackTraces = false) (D : va_G) (cI cZ cJ : ClassId) (t : Nat) (a ta : Nat → Nat) (o : Nat) (g : Nat → Int64) (σ τ : zF) (n : Nat) (hI : fl_Iv n σ) (x : Int32) (h : Int32) (hx : x < 0 ∨ nI n ≤ x) : zMH l D (tyL cI cZ cJ) yL_go cL_go 5 (some .int) [(0, 10, 13, 19)] ({ frames := 8, cells := 1, slots := 6, locals := 145 } : Room) [.ref (t), .int (x), .int (h), .ref (o)] [(shT t a ta, zZ), (shF a cI cZ, σ), (shF ta cI cZ, τ), ([(o, .inr (.inr (.inl (cJ, 1, .inr (.inl g)))))], zZ)] 1 6 (fun r u => r = some (.int (nI (1))) ∧ u = [(shT t a ta, zZ), (shF a cI cZ, σ), (shF ta cI cZ, τ), ([(o, .inr (.inr (.inl (cJ, 1, .inr (.inl g)))))], zZ)]) := by
  refine z_ofH (by decide) (Nat.le_of_ble_eq_true rfl) rfl ?_
  intro p e s m args below meth c A C hr htab
  obtain ⟨Q, hQ⟩ : ∃ Q, Q = MQ below (zQ (fun r u => r = some (.int (nI (1))) ∧ u = [(shT t a ta, zZ), (shF a cI cZ, σ), (shF ta cI cZ, τ), ([(o, .inr (.inr (.inl (cJ, 1, .inr (.inl g)))))], zZ)]) D (tyL cI cZ cJ) A) args s 1 6 A := ⟨_, rfl⟩
  rw [← hQ]
  refine z_aload_n C dL_go_0 rfl 3 rfl ?_
  refine z_iconst C (v := nI (0)) (by decide) dL_go_1 ?_
  refine z_aload_n C dL_go_2 rfl 0 rfl ?_
  refine z_iload_n C dL_go_3 rfl 1 rfl ?_
  refine z_iload_n C dL_go_4 rfl 2 rfl ?_
  refine z_catchV C [true, true, true, false] rfl rfl (c_X2_go_b1 l hlt D cI cZ cJ t a ta σ τ n hI x h hx) wq_yX2_go wm_L_21 ⟨wn_yX2_go, wo_yX2_go⟩ ⟨rfl, rfl, Nat.le_of_ble_eq_true rfl, Nat.le_of_ble_eq_true rfl⟩ 0 rfl 0 rfl rfl rfl rfl (Nat.le_of_ble_eq_true rfl) dL_go_5 ⟨Nat.le_of_ble_eq_true rfl, Nat.le_of_ble_eq_true rfl⟩ [] ⟨0, 10, 13, 19⟩ [] (htab.trans rfl) (fun z hz => nomatch hz) (by decide) (by decide) wl_L_19 wt_IndexOutOfBoundsException (fun q => ?_)
  refine z_astore C (L' := [(4, .ref (q)), (0, .ref (t)), (1, .int (x)), (2, .int (h)), (3, .ref (o))]) dL_go_13 (by decide) rfl ?_
  refine z_iconst C (v := nI (1)) (by decide) dL_go_15 ?_
  rw [hQ]; exact z_iret C hr dL_go_16 ⟨rfl, rfl⟩
set_option maxHeartbeats 4000000 in
set_option maxRecDepth 100000 in
theorem c_L_go_b2 (l : Launch) (hlt : l.stackTraces = false) (D : va_G) (cI cZ cJ : ClassId) (t : Nat) (a ta : Nat → Nat) (o : Nat) (g : Nat → Int64) (σ τ : zF) (n : Nat) (hI : fl_Iv n σ) (b : Nat) (x : Int32) (hb : b < n) (hx : x < 0 ∨ nI 3 ≤ x) : zMH l D (tyL cI cZ cJ) yL_go cL_go 5 (some .int) [(0, 10, 13, 19)] ({ frames := 8, cells := 1, slots := 6, locals := 145 } : Room) [.ref (t), .int (nI (b)), .int (x), .ref (o)] [(shT t a ta, zZ), (shF a cI cZ, σ), (shF ta cI cZ, τ), ([(o, .inr (.inr (.inl (cJ, 1, .inr (.inl g)))))], zZ)] 1 6 (fun r u => r = some (.int (nI (1))) ∧ u = [(shT t a ta, zZ), (shF a cI cZ, σ), (shF ta cI cZ, τ), ([(o, .inr (.inr (.inl (cJ, 1, .inr (.inl g)))))], zZ)]) := by
  refine z_ofH (by decide) (Nat.le_of_ble_eq_true rfl) rfl ?_
  intro p e s m args below meth c A C hr htab
  obtain ⟨Q, hQ⟩ : ∃ Q, Q = MQ below (zQ (fun r u => r = some (.int (nI (1))) ∧ u = [(shT t a ta, zZ), (shF a cI cZ, σ), (shF ta cI cZ, τ), ([(o, .inr (.inr (.inl (cJ, 1, .inr (.inl g)))))], zZ)]) D (tyL cI cZ cJ) A) args s 1 6 A := ⟨_, rfl⟩
  rw [← hQ]
  refine z_aload_n C dL_go_0 rfl 3 rfl ?_
  refine z_iconst C (v := nI (0)) (by decide) dL_go_1 ?_
  refine z_aload_n C dL_go_2 rfl 0 rfl ?_
  refine z_iload_n C dL_go_3 rfl 1 rfl ?_
  refine z_iload_n C dL_go_4 rfl 2 rfl ?_
  refine z_catchV C [true, true, true, false] rfl rfl (c_X2_go_b2 l hlt D cI cZ cJ t a ta σ τ n hI b x hb hx) wq_yX2_go wm_L_21 ⟨wn_yX2_go, wo_yX2_go⟩ ⟨rfl, rfl, Nat.le_of_ble_eq_true rfl, Nat.le_of_ble_eq_true rfl⟩ 0 rfl 0 rfl rfl rfl rfl (Nat.le_of_ble_eq_true rfl) dL_go_5 ⟨Nat.le_of_ble_eq_true rfl, Nat.le_of_ble_eq_true rfl⟩ [] ⟨0, 10, 13, 19⟩ [] (htab.trans rfl) (fun z hz => nomatch hz) (by decide) (by decide) wl_L_19 wt_IndexOutOfBoundsException (fun q => ?_)
  refine z_astore C (L' := [(4, .ref (q)), (0, .ref (t)), (1, .int (nI (b))), (2, .int (x)), (3, .ref (o))]) dL_go_13 (by decide) rfl ?_
  refine z_iconst C (v := nI (1)) (by decide) dL_go_15 ?_
  rw [hQ]; exact z_iret C hr dL_go_16 ⟨rfl, rfl⟩
set_option maxHeartbeats 4000000 in
set_option maxRecDepth 100000 in
theorem c_L_sink (l : Launch) (hlt : l.stackTraces = false) (D : va_G) (cI cZ cJ : ClassId) (t : Nat) (a ta : Nat → Nat) (o : Nat) (g : Nat → Int64) (σ τ : zF) (n : Nat) (hI : fl_Iv n σ) (b : Nat) (hb : b < n) : zMH l D (tyL cI cZ cJ) yL_sink cL_sink 4 (some .int) [(0, 16, 19, 19)] (zR 8 142) [.ref (t), .int (nI (b)), .ref (o)] [(shT t a ta, zZ), (shF a cI cZ, σ), (shF ta cI cZ, τ), ([(o, .inr (.inr (.inl (cJ, 1, .inr (.inl g)))))], zZ)] 0 0 (fun r u => r = some (.int (nI (0))) ∧ u = [(shT t a ta, zZ), (shF a cI cZ, (if σ 7 b = 0 then fl_raise σ b else zU σ 7 b (nI 0))), (shF ta cI cZ, τ), ([(o, .inr (.inr (.inl (cJ, 1, .inr (.inl (vp_updL g 0 (zl (decide (σ 7 b = 0)))))))))], zZ)]) := by
  refine z_ofH (by decide) (Nat.le_of_ble_eq_true rfl) rfl ?_
  intro p e s m args below meth c A C hr htab
  obtain ⟨Q, hQ⟩ : ∃ Q, Q = MQ below (zQ (fun r u => r = some (.int (nI (0))) ∧ u = [(shT t a ta, zZ), (shF a cI cZ, (if σ 7 b = 0 then fl_raise σ b else zU σ 7 b (nI 0))), (shF ta cI cZ, τ), ([(o, .inr (.inr (.inl (cJ, 1, .inr (.inl (vp_updL g 0 (zl (decide (σ 7 b = 0)))))))))], zZ)]) D (tyL cI cZ cJ) A) args s 0 0 A := ⟨_, rfl⟩
  rw [← hQ]
  refine z_aload_n C dL_sink_0 rfl 2 rfl ?_
  refine z_iconst C (v := nI (0)) (by decide) dL_sink_1 ?_
  refine z_aload_n C dL_sink_2 rfl 0 rfl ?_
  refine z_iload_n C dL_sink_3 rfl 1 rfl ?_
  refine z_cV C (st' := [.int (zb (decide (σ 7 b = 0))), .int (nI (0)), .ref (o)]) (B' := [(shT t a ta, zZ), (shF a cI cZ, (if σ 7 b = 0 then fl_raise σ b else zU σ 7 b (nI 0))), (shF ta cI cZ, τ), ([(o, .inr (.inr (.inl (cJ, 1, .inr (.inl g)))))], zZ)]) [true, true, true, false] rfl (c_X2_sink l D cI cZ cJ t a ta σ τ n hI b hb) wq_yX2_sink wm_L_24 ⟨wn_yX2_sink, wo_yX2_sink⟩ ⟨rfl, rfl, Nat.le_of_ble_eq_true rfl, Nat.le_of_ble_eq_true rfl⟩ 0 rfl 0 rfl rfl rfl rfl (Nat.le_of_ble_eq_true rfl) dL_sink_4 ⟨Nat.le_of_ble_eq_true rfl, Nat.le_of_ble_eq_true rfl⟩ rfl rfl ?_
  refine z_if_eqB C (tgt := 14) dL_sink_7 (by decide) (fun c_7 => ?_) (fun c_7 => ?_)
  · refine z_lconst C (v := 0) (by decide) dL_sink_14 ?_
    refine z_last C (B' := [(shT t a ta, zZ), (shF a cI cZ, (if σ 7 b = 0 then fl_raise σ b else zU σ 7 b (nI 0))), (shF ta cI cZ, τ), ([(o, .inr (.inr (.inl (cJ, 1, .inr (.inl (vp_updL g 0 (0)))))))], zZ)]) 3 rfl 0 2 rfl rfl dL_sink_15 (by decide) (by decide) rfl ?_
    refine z_goto C (tgt := 22) dL_sink_16 (by decide) ?_
    refine z_iconst C (v := nI (0)) (by decide) dL_sink_22 ?_
    rw [hQ]; exact z_iret C hr dL_sink_23 ⟨rfl, congrArg (fun x => [(shT t a ta, zZ), (shF a cI cZ, (if σ 7 b = 0 then fl_raise σ b else zU σ 7 b (nI 0))), (shF ta cI cZ, τ), ([(o, .inr (.inr (.inl (cJ, 1, .inr (.inl (vp_updL g 0 x))))))], zZ)]) (by simp [zl, c_7])⟩
  · refine z_lconst C (v := 1) (by decide) dL_sink_10 ?_
    refine z_goto C (tgt := 15) dL_sink_11 (by decide) ?_
    refine z_last C (B' := [(shT t a ta, zZ), (shF a cI cZ, (if σ 7 b = 0 then fl_raise σ b else zU σ 7 b (nI 0))), (shF ta cI cZ, τ), ([(o, .inr (.inr (.inl (cJ, 1, .inr (.inl (vp_updL g 0 (1)))))))], zZ)]) 3 rfl 0 2 rfl rfl dL_sink_15 (by decide) (by decide) rfl ?_
    refine z_goto C (tgt := 22) dL_sink_16 (by decide) ?_
    refine z_iconst C (v := nI (0)) (by decide) dL_sink_22 ?_
    rw [hQ]; exact z_iret C hr dL_sink_23 ⟨rfl, congrArg (fun x => [(shT t a ta, zZ), (shF a cI cZ, (if σ 7 b = 0 then fl_raise σ b else zU σ 7 b (nI 0))), (shF ta cI cZ, τ), ([(o, .inr (.inr (.inl (cJ, 1, .inr (.inl (vp_updL g 0 x))))))], zZ)]) (by simp [zl, c_7])⟩
set_option maxHeartbeats 4000000 in
set_option maxRecDepth 100000 in
theorem c_L_sink_b1 (l : Launch) (hlt : l.stackTraces = false) (D : va_G) (cI cZ cJ : ClassId) (t : Nat) (a ta : Nat → Nat) (o : Nat) (g : Nat → Int64) (σ τ : zF) (n : Nat) (hI : fl_Iv n σ) (x : Int32) (hx : x < 0 ∨ nI n ≤ x) : zMH l D (tyL cI cZ cJ) yL_sink cL_sink 4 (some .int) [(0, 16, 19, 19)] ({ frames := 8, cells := 1, slots := 6, locals := 142 } : Room) [.ref (t), .int (x), .ref (o)] [(shT t a ta, zZ), (shF a cI cZ, σ), (shF ta cI cZ, τ), ([(o, .inr (.inr (.inl (cJ, 1, .inr (.inl g)))))], zZ)] 1 6 (fun r u => r = some (.int (nI (1))) ∧ u = [(shT t a ta, zZ), (shF a cI cZ, σ), (shF ta cI cZ, τ), ([(o, .inr (.inr (.inl (cJ, 1, .inr (.inl g)))))], zZ)]) := by
  refine z_ofH (by decide) (Nat.le_of_ble_eq_true rfl) rfl ?_
  intro p e s m args below meth c A C hr htab
  obtain ⟨Q, hQ⟩ : ∃ Q, Q = MQ below (zQ (fun r u => r = some (.int (nI (1))) ∧ u = [(shT t a ta, zZ), (shF a cI cZ, σ), (shF ta cI cZ, τ), ([(o, .inr (.inr (.inl (cJ, 1, .inr (.inl g)))))], zZ)]) D (tyL cI cZ cJ) A) args s 1 6 A := ⟨_, rfl⟩
  rw [← hQ]
  refine z_aload_n C dL_sink_0 rfl 2 rfl ?_
  refine z_iconst C (v := nI (0)) (by decide) dL_sink_1 ?_
  refine z_aload_n C dL_sink_2 rfl 0 rfl ?_
  refine z_iload_n C dL_sink_3 rfl 1 rfl ?_
  refine z_catchV C [true, true, true, false] rfl rfl (c_X2_sink_b1 l hlt D cI cZ cJ t a ta σ τ n hI x hx) wq_yX2_sink wm_L_24 ⟨wn_yX2_sink, wo_yX2_sink⟩ ⟨rfl, rfl, Nat.le_of_ble_eq_true rfl, Nat.le_of_ble_eq_true rfl⟩ 0 rfl 0 rfl rfl rfl rfl (Nat.le_of_ble_eq_true rfl) dL_sink_4 ⟨Nat.le_of_ble_eq_true rfl, Nat.le_of_ble_eq_true rfl⟩ [] ⟨0, 16, 19, 19⟩ [] (htab.trans rfl) (fun z hz => nomatch hz) (by decide) (by decide) wl_L_19 wt_IndexOutOfBoundsException (fun q => ?_)
  refine z_astore_n C (L' := [(3, .ref (q)), (0, .ref (t)), (1, .int (x)), (2, .ref (o))]) dL_sink_19 rfl (by decide) rfl ?_
  refine z_iconst C (v := nI (1)) (by decide) dL_sink_20 ?_
  rw [hQ]; exact z_iret C hr dL_sink_21 ⟨rfl, rfl⟩
set_option maxHeartbeats 4000000 in
set_option maxRecDepth 100000 in
theorem c_L_write (l : Launch) (hlt : l.stackTraces = false) (D : va_G) (cI cZ cJ : ClassId) (t : Nat) (a ta : Nat → Nat) (o : Nat) (g : Nat → Int64) (σ τ : zF) (n : Nat) (hI : fl_Iv n σ) (b : Nat) (f : Nat) (hb : b < n) (hf : f ≤ 99) (hl : fl_lead σ b = true) (hk : fl_ln σ b < 10) : zMH l D (tyL cI cZ cJ) yL_write cL_write 5 (some .int) [(0, 10, 13, 19), (0, 10, 17, 13), (0, 10, 21, 31)] (zR 8 143) [.ref (t), .int (nI (b)), .int (nI (f)), .ref (o)] [(shT t a ta, zZ), (shF a cI cZ, σ), (shF ta cI cZ, τ), ([(o, .inr (.inr (.inl (cJ, 1, .inr (.inl g)))))], zZ)] 0 0 (fun r u => r = some (.int (nI (0))) ∧ u = [(shT t a ta, zZ), (shF a cI cZ, (fl_app σ b (σ 3 b) (nI f))), (shF ta cI cZ, τ), ([(o, .inr (.inr (.inl (cJ, 1, .inr (.inl (vp_updL g 0 ((nI (fl_ln σ b)).toInt64)))))))], zZ)]) := by
  refine z_ofH (by decide) (Nat.le_of_ble_eq_true rfl) rfl ?_
  intro p e s m args below meth c A C hr htab
  obtain ⟨Q, hQ⟩ : ∃ Q, Q = MQ below (zQ (fun r u => r = some (.int (nI (0))) ∧ u = [(shT t a ta, zZ), (shF a cI cZ, (fl_app σ b (σ 3 b) (nI f))), (shF ta cI cZ, τ), ([(o, .inr (.inr (.inl (cJ, 1, .inr (.inl (vp_updL g 0 ((nI (fl_ln σ b)).toInt64)))))))], zZ)]) D (tyL cI cZ cJ) A) args s 0 0 A := ⟨_, rfl⟩
  rw [← hQ]
  refine z_aload_n C dL_write_0 rfl 3 rfl ?_
  refine z_iconst C (v := nI (0)) (by decide) dL_write_1 ?_
  refine z_aload_n C dL_write_2 rfl 0 rfl ?_
  refine z_iload_n C dL_write_3 rfl 1 rfl ?_
  refine z_iload_n C dL_write_4 rfl 2 rfl ?_
  refine z_cV C (st' := [.int (nI (fl_ln σ b)), .int (nI (0)), .ref (o)]) (B' := [(shT t a ta, zZ), (shF a cI cZ, (fl_app σ b (σ 3 b) (nI f))), (shF ta cI cZ, τ), ([(o, .inr (.inr (.inl (cJ, 1, .inr (.inl g)))))], zZ)]) [true, true, true, false] rfl (c_X2_write l D cI cZ cJ t a ta σ τ n hI b f hb hf hl hk) wq_yX2_write wm_L_28 ⟨wn_yX2_write, wo_yX2_write⟩ ⟨rfl, rfl, Nat.le_of_ble_eq_true rfl, Nat.le_of_ble_eq_true rfl⟩ 0 rfl 0 rfl rfl rfl rfl (Nat.le_of_ble_eq_true rfl) dL_write_5 ⟨Nat.le_of_ble_eq_true rfl, Nat.le_of_ble_eq_true rfl⟩ rfl rfl ?_
  refine z_i2l C (v := (nI (fl_ln σ b)).toInt64) rfl dL_write_8 ?_
  refine z_last C (B' := [(shT t a ta, zZ), (shF a cI cZ, (fl_app σ b (σ 3 b) (nI f))), (shF ta cI cZ, τ), ([(o, .inr (.inr (.inl (cJ, 1, .inr (.inl (vp_updL g 0 ((nI (fl_ln σ b)).toInt64)))))))], zZ)]) 3 rfl 0 2 rfl rfl dL_write_9 (by decide) (by decide) rfl ?_
  refine z_goto C (tgt := 25) dL_write_10 (by decide) ?_
  refine z_iconst C (v := nI (0)) (by decide) dL_write_25 ?_
  rw [hQ]; exact z_iret C hr dL_write_26 ⟨rfl, rfl⟩
set_option maxHeartbeats 4000000 in
set_option maxRecDepth 100000 in
theorem c_L_write_b1 (l : Launch) (hlt : l.stackTraces = false) (D : va_G) (cI cZ cJ : ClassId) (t : Nat) (a ta : Nat → Nat) (o : Nat) (g : Nat → Int64) (σ τ : zF) (n : Nat) (hI : fl_Iv n σ) (x : Int32) (f : Int32) (hx : x < 0 ∨ nI n ≤ x) : zMH l D (tyL cI cZ cJ) yL_write cL_write 5 (some .int) [(0, 10, 13, 19), (0, 10, 17, 13), (0, 10, 21, 31)] ({ frames := 8, cells := 1, slots := 6, locals := 143 } : Room) [.ref (t), .int (x), .int (f), .ref (o)] [(shT t a ta, zZ), (shF a cI cZ, σ), (shF ta cI cZ, τ), ([(o, .inr (.inr (.inl (cJ, 1, .inr (.inl g)))))], zZ)] 1 6 (fun r u => r = some (.int (nI (1))) ∧ u = [(shT t a ta, zZ), (shF a cI cZ, σ), (shF ta cI cZ, τ), ([(o, .inr (.inr (.inl (cJ, 1, .inr (.inl g)))))], zZ)]) := by
  refine z_ofH (by decide) (Nat.le_of_ble_eq_true rfl) rfl ?_
  intro p e s m args below meth c A C hr htab
  obtain ⟨Q, hQ⟩ : ∃ Q, Q = MQ below (zQ (fun r u => r = some (.int (nI (1))) ∧ u = [(shT t a ta, zZ), (shF a cI cZ, σ), (shF ta cI cZ, τ), ([(o, .inr (.inr (.inl (cJ, 1, .inr (.inl g)))))], zZ)]) D (tyL cI cZ cJ) A) args s 1 6 A := ⟨_, rfl⟩
  rw [← hQ]
  refine z_aload_n C dL_write_0 rfl 3 rfl ?_
  refine z_iconst C (v := nI (0)) (by decide) dL_write_1 ?_
  refine z_aload_n C dL_write_2 rfl 0 rfl ?_
  refine z_iload_n C dL_write_3 rfl 1 rfl ?_
  refine z_iload_n C dL_write_4 rfl 2 rfl ?_
  refine z_catchV C [true, true, true, false] rfl rfl (c_X2_write_b1 l hlt D cI cZ cJ t a ta σ τ n hI x f hx) wq_yX2_write wm_L_28 ⟨wn_yX2_write, wo_yX2_write⟩ ⟨rfl, rfl, Nat.le_of_ble_eq_true rfl, Nat.le_of_ble_eq_true rfl⟩ 0 rfl 0 rfl rfl rfl rfl (Nat.le_of_ble_eq_true rfl) dL_write_5 ⟨Nat.le_of_ble_eq_true rfl, Nat.le_of_ble_eq_true rfl⟩ [] ⟨0, 10, 13, 19⟩ [⟨0, 10, 17, 13⟩, ⟨0, 10, 21, 31⟩] (htab.trans rfl) (fun z hz => nomatch hz) (by decide) (by decide) wl_L_19 wt_IndexOutOfBoundsException (fun q => ?_)
  refine z_astore C (L' := [(4, .ref (q)), (0, .ref (t)), (1, .int (x)), (2, .int (f)), (3, .ref (o))]) dL_write_13 (by decide) rfl ?_
  refine z_iconst C (v := nI (1)) (by decide) dL_write_15 ?_
  rw [hQ]; exact z_iret C hr dL_write_16 ⟨rfl, rfl⟩
set_option maxHeartbeats 4000000 in
set_option maxRecDepth 100000 in
theorem c_L_write_b2 (l : Launch) (hlt : l.stackTraces = false) (D : va_G) (cI cZ cJ : ClassId) (t : Nat) (a ta : Nat → Nat) (o : Nat) (g : Nat → Int64) (σ τ : zF) (n : Nat) (hI : fl_Iv n σ) (b : Nat) (x : Int32) (hb : b < n) (hx : x < 0 ∨ nI 99 < x) : zMH l D (tyL cI cZ cJ) yL_write cL_write 5 (some .int) [(0, 10, 13, 19), (0, 10, 17, 13), (0, 10, 21, 31)] ({ frames := 8, cells := 1, slots := 6, locals := 143 } : Room) [.ref (t), .int (nI (b)), .int (x), .ref (o)] [(shT t a ta, zZ), (shF a cI cZ, σ), (shF ta cI cZ, τ), ([(o, .inr (.inr (.inl (cJ, 1, .inr (.inl g)))))], zZ)] 1 6 (fun r u => r = some (.int (nI (2))) ∧ u = [(shT t a ta, zZ), (shF a cI cZ, σ), (shF ta cI cZ, τ), ([(o, .inr (.inr (.inl (cJ, 1, .inr (.inl g)))))], zZ)]) := by
  refine z_ofH (by decide) (Nat.le_of_ble_eq_true rfl) rfl ?_
  intro p e s m args below meth c A C hr htab
  obtain ⟨Q, hQ⟩ : ∃ Q, Q = MQ below (zQ (fun r u => r = some (.int (nI (2))) ∧ u = [(shT t a ta, zZ), (shF a cI cZ, σ), (shF ta cI cZ, τ), ([(o, .inr (.inr (.inl (cJ, 1, .inr (.inl g)))))], zZ)]) D (tyL cI cZ cJ) A) args s 1 6 A := ⟨_, rfl⟩
  rw [← hQ]
  refine z_aload_n C dL_write_0 rfl 3 rfl ?_
  refine z_iconst C (v := nI (0)) (by decide) dL_write_1 ?_
  refine z_aload_n C dL_write_2 rfl 0 rfl ?_
  refine z_iload_n C dL_write_3 rfl 1 rfl ?_
  refine z_iload_n C dL_write_4 rfl 2 rfl ?_
  refine z_catchV C [true, true, true, false] rfl rfl (c_X2_write_b2 l hlt D cI cZ cJ t a ta σ τ n hI b x hb hx) wq_yX2_write wm_L_28 ⟨wn_yX2_write, wo_yX2_write⟩ ⟨rfl, rfl, Nat.le_of_ble_eq_true rfl, Nat.le_of_ble_eq_true rfl⟩ 0 rfl 0 rfl rfl rfl rfl (Nat.le_of_ble_eq_true rfl) dL_write_5 ⟨Nat.le_of_ble_eq_true rfl, Nat.le_of_ble_eq_true rfl⟩ [⟨0, 10, 13, 19⟩] ⟨0, 10, 17, 13⟩ [⟨0, 10, 21, 31⟩] (htab.trans rfl) (fun z hz => by
      rcases List.mem_cons.mp hz with rfl | hz
      · exact Or.inr ⟨by decide, "java/lang/IndexOutOfBoundsException", wl_L_19, by decide⟩
      · exact nomatch hz) (by decide) (by decide) wl_L_13 wt_IllegalArgumentException (fun q => ?_)
  refine z_astore C (L' := [(4, .ref (q)), (0, .ref (t)), (1, .int (nI (b))), (2, .int (x)), (3, .ref (o))]) dL_write_17 (by decide) rfl ?_
  refine z_iconst C (v := nI (2)) (by decide) dL_write_19 ?_
  rw [hQ]; exact z_iret C hr dL_write_20 ⟨rfl, rfl⟩
set_option maxHeartbeats 4000000 in
set_option maxRecDepth 100000 in
theorem c_L_write_b3 (l : Launch) (hlt : l.stackTraces = false) (D : va_G) (cI cZ cJ : ClassId) (t : Nat) (a ta : Nat → Nat) (o : Nat) (g : Nat → Int64) (σ τ : zF) (n : Nat) (hI : fl_Iv n σ) (b : Nat) (f : Nat) (hb : b < n) (hf : f ≤ 99) (hl : fl_lead σ b = false) : zMH l D (tyL cI cZ cJ) yL_write cL_write 5 (some .int) [(0, 10, 13, 19), (0, 10, 17, 13), (0, 10, 21, 31)] ({ frames := 8, cells := 1, slots := 6, locals := 143 } : Room) [.ref (t), .int (nI (b)), .int (nI (f)), .ref (o)] [(shT t a ta, zZ), (shF a cI cZ, σ), (shF ta cI cZ, τ), ([(o, .inr (.inr (.inl (cJ, 1, .inr (.inl g)))))], zZ)] 1 6 (fun r u => r = some (.int (nI (3))) ∧ u = [(shT t a ta, zZ), (shF a cI cZ, σ), (shF ta cI cZ, τ), ([(o, .inr (.inr (.inl (cJ, 1, .inr (.inl g)))))], zZ)]) := by
  refine z_ofH (by decide) (Nat.le_of_ble_eq_true rfl) rfl ?_
  intro p e s m args below meth c A C hr htab
  obtain ⟨Q, hQ⟩ : ∃ Q, Q = MQ below (zQ (fun r u => r = some (.int (nI (3))) ∧ u = [(shT t a ta, zZ), (shF a cI cZ, σ), (shF ta cI cZ, τ), ([(o, .inr (.inr (.inl (cJ, 1, .inr (.inl g)))))], zZ)]) D (tyL cI cZ cJ) A) args s 1 6 A := ⟨_, rfl⟩
  rw [← hQ]
  refine z_aload_n C dL_write_0 rfl 3 rfl ?_
  refine z_iconst C (v := nI (0)) (by decide) dL_write_1 ?_
  refine z_aload_n C dL_write_2 rfl 0 rfl ?_
  refine z_iload_n C dL_write_3 rfl 1 rfl ?_
  refine z_iload_n C dL_write_4 rfl 2 rfl ?_
  refine z_catchV C [true, true, true, false] rfl rfl (c_X2_write_b3 l hlt D cI cZ cJ t a ta σ τ n hI b f hb hf hl) wq_yX2_write wm_L_28 ⟨wn_yX2_write, wo_yX2_write⟩ ⟨rfl, rfl, Nat.le_of_ble_eq_true rfl, Nat.le_of_ble_eq_true rfl⟩ 0 rfl 0 rfl rfl rfl rfl (Nat.le_of_ble_eq_true rfl) dL_write_5 ⟨Nat.le_of_ble_eq_true rfl, Nat.le_of_ble_eq_true rfl⟩ [⟨0, 10, 13, 19⟩, ⟨0, 10, 17, 13⟩] ⟨0, 10, 21, 31⟩ [] (htab.trans rfl) (fun z hz => by
      rcases List.mem_cons.mp hz with rfl | hz
      · exact Or.inr ⟨by decide, "java/lang/IndexOutOfBoundsException", wl_L_19, by decide⟩
      rcases List.mem_cons.mp hz with rfl | hz
      · exact Or.inr ⟨by decide, "java/lang/IllegalArgumentException", wl_L_13, by decide⟩
      · exact nomatch hz) (by decide) (by decide) wl_L_31 wt_IllegalStateException (fun q => ?_)
  refine z_astore C (L' := [(4, .ref (q)), (0, .ref (t)), (1, .int (nI (b))), (2, .int (nI (f))), (3, .ref (o))]) dL_write_21 (by decide) rfl ?_
  refine z_iconst C (v := nI (3)) (by decide) dL_write_23 ?_
  rw [hQ]; exact z_iret C hr dL_write_24 ⟨rfl, rfl⟩
set_option maxHeartbeats 4000000 in
set_option maxRecDepth 100000 in
theorem c_L_write_b4 (l : Launch) (hlt : l.stackTraces = false) (D : va_G) (cI cZ cJ : ClassId) (t : Nat) (a ta : Nat → Nat) (o : Nat) (g : Nat → Int64) (σ τ : zF) (n : Nat) (hI : fl_Iv n σ) (b : Nat) (f : Nat) (hb : b < n) (hf : f ≤ 99) (hl : fl_lead σ b = true) (hk : 10 ≤ fl_ln σ b) : zMH l D (tyL cI cZ cJ) yL_write cL_write 5 (some .int) [(0, 10, 13, 19), (0, 10, 17, 13), (0, 10, 21, 31)] ({ frames := 8, cells := 1, slots := 6, locals := 143 } : Room) [.ref (t), .int (nI (b)), .int (nI (f)), .ref (o)] [(shT t a ta, zZ), (shF a cI cZ, σ), (shF ta cI cZ, τ), ([(o, .inr (.inr (.inl (cJ, 1, .inr (.inl g)))))], zZ)] 1 6 (fun r u => r = some (.int (nI (3))) ∧ u = [(shT t a ta, zZ), (shF a cI cZ, σ), (shF ta cI cZ, τ), ([(o, .inr (.inr (.inl (cJ, 1, .inr (.inl g)))))], zZ)]) := by
  refine z_ofH (by decide) (Nat.le_of_ble_eq_true rfl) rfl ?_
  intro p e s m args below meth c A C hr htab
  obtain ⟨Q, hQ⟩ : ∃ Q, Q = MQ below (zQ (fun r u => r = some (.int (nI (3))) ∧ u = [(shT t a ta, zZ), (shF a cI cZ, σ), (shF ta cI cZ, τ), ([(o, .inr (.inr (.inl (cJ, 1, .inr (.inl g)))))], zZ)]) D (tyL cI cZ cJ) A) args s 1 6 A := ⟨_, rfl⟩
  rw [← hQ]
  refine z_aload_n C dL_write_0 rfl 3 rfl ?_
  refine z_iconst C (v := nI (0)) (by decide) dL_write_1 ?_
  refine z_aload_n C dL_write_2 rfl 0 rfl ?_
  refine z_iload_n C dL_write_3 rfl 1 rfl ?_
  refine z_iload_n C dL_write_4 rfl 2 rfl ?_
  refine z_catchV C [true, true, true, false] rfl rfl (c_X2_write_b4 l hlt D cI cZ cJ t a ta σ τ n hI b f hb hf hl hk) wq_yX2_write wm_L_28 ⟨wn_yX2_write, wo_yX2_write⟩ ⟨rfl, rfl, Nat.le_of_ble_eq_true rfl, Nat.le_of_ble_eq_true rfl⟩ 0 rfl 0 rfl rfl rfl rfl (Nat.le_of_ble_eq_true rfl) dL_write_5 ⟨Nat.le_of_ble_eq_true rfl, Nat.le_of_ble_eq_true rfl⟩ [⟨0, 10, 13, 19⟩, ⟨0, 10, 17, 13⟩] ⟨0, 10, 21, 31⟩ [] (htab.trans rfl) (fun z hz => by
      rcases List.mem_cons.mp hz with rfl | hz
      · exact Or.inr ⟨by decide, "java/lang/IndexOutOfBoundsException", wl_L_19, by decide⟩
      rcases List.mem_cons.mp hz with rfl | hz
      · exact Or.inr ⟨by decide, "java/lang/IllegalArgumentException", wl_L_13, by decide⟩
      · exact nomatch hz) (by decide) (by decide) wl_L_31 wt_IllegalStateException (fun q => ?_)
  refine z_astore C (L' := [(4, .ref (q)), (0, .ref (t)), (1, .int (nI (b))), (2, .int (nI (f))), (3, .ref (o))]) dL_write_21 (by decide) rfl ?_
  refine z_iconst C (v := nI (3)) (by decide) dL_write_23 ?_
  rw [hQ]; exact z_iret C hr dL_write_24 ⟨rfl, rfl⟩
set_option maxHeartbeats 4000000 in
set_option maxRecDepth 100000 in
theorem c_L_pass (l : Launch) (hlt : l.stackTraces = false) (D : va_G) (cI cZ cJ : ClassId) (t : Nat) (a ta : Nat → Nat) (o : Nat) (g : Nat → Int64) (σ τ : zF) (n : Nat) (hI : fl_Iv n σ) (h : Nat) (h1 : 1 ≤ h) (h50 : h ≤ 50) : zMH l D (tyL cI cZ cJ) yL_pass cL_pass 4 (some .int) [(0, 9, 12, 13)] (zR 8 179) [.ref (t), .int (nI (h)), .ref (o)] [(shT t a ta, zZ), (shF a cI cZ, σ), (shF ta cI cZ, τ), ([(o, .inr (.inr (.inl (cJ, 1, .inr (.inl g)))))], zZ)] 0 0 (fun r u => r = some (.int (nI (0))) ∧ u = [(shT t a ta, zZ), (shF a cI cZ, (fl_hours n h σ)), (shF ta cI cZ, τ), ([(o, .inr (.inr (.inl (cJ, 1, .inr (.inl (vp_updL g 0 (((fl_hours n h σ) 0 (3) - σ 0 (3)).toInt64)))))))], zZ)]) := by
  refine z_ofH (by decide) (Nat.le_of_ble_eq_true rfl) rfl ?_
  intro p e s m args below meth c A C hr htab
  obtain ⟨Q, hQ⟩ : ∃ Q, Q = MQ below (zQ (fun r u => r = some (.int (nI (0))) ∧ u = [(shT t a ta, zZ), (shF a cI cZ, (fl_hours n h σ)), (shF ta cI cZ, τ), ([(o, .inr (.inr (.inl (cJ, 1, .inr (.inl (vp_updL g 0 (((fl_hours n h σ) 0 (3) - σ 0 (3)).toInt64)))))))], zZ)]) D (tyL cI cZ cJ) A) args s 0 0 A := ⟨_, rfl⟩
  rw [← hQ]
  refine z_aload_n C dL_pass_0 rfl 2 rfl ?_
  refine z_iconst C (v := nI (0)) (by decide) dL_pass_1 ?_
  refine z_aload_n C dL_pass_2 rfl 0 rfl ?_
  refine z_iload_n C dL_pass_3 rfl 1 rfl ?_
  refine z_cV C (st' := [.int ((fl_hours n h σ) 0 (3) - σ 0 (3)), .int (nI (0)), .ref (o)]) (B' := [(shT t a ta, zZ), (shF a cI cZ, (fl_hours n h σ)), (shF ta cI cZ, τ), ([(o, .inr (.inr (.inl (cJ, 1, .inr (.inl g)))))], zZ)]) [true, true, true, false] rfl (c_X2_pass l D cI cZ cJ t a ta σ τ n hI h h1 h50) wq_yX2_pass wm_L_33 ⟨wn_yX2_pass, wo_yX2_pass⟩ ⟨rfl, rfl, Nat.le_of_ble_eq_true rfl, Nat.le_of_ble_eq_true rfl⟩ 0 rfl 0 rfl rfl rfl rfl (Nat.le_of_ble_eq_true rfl) dL_pass_4 ⟨Nat.le_of_ble_eq_true rfl, Nat.le_of_ble_eq_true rfl⟩ rfl rfl ?_
  refine z_i2l C (v := ((fl_hours n h σ) 0 (3) - σ 0 (3)).toInt64) rfl dL_pass_7 ?_
  refine z_last C (B' := [(shT t a ta, zZ), (shF a cI cZ, (fl_hours n h σ)), (shF ta cI cZ, τ), ([(o, .inr (.inr (.inl (cJ, 1, .inr (.inl (vp_updL g 0 (((fl_hours n h σ) 0 (3) - σ 0 (3)).toInt64)))))))], zZ)]) 3 rfl 0 2 rfl rfl dL_pass_8 (by decide) (by decide) rfl ?_
  refine z_goto C (tgt := 15) dL_pass_9 (by decide) ?_
  refine z_iconst C (v := nI (0)) (by decide) dL_pass_15 ?_
  rw [hQ]; exact z_iret C hr dL_pass_16 ⟨rfl, rfl⟩
set_option maxHeartbeats 4000000 in
set_option maxRecDepth 100000 in
theorem c_L_pass_b1 (l : Launch) (hlt : l.stackTraces = false) (D : va_G) (cI cZ cJ : ClassId) (t : Nat) (a ta : Nat → Nat) (o : Nat) (g : Nat → Int64) (σ τ : zF) (n : Nat) (hI : fl_Iv n σ) (x : Int32) (hx : x < nI 1 ∨ nI 50 < x) : zMH l D (tyL cI cZ cJ) yL_pass cL_pass 4 (some .int) [(0, 9, 12, 13)] ({ frames := 8, cells := 1, slots := 6, locals := 179 } : Room) [.ref (t), .int (x), .ref (o)] [(shT t a ta, zZ), (shF a cI cZ, σ), (shF ta cI cZ, τ), ([(o, .inr (.inr (.inl (cJ, 1, .inr (.inl g)))))], zZ)] 1 6 (fun r u => r = some (.int (nI (1))) ∧ u = [(shT t a ta, zZ), (shF a cI cZ, σ), (shF ta cI cZ, τ), ([(o, .inr (.inr (.inl (cJ, 1, .inr (.inl g)))))], zZ)]) := by
  refine z_ofH (by decide) (Nat.le_of_ble_eq_true rfl) rfl ?_
  intro p e s m args below meth c A C hr htab
  obtain ⟨Q, hQ⟩ : ∃ Q, Q = MQ below (zQ (fun r u => r = some (.int (nI (1))) ∧ u = [(shT t a ta, zZ), (shF a cI cZ, σ), (shF ta cI cZ, τ), ([(o, .inr (.inr (.inl (cJ, 1, .inr (.inl g)))))], zZ)]) D (tyL cI cZ cJ) A) args s 1 6 A := ⟨_, rfl⟩
  rw [← hQ]
  refine z_aload_n C dL_pass_0 rfl 2 rfl ?_
  refine z_iconst C (v := nI (0)) (by decide) dL_pass_1 ?_
  refine z_aload_n C dL_pass_2 rfl 0 rfl ?_
  refine z_iload_n C dL_pass_3 rfl 1 rfl ?_
  refine z_catchV C [true, true, true, false] rfl rfl (c_X2_pass_b1 l hlt D cI cZ cJ t a ta σ τ n hI x hx) wq_yX2_pass wm_L_33 ⟨wn_yX2_pass, wo_yX2_pass⟩ ⟨rfl, rfl, Nat.le_of_ble_eq_true rfl, Nat.le_of_ble_eq_true rfl⟩ 0 rfl 0 rfl rfl rfl rfl (Nat.le_of_ble_eq_true rfl) dL_pass_4 ⟨Nat.le_of_ble_eq_true rfl, Nat.le_of_ble_eq_true rfl⟩ [] ⟨0, 9, 12, 13⟩ [] (htab.trans rfl) (fun z hz => nomatch hz) (by decide) (by decide) wl_L_13 wt_IllegalArgumentException (fun q => ?_)
  refine z_astore_n C (L' := [(3, .ref (q)), (0, .ref (t)), (1, .int (x)), (2, .ref (o))]) dL_pass_12 rfl (by decide) rfl ?_
  refine z_iconst C (v := nI (1)) (by decide) dL_pass_13 ?_
  rw [hQ]; exact z_iret C hr dL_pass_14 ⟨rfl, rfl⟩
set_option maxHeartbeats 4000000 in
set_option maxRecDepth 100000 in
theorem c_L_told (l : Launch) (hlt : l.stackTraces = false) (D : va_G) (cI cZ cJ : ClassId) (t : Nat) (a ta : Nat → Nat) (o : Nat) (g : Nat → Int64) (σ τ : zF) (n : Nat) (hI : fl_Iv n σ) (b : Nat) (w : Nat) (hb : b < n) (hw : w < 10) : zMH l D (tyL cI cZ cJ) yL_told cL_told 5 (some .int) [(0, 10, 13, 19)] (zR 8 144) [.ref (t), .int (nI (b)), .int (nI (w)), .ref (o)] [(shT t a ta, zZ), (shF a cI cZ, σ), (shF ta cI cZ, τ), ([(o, .inr (.inr (.inl (cJ, 1, .inr (.inl g)))))], zZ)] 0 0 (fun r u => r = some (.int (nI (0))) ∧ u = [(shT t a ta, zZ), (shF a cI cZ, σ), (shF ta cI cZ, τ), ([(o, .inr (.inr (.inl (cJ, 1, .inr (.inl (vp_updL g 0 ((fl_ofB σ b w).toInt64)))))))], zZ)]) := by
  refine z_ofH (by decide) (Nat.le_of_ble_eq_true rfl) rfl ?_
  intro p e s m args below meth c A C hr htab
  obtain ⟨Q, hQ⟩ : ∃ Q, Q = MQ below (zQ (fun r u => r = some (.int (nI (0))) ∧ u = [(shT t a ta, zZ), (shF a cI cZ, σ), (shF ta cI cZ, τ), ([(o, .inr (.inr (.inl (cJ, 1, .inr (.inl (vp_updL g 0 ((fl_ofB σ b w).toInt64)))))))], zZ)]) D (tyL cI cZ cJ) A) args s 0 0 A := ⟨_, rfl⟩
  rw [← hQ]
  refine z_aload_n C dL_told_0 rfl 3 rfl ?_
  refine z_iconst C (v := nI (0)) (by decide) dL_told_1 ?_
  refine z_aload_n C dL_told_2 rfl 0 rfl ?_
  refine z_iload_n C dL_told_3 rfl 1 rfl ?_
  refine z_iload_n C dL_told_4 rfl 2 rfl ?_
  refine z_cV C (st' := [.int (fl_ofB σ b w), .int (nI (0)), .ref (o)]) (B' := [(shT t a ta, zZ), (shF a cI cZ, σ), (shF ta cI cZ, τ), ([(o, .inr (.inr (.inl (cJ, 1, .inr (.inl g)))))], zZ)]) [true, true, true, false] rfl (c_X2_told l D cI cZ cJ t a ta σ τ n hI b w hb hw) wq_yX2_told wm_L_36 ⟨wn_yX2_told, wo_yX2_told⟩ ⟨rfl, rfl, Nat.le_of_ble_eq_true rfl, Nat.le_of_ble_eq_true rfl⟩ 0 rfl 0 rfl rfl rfl rfl (Nat.le_of_ble_eq_true rfl) dL_told_5 ⟨Nat.le_of_ble_eq_true rfl, Nat.le_of_ble_eq_true rfl⟩ rfl rfl ?_
  refine z_i2l C (v := (fl_ofB σ b w).toInt64) rfl dL_told_8 ?_
  refine z_last C (B' := [(shT t a ta, zZ), (shF a cI cZ, σ), (shF ta cI cZ, τ), ([(o, .inr (.inr (.inl (cJ, 1, .inr (.inl (vp_updL g 0 ((fl_ofB σ b w).toInt64)))))))], zZ)]) 3 rfl 0 2 rfl rfl dL_told_9 (by decide) (by decide) rfl ?_
  refine z_goto C (tgt := 17) dL_told_10 (by decide) ?_
  refine z_iconst C (v := nI (0)) (by decide) dL_told_17 ?_
  rw [hQ]; exact z_iret C hr dL_told_18 ⟨rfl, rfl⟩
set_option maxHeartbeats 4000000 in
set_option maxRecDepth 100000 in
theorem c_L_told_b1 (l : Launch) (hlt : l.stackTraces = false) (D : va_G) (cI cZ cJ : ClassId) (t : Nat) (a ta : Nat → Nat) (o : Nat) (g : Nat → Int64) (σ τ : zF) (n : Nat) (hI : fl_Iv n σ) (x : Int32) (w : Int32) (hx : x < 0 ∨ nI n ≤ x) : zMH l D (tyL cI cZ cJ) yL_told cL_told 5 (some .int) [(0, 10, 13, 19)] ({ frames := 8, cells := 1, slots := 6, locals := 144 } : Room) [.ref (t), .int (x), .int (w), .ref (o)] [(shT t a ta, zZ), (shF a cI cZ, σ), (shF ta cI cZ, τ), ([(o, .inr (.inr (.inl (cJ, 1, .inr (.inl g)))))], zZ)] 1 6 (fun r u => r = some (.int (nI (1))) ∧ u = [(shT t a ta, zZ), (shF a cI cZ, σ), (shF ta cI cZ, τ), ([(o, .inr (.inr (.inl (cJ, 1, .inr (.inl g)))))], zZ)]) := by
  refine z_ofH (by decide) (Nat.le_of_ble_eq_true rfl) rfl ?_
  intro p e s m args below meth c A C hr htab
  obtain ⟨Q, hQ⟩ : ∃ Q, Q = MQ below (zQ (fun r u => r = some (.int (nI (1))) ∧ u = [(shT t a ta, zZ), (shF a cI cZ, σ), (shF ta cI cZ, τ), ([(o, .inr (.inr (.inl (cJ, 1, .inr (.inl g)))))], zZ)]) D (tyL cI cZ cJ) A) args s 1 6 A := ⟨_, rfl⟩
  rw [← hQ]
  refine z_aload_n C dL_told_0 rfl 3 rfl ?_
  refine z_iconst C (v := nI (0)) (by decide) dL_told_1 ?_
  refine z_aload_n C dL_told_2 rfl 0 rfl ?_
  refine z_iload_n C dL_told_3 rfl 1 rfl ?_
  refine z_iload_n C dL_told_4 rfl 2 rfl ?_
  refine z_catchV C [true, true, true, false] rfl rfl (c_X2_told_b1 l hlt D cI cZ cJ t a ta σ τ n hI x w hx) wq_yX2_told wm_L_36 ⟨wn_yX2_told, wo_yX2_told⟩ ⟨rfl, rfl, Nat.le_of_ble_eq_true rfl, Nat.le_of_ble_eq_true rfl⟩ 0 rfl 0 rfl rfl rfl rfl (Nat.le_of_ble_eq_true rfl) dL_told_5 ⟨Nat.le_of_ble_eq_true rfl, Nat.le_of_ble_eq_true rfl⟩ [] ⟨0, 10, 13, 19⟩ [] (htab.trans rfl) (fun z hz => nomatch hz) (by decide) (by decide) wl_L_19 wt_IndexOutOfBoundsException (fun q => ?_)
  refine z_astore C (L' := [(4, .ref (q)), (0, .ref (t)), (1, .int (x)), (2, .int (w)), (3, .ref (o))]) dL_told_13 (by decide) rfl ?_
  refine z_iconst C (v := nI (1)) (by decide) dL_told_15 ?_
  rw [hQ]; exact z_iret C hr dL_told_16 ⟨rfl, rfl⟩
set_option maxHeartbeats 4000000 in
set_option maxRecDepth 100000 in
theorem c_L_told_b2 (l : Launch) (hlt : l.stackTraces = false) (D : va_G) (cI cZ cJ : ClassId) (t : Nat) (a ta : Nat → Nat) (o : Nat) (g : Nat → Int64) (σ τ : zF) (n : Nat) (hI : fl_Iv n σ) (b : Nat) (x : Int32) (hb : b < n) (hx : x < 0 ∨ nI 10 ≤ x) : zMH l D (tyL cI cZ cJ) yL_told cL_told 5 (some .int) [(0, 10, 13, 19)] ({ frames := 8, cells := 1, slots := 6, locals := 144 } : Room) [.ref (t), .int (nI (b)), .int (x), .ref (o)] [(shT t a ta, zZ), (shF a cI cZ, σ), (shF ta cI cZ, τ), ([(o, .inr (.inr (.inl (cJ, 1, .inr (.inl g)))))], zZ)] 1 6 (fun r u => r = some (.int (nI (1))) ∧ u = [(shT t a ta, zZ), (shF a cI cZ, σ), (shF ta cI cZ, τ), ([(o, .inr (.inr (.inl (cJ, 1, .inr (.inl g)))))], zZ)]) := by
  refine z_ofH (by decide) (Nat.le_of_ble_eq_true rfl) rfl ?_
  intro p e s m args below meth c A C hr htab
  obtain ⟨Q, hQ⟩ : ∃ Q, Q = MQ below (zQ (fun r u => r = some (.int (nI (1))) ∧ u = [(shT t a ta, zZ), (shF a cI cZ, σ), (shF ta cI cZ, τ), ([(o, .inr (.inr (.inl (cJ, 1, .inr (.inl g)))))], zZ)]) D (tyL cI cZ cJ) A) args s 1 6 A := ⟨_, rfl⟩
  rw [← hQ]
  refine z_aload_n C dL_told_0 rfl 3 rfl ?_
  refine z_iconst C (v := nI (0)) (by decide) dL_told_1 ?_
  refine z_aload_n C dL_told_2 rfl 0 rfl ?_
  refine z_iload_n C dL_told_3 rfl 1 rfl ?_
  refine z_iload_n C dL_told_4 rfl 2 rfl ?_
  refine z_catchV C [true, true, true, false] rfl rfl (c_X2_told_b2 l hlt D cI cZ cJ t a ta σ τ n hI b x hb hx) wq_yX2_told wm_L_36 ⟨wn_yX2_told, wo_yX2_told⟩ ⟨rfl, rfl, Nat.le_of_ble_eq_true rfl, Nat.le_of_ble_eq_true rfl⟩ 0 rfl 0 rfl rfl rfl rfl (Nat.le_of_ble_eq_true rfl) dL_told_5 ⟨Nat.le_of_ble_eq_true rfl, Nat.le_of_ble_eq_true rfl⟩ [] ⟨0, 10, 13, 19⟩ [] (htab.trans rfl) (fun z hz => nomatch hz) (by decide) (by decide) wl_L_19 wt_IndexOutOfBoundsException (fun q => ?_)
  refine z_astore C (L' := [(4, .ref (q)), (0, .ref (t)), (1, .int (nI (b))), (2, .int (x)), (3, .ref (o))]) dL_told_13 (by decide) rfl ?_
  refine z_iconst C (v := nI (1)) (by decide) dL_told_15 ?_
  rw [hQ]; exact z_iret C hr dL_told_16 ⟨rfl, rfl⟩
set_option maxHeartbeats 4000000 in
set_option maxRecDepth 100000 in
theorem c_L_entry (l : Launch) (hlt : l.stackTraces = false) (D : va_G) (cI cZ cJ : ClassId) (t : Nat) (a ta : Nat → Nat) (o : Nat) (g : Nat → Int64) (σ τ : zF) (n : Nat) (hI : fl_Iv n σ) (b : Nat) (k : Nat) (w : Nat) (hb : b < n) (hk : k < fl_ln σ b) (hw : w < 3) : zMH l D (tyL cI cZ cJ) yL_entry cL_entry 6 (some .int) [(0, 12, 15, 19)] (zR 8 145) [.ref (t), .int (nI (b)), .int (nI (k)), .int (nI (w)), .ref (o)] [(shT t a ta, zZ), (shF a cI cZ, σ), (shF ta cI cZ, τ), ([(o, .inr (.inr (.inl (cJ, 1, .inr (.inl g)))))], zZ)] 0 0 (fun r u => r = some (.int (nI (0))) ∧ u = [(shT t a ta, zZ), (shF a cI cZ, σ), (shF ta cI cZ, τ), ([(o, .inr (.inr (.inl (cJ, 1, .inr (.inl (vp_updL g 0 ((fl_ofE n σ b k w).toInt64)))))))], zZ)]) := by
  refine z_ofH (by decide) (Nat.le_of_ble_eq_true rfl) rfl ?_
  intro p e s m args below meth c A C hr htab
  obtain ⟨Q, hQ⟩ : ∃ Q, Q = MQ below (zQ (fun r u => r = some (.int (nI (0))) ∧ u = [(shT t a ta, zZ), (shF a cI cZ, σ), (shF ta cI cZ, τ), ([(o, .inr (.inr (.inl (cJ, 1, .inr (.inl (vp_updL g 0 ((fl_ofE n σ b k w).toInt64)))))))], zZ)]) D (tyL cI cZ cJ) A) args s 0 0 A := ⟨_, rfl⟩
  rw [← hQ]
  refine z_aload C dL_entry_0 4 rfl ?_
  refine z_iconst C (v := nI (0)) (by decide) dL_entry_2 ?_
  refine z_aload_n C dL_entry_3 rfl 0 rfl ?_
  refine z_iload_n C dL_entry_4 rfl 1 rfl ?_
  refine z_iload_n C dL_entry_5 rfl 2 rfl ?_
  refine z_iload_n C dL_entry_6 rfl 3 rfl ?_
  refine z_cV C (st' := [.int (fl_ofE n σ b k w), .int (nI (0)), .ref (o)]) (B' := [(shT t a ta, zZ), (shF a cI cZ, σ), (shF ta cI cZ, τ), ([(o, .inr (.inr (.inl (cJ, 1, .inr (.inl g)))))], zZ)]) [true, true, true, false] rfl (c_X2_entry l D cI cZ cJ t a ta σ τ n hI b k w hb hk hw) wq_yX2_entry wm_L_39 ⟨wn_yX2_entry, wo_yX2_entry⟩ ⟨rfl, rfl, Nat.le_of_ble_eq_true rfl, Nat.le_of_ble_eq_true rfl⟩ 0 rfl 0 rfl rfl rfl rfl (Nat.le_of_ble_eq_true rfl) dL_entry_7 ⟨Nat.le_of_ble_eq_true rfl, Nat.le_of_ble_eq_true rfl⟩ rfl rfl ?_
  refine z_i2l C (v := (fl_ofE n σ b k w).toInt64) rfl dL_entry_10 ?_
  refine z_last C (B' := [(shT t a ta, zZ), (shF a cI cZ, σ), (shF ta cI cZ, τ), ([(o, .inr (.inr (.inl (cJ, 1, .inr (.inl (vp_updL g 0 ((fl_ofE n σ b k w).toInt64)))))))], zZ)]) 3 rfl 0 2 rfl rfl dL_entry_11 (by decide) (by decide) rfl ?_
  refine z_goto C (tgt := 19) dL_entry_12 (by decide) ?_
  refine z_iconst C (v := nI (0)) (by decide) dL_entry_19 ?_
  rw [hQ]; exact z_iret C hr dL_entry_20 ⟨rfl, rfl⟩
set_option maxHeartbeats 4000000 in
set_option maxRecDepth 100000 in
theorem c_L_entry_b1 (l : Launch) (hlt : l.stackTraces = false) (D : va_G) (cI cZ cJ : ClassId) (t : Nat) (a ta : Nat → Nat) (o : Nat) (g : Nat → Int64) (σ τ : zF) (n : Nat) (hI : fl_Iv n σ) (x : Int32) (k : Int32) (w : Int32) (hx : x < 0 ∨ nI n ≤ x) : zMH l D (tyL cI cZ cJ) yL_entry cL_entry 6 (some .int) [(0, 12, 15, 19)] ({ frames := 8, cells := 1, slots := 6, locals := 145 } : Room) [.ref (t), .int (x), .int (k), .int (w), .ref (o)] [(shT t a ta, zZ), (shF a cI cZ, σ), (shF ta cI cZ, τ), ([(o, .inr (.inr (.inl (cJ, 1, .inr (.inl g)))))], zZ)] 1 6 (fun r u => r = some (.int (nI (1))) ∧ u = [(shT t a ta, zZ), (shF a cI cZ, σ), (shF ta cI cZ, τ), ([(o, .inr (.inr (.inl (cJ, 1, .inr (.inl g)))))], zZ)]) := by
  refine z_ofH (by decide) (Nat.le_of_ble_eq_true rfl) rfl ?_
  intro p e s m args below meth c A C hr htab
  obtain ⟨Q, hQ⟩ : ∃ Q, Q = MQ below (zQ (fun r u => r = some (.int (nI (1))) ∧ u = [(shT t a ta, zZ), (shF a cI cZ, σ), (shF ta cI cZ, τ), ([(o, .inr (.inr (.inl (cJ, 1, .inr (.inl g)))))], zZ)]) D (tyL cI cZ cJ) A) args s 1 6 A := ⟨_, rfl⟩
  rw [← hQ]
  refine z_aload C dL_entry_0 4 rfl ?_
  refine z_iconst C (v := nI (0)) (by decide) dL_entry_2 ?_
  refine z_aload_n C dL_entry_3 rfl 0 rfl ?_
  refine z_iload_n C dL_entry_4 rfl 1 rfl ?_
  refine z_iload_n C dL_entry_5 rfl 2 rfl ?_
  refine z_iload_n C dL_entry_6 rfl 3 rfl ?_
  refine z_catchV C [true, true, true, false] rfl rfl (c_X2_entry_b1 l hlt D cI cZ cJ t a ta σ τ n hI x k w hx) wq_yX2_entry wm_L_39 ⟨wn_yX2_entry, wo_yX2_entry⟩ ⟨rfl, rfl, Nat.le_of_ble_eq_true rfl, Nat.le_of_ble_eq_true rfl⟩ 0 rfl 0 rfl rfl rfl rfl (Nat.le_of_ble_eq_true rfl) dL_entry_7 ⟨Nat.le_of_ble_eq_true rfl, Nat.le_of_ble_eq_true rfl⟩ [] ⟨0, 12, 15, 19⟩ [] (htab.trans rfl) (fun z hz => nomatch hz) (by decide) (by decide) wl_L_19 wt_IndexOutOfBoundsException (fun q => ?_)
  refine z_astore C (L' := [(5, .ref (q)), (0, .ref (t)), (1, .int (x)), (2, .int (k)), (3, .int (w)), (4, .ref (o))]) dL_entry_15 (by decide) rfl ?_
  refine z_iconst C (v := nI (1)) (by decide) dL_entry_17 ?_
  rw [hQ]; exact z_iret C hr dL_entry_18 ⟨rfl, rfl⟩
set_option maxHeartbeats 4000000 in
set_option maxRecDepth 100000 in
theorem c_L_entry_b2 (l : Launch) (hlt : l.stackTraces = false) (D : va_G) (cI cZ cJ : ClassId) (t : Nat) (a ta : Nat → Nat) (o : Nat) (g : Nat → Int64) (σ τ : zF) (n : Nat) (hI : fl_Iv n σ) (b : Nat) (x : Int32) (w : Int32) (hb : b < n) (hx : x < 0 ∨ nI (fl_ln σ b) ≤ x) : zMH l D (tyL cI cZ cJ) yL_entry cL_entry 6 (some .int) [(0, 12, 15, 19)] ({ frames := 8, cells := 1, slots := 6, locals := 145 } : Room) [.ref (t), .int (nI (b)), .int (x), .int (w), .ref (o)] [(shT t a ta, zZ), (shF a cI cZ, σ), (shF ta cI cZ, τ), ([(o, .inr (.inr (.inl (cJ, 1, .inr (.inl g)))))], zZ)] 1 6 (fun r u => r = some (.int (nI (1))) ∧ u = [(shT t a ta, zZ), (shF a cI cZ, σ), (shF ta cI cZ, τ), ([(o, .inr (.inr (.inl (cJ, 1, .inr (.inl g)))))], zZ)]) := by
  refine z_ofH (by decide) (Nat.le_of_ble_eq_true rfl) rfl ?_
  intro p e s m args below meth c A C hr htab
  obtain ⟨Q, hQ⟩ : ∃ Q, Q = MQ below (zQ (fun r u => r = some (.int (nI (1))) ∧ u = [(shT t a ta, zZ), (shF a cI cZ, σ), (shF ta cI cZ, τ), ([(o, .inr (.inr (.inl (cJ, 1, .inr (.inl g)))))], zZ)]) D (tyL cI cZ cJ) A) args s 1 6 A := ⟨_, rfl⟩
  rw [← hQ]
  refine z_aload C dL_entry_0 4 rfl ?_
  refine z_iconst C (v := nI (0)) (by decide) dL_entry_2 ?_
  refine z_aload_n C dL_entry_3 rfl 0 rfl ?_
  refine z_iload_n C dL_entry_4 rfl 1 rfl ?_
  refine z_iload_n C dL_entry_5 rfl 2 rfl ?_
  refine z_iload_n C dL_entry_6 rfl 3 rfl ?_
  refine z_catchV C [true, true, true, false] rfl rfl (c_X2_entry_b2 l hlt D cI cZ cJ t a ta σ τ n hI b x w hb hx) wq_yX2_entry wm_L_39 ⟨wn_yX2_entry, wo_yX2_entry⟩ ⟨rfl, rfl, Nat.le_of_ble_eq_true rfl, Nat.le_of_ble_eq_true rfl⟩ 0 rfl 0 rfl rfl rfl rfl (Nat.le_of_ble_eq_true rfl) dL_entry_7 ⟨Nat.le_of_ble_eq_true rfl, Nat.le_of_ble_eq_true rfl⟩ [] ⟨0, 12, 15, 19⟩ [] (htab.trans rfl) (fun z hz => nomatch hz) (by decide) (by decide) wl_L_19 wt_IndexOutOfBoundsException (fun q => ?_)
  refine z_astore C (L' := [(5, .ref (q)), (0, .ref (t)), (1, .int (nI (b))), (2, .int (x)), (3, .int (w)), (4, .ref (o))]) dL_entry_15 (by decide) rfl ?_
  refine z_iconst C (v := nI (1)) (by decide) dL_entry_17 ?_
  rw [hQ]; exact z_iret C hr dL_entry_18 ⟨rfl, rfl⟩
set_option maxHeartbeats 4000000 in
set_option maxRecDepth 100000 in
theorem c_L_entry_b3 (l : Launch) (hlt : l.stackTraces = false) (D : va_G) (cI cZ cJ : ClassId) (t : Nat) (a ta : Nat → Nat) (o : Nat) (g : Nat → Int64) (σ τ : zF) (n : Nat) (hI : fl_Iv n σ) (b : Nat) (k : Nat) (x : Int32) (hb : b < n) (hk : k < fl_ln σ b) (hx : x < 0 ∨ nI 3 ≤ x) : zMH l D (tyL cI cZ cJ) yL_entry cL_entry 6 (some .int) [(0, 12, 15, 19)] ({ frames := 8, cells := 1, slots := 6, locals := 145 } : Room) [.ref (t), .int (nI (b)), .int (nI (k)), .int (x), .ref (o)] [(shT t a ta, zZ), (shF a cI cZ, σ), (shF ta cI cZ, τ), ([(o, .inr (.inr (.inl (cJ, 1, .inr (.inl g)))))], zZ)] 1 6 (fun r u => r = some (.int (nI (1))) ∧ u = [(shT t a ta, zZ), (shF a cI cZ, σ), (shF ta cI cZ, τ), ([(o, .inr (.inr (.inl (cJ, 1, .inr (.inl g)))))], zZ)]) := by
  refine z_ofH (by decide) (Nat.le_of_ble_eq_true rfl) rfl ?_
  intro p e s m args below meth c A C hr htab
  obtain ⟨Q, hQ⟩ : ∃ Q, Q = MQ below (zQ (fun r u => r = some (.int (nI (1))) ∧ u = [(shT t a ta, zZ), (shF a cI cZ, σ), (shF ta cI cZ, τ), ([(o, .inr (.inr (.inl (cJ, 1, .inr (.inl g)))))], zZ)]) D (tyL cI cZ cJ) A) args s 1 6 A := ⟨_, rfl⟩
  rw [← hQ]
  refine z_aload C dL_entry_0 4 rfl ?_
  refine z_iconst C (v := nI (0)) (by decide) dL_entry_2 ?_
  refine z_aload_n C dL_entry_3 rfl 0 rfl ?_
  refine z_iload_n C dL_entry_4 rfl 1 rfl ?_
  refine z_iload_n C dL_entry_5 rfl 2 rfl ?_
  refine z_iload_n C dL_entry_6 rfl 3 rfl ?_
  refine z_catchV C [true, true, true, false] rfl rfl (c_X2_entry_b3 l hlt D cI cZ cJ t a ta σ τ n hI b k x hb hk hx) wq_yX2_entry wm_L_39 ⟨wn_yX2_entry, wo_yX2_entry⟩ ⟨rfl, rfl, Nat.le_of_ble_eq_true rfl, Nat.le_of_ble_eq_true rfl⟩ 0 rfl 0 rfl rfl rfl rfl (Nat.le_of_ble_eq_true rfl) dL_entry_7 ⟨Nat.le_of_ble_eq_true rfl, Nat.le_of_ble_eq_true rfl⟩ [] ⟨0, 12, 15, 19⟩ [] (htab.trans rfl) (fun z hz => nomatch hz) (by decide) (by decide) wl_L_19 wt_IndexOutOfBoundsException (fun q => ?_)
  refine z_astore C (L' := [(5, .ref (q)), (0, .ref (t)), (1, .int (nI (b))), (2, .int (nI (k))), (3, .int (x)), (4, .ref (o))]) dL_entry_15 (by decide) rfl ?_
  refine z_iconst C (v := nI (1)) (by decide) dL_entry_17 ?_
  rw [hQ]; exact z_iret C hr dL_entry_18 ⟨rfl, rfl⟩
set_option maxHeartbeats 4000000 in
set_option maxRecDepth 100000 in
theorem c_L_agree (l : Launch) (hlt : l.stackTraces = false) (D : va_G) (cI cZ cJ : ClassId) (t : Nat) (a ta : Nat → Nat) (o : Nat) (g : Nat → Int64) (σ τ : zF) (n : Nat) (hI : fl_Iv n σ) (b : Nat) (k : Nat) (hb : b < n) (hk : k < n) : zMH l D (tyL cI cZ cJ) yL_agree cL_agree 5 (some .int) [(0, 10, 13, 19)] (zR 8 143) [.ref (t), .int (nI (b)), .int (nI (k)), .ref (o)] [(shT t a ta, zZ), (shF a cI cZ, σ), (shF ta cI cZ, τ), ([(o, .inr (.inr (.inl (cJ, 1, .inr (.inl g)))))], zZ)] 0 0 (fun r u => r = some (.int (nI (0))) ∧ u = [(shT t a ta, zZ), (shF a cI cZ, σ), (shF ta cI cZ, τ), ([(o, .inr (.inr (.inl (cJ, 1, .inr (.inl (vp_updL g 0 ((nI (fl_agr σ b k)).toInt64)))))))], zZ)]) := by
  refine z_ofH (by decide) (Nat.le_of_ble_eq_true rfl) rfl ?_
  intro p e s m args below meth c A C hr htab
  obtain ⟨Q, hQ⟩ : ∃ Q, Q = MQ below (zQ (fun r u => r = some (.int (nI (0))) ∧ u = [(shT t a ta, zZ), (shF a cI cZ, σ), (shF ta cI cZ, τ), ([(o, .inr (.inr (.inl (cJ, 1, .inr (.inl (vp_updL g 0 ((nI (fl_agr σ b k)).toInt64)))))))], zZ)]) D (tyL cI cZ cJ) A) args s 0 0 A := ⟨_, rfl⟩
  rw [← hQ]
  refine z_aload_n C dL_agree_0 rfl 3 rfl ?_
  refine z_iconst C (v := nI (0)) (by decide) dL_agree_1 ?_
  refine z_aload_n C dL_agree_2 rfl 0 rfl ?_
  refine z_iload_n C dL_agree_3 rfl 1 rfl ?_
  refine z_iload_n C dL_agree_4 rfl 2 rfl ?_
  refine z_cV C (st' := [.int (nI (fl_agr σ b k)), .int (nI (0)), .ref (o)]) (B' := [(shT t a ta, zZ), (shF a cI cZ, σ), (shF ta cI cZ, τ), ([(o, .inr (.inr (.inl (cJ, 1, .inr (.inl g)))))], zZ)]) [true, true, true, false] rfl (c_X2_agree l D cI cZ cJ t a ta σ τ n hI b k hb hk) wq_yX2_agree wm_L_43 ⟨wn_yX2_agree, wo_yX2_agree⟩ ⟨rfl, rfl, Nat.le_of_ble_eq_true rfl, Nat.le_of_ble_eq_true rfl⟩ 0 rfl 0 rfl rfl rfl rfl (Nat.le_of_ble_eq_true rfl) dL_agree_5 ⟨Nat.le_of_ble_eq_true rfl, Nat.le_of_ble_eq_true rfl⟩ rfl rfl ?_
  refine z_i2l C (v := (nI (fl_agr σ b k)).toInt64) rfl dL_agree_8 ?_
  refine z_last C (B' := [(shT t a ta, zZ), (shF a cI cZ, σ), (shF ta cI cZ, τ), ([(o, .inr (.inr (.inl (cJ, 1, .inr (.inl (vp_updL g 0 ((nI (fl_agr σ b k)).toInt64)))))))], zZ)]) 3 rfl 0 2 rfl rfl dL_agree_9 (by decide) (by decide) rfl ?_
  refine z_goto C (tgt := 17) dL_agree_10 (by decide) ?_
  refine z_iconst C (v := nI (0)) (by decide) dL_agree_17 ?_
  rw [hQ]; exact z_iret C hr dL_agree_18 ⟨rfl, rfl⟩
set_option maxHeartbeats 4000000 in
set_option maxRecDepth 100000 in
theorem c_L_agree_b1 (l : Launch) (hlt : l.stackTraces = false) (D : va_G) (cI cZ cJ : ClassId) (t : Nat) (a ta : Nat → Nat) (o : Nat) (g : Nat → Int64) (σ τ : zF) (n : Nat) (hI : fl_Iv n σ) (x : Int32) (k : Int32) (hx : x < 0 ∨ nI n ≤ x) : zMH l D (tyL cI cZ cJ) yL_agree cL_agree 5 (some .int) [(0, 10, 13, 19)] ({ frames := 8, cells := 1, slots := 6, locals := 143 } : Room) [.ref (t), .int (x), .int (k), .ref (o)] [(shT t a ta, zZ), (shF a cI cZ, σ), (shF ta cI cZ, τ), ([(o, .inr (.inr (.inl (cJ, 1, .inr (.inl g)))))], zZ)] 1 6 (fun r u => r = some (.int (nI (1))) ∧ u = [(shT t a ta, zZ), (shF a cI cZ, σ), (shF ta cI cZ, τ), ([(o, .inr (.inr (.inl (cJ, 1, .inr (.inl g)))))], zZ)]) := by
  refine z_ofH (by decide) (Nat.le_of_ble_eq_true rfl) rfl ?_
  intro p e s m args below meth c A C hr htab
  obtain ⟨Q, hQ⟩ : ∃ Q, Q = MQ below (zQ (fun r u => r = some (.int (nI (1))) ∧ u = [(shT t a ta, zZ), (shF a cI cZ, σ), (shF ta cI cZ, τ), ([(o, .inr (.inr (.inl (cJ, 1, .inr (.inl g)))))], zZ)]) D (tyL cI cZ cJ) A) args s 1 6 A := ⟨_, rfl⟩
  rw [← hQ]
  refine z_aload_n C dL_agree_0 rfl 3 rfl ?_
  refine z_iconst C (v := nI (0)) (by decide) dL_agree_1 ?_
  refine z_aload_n C dL_agree_2 rfl 0 rfl ?_
  refine z_iload_n C dL_agree_3 rfl 1 rfl ?_
  refine z_iload_n C dL_agree_4 rfl 2 rfl ?_
  refine z_catchV C [true, true, true, false] rfl rfl (c_X2_agree_b1 l hlt D cI cZ cJ t a ta σ τ n hI x k hx) wq_yX2_agree wm_L_43 ⟨wn_yX2_agree, wo_yX2_agree⟩ ⟨rfl, rfl, Nat.le_of_ble_eq_true rfl, Nat.le_of_ble_eq_true rfl⟩ 0 rfl 0 rfl rfl rfl rfl (Nat.le_of_ble_eq_true rfl) dL_agree_5 ⟨Nat.le_of_ble_eq_true rfl, Nat.le_of_ble_eq_true rfl⟩ [] ⟨0, 10, 13, 19⟩ [] (htab.trans rfl) (fun z hz => nomatch hz) (by decide) (by decide) wl_L_19 wt_IndexOutOfBoundsException (fun q => ?_)
  refine z_astore C (L' := [(4, .ref (q)), (0, .ref (t)), (1, .int (x)), (2, .int (k)), (3, .ref (o))]) dL_agree_13 (by decide) rfl ?_
  refine z_iconst C (v := nI (1)) (by decide) dL_agree_15 ?_
  rw [hQ]; exact z_iret C hr dL_agree_16 ⟨rfl, rfl⟩
set_option maxHeartbeats 4000000 in
set_option maxRecDepth 100000 in
theorem c_L_agree_b2 (l : Launch) (hlt : l.stackTraces = false) (D : va_G) (cI cZ cJ : ClassId) (t : Nat) (a ta : Nat → Nat) (o : Nat) (g : Nat → Int64) (σ τ : zF) (n : Nat) (hI : fl_Iv n σ) (b : Nat) (x : Int32) (hb : b < n) (hx : x < 0 ∨ nI n ≤ x) : zMH l D (tyL cI cZ cJ) yL_agree cL_agree 5 (some .int) [(0, 10, 13, 19)] ({ frames := 8, cells := 1, slots := 6, locals := 143 } : Room) [.ref (t), .int (nI (b)), .int (x), .ref (o)] [(shT t a ta, zZ), (shF a cI cZ, σ), (shF ta cI cZ, τ), ([(o, .inr (.inr (.inl (cJ, 1, .inr (.inl g)))))], zZ)] 1 6 (fun r u => r = some (.int (nI (1))) ∧ u = [(shT t a ta, zZ), (shF a cI cZ, σ), (shF ta cI cZ, τ), ([(o, .inr (.inr (.inl (cJ, 1, .inr (.inl g)))))], zZ)]) := by
  refine z_ofH (by decide) (Nat.le_of_ble_eq_true rfl) rfl ?_
  intro p e s m args below meth c A C hr htab
  obtain ⟨Q, hQ⟩ : ∃ Q, Q = MQ below (zQ (fun r u => r = some (.int (nI (1))) ∧ u = [(shT t a ta, zZ), (shF a cI cZ, σ), (shF ta cI cZ, τ), ([(o, .inr (.inr (.inl (cJ, 1, .inr (.inl g)))))], zZ)]) D (tyL cI cZ cJ) A) args s 1 6 A := ⟨_, rfl⟩
  rw [← hQ]
  refine z_aload_n C dL_agree_0 rfl 3 rfl ?_
  refine z_iconst C (v := nI (0)) (by decide) dL_agree_1 ?_
  refine z_aload_n C dL_agree_2 rfl 0 rfl ?_
  refine z_iload_n C dL_agree_3 rfl 1 rfl ?_
  refine z_iload_n C dL_agree_4 rfl 2 rfl ?_
  refine z_catchV C [true, true, true, false] rfl rfl (c_X2_agree_b2 l hlt D cI cZ cJ t a ta σ τ n hI b x hb hx) wq_yX2_agree wm_L_43 ⟨wn_yX2_agree, wo_yX2_agree⟩ ⟨rfl, rfl, Nat.le_of_ble_eq_true rfl, Nat.le_of_ble_eq_true rfl⟩ 0 rfl 0 rfl rfl rfl rfl (Nat.le_of_ble_eq_true rfl) dL_agree_5 ⟨Nat.le_of_ble_eq_true rfl, Nat.le_of_ble_eq_true rfl⟩ [] ⟨0, 10, 13, 19⟩ [] (htab.trans rfl) (fun z hz => nomatch hz) (by decide) (by decide) wl_L_19 wt_IndexOutOfBoundsException (fun q => ?_)
  refine z_astore C (L' := [(4, .ref (q)), (0, .ref (t)), (1, .int (nI (b))), (2, .int (x)), (3, .ref (o))]) dL_agree_13 (by decide) rfl ?_
  refine z_iconst C (v := nI (1)) (by decide) dL_agree_15 ?_
  rw [hQ]; exact z_iret C hr dL_agree_16 ⟨rfl, rfl⟩
set_option maxHeartbeats 4000000 in
set_option maxRecDepth 100000 in
theorem c_L_newer (l : Launch) (hlt : l.stackTraces = false) (D : va_G) (cI cZ cJ : ClassId) (t : Nat) (a ta : Nat → Nat) (o : Nat) (g : Nat → Int64) (σ τ : zF) (n : Nat) (hI : fl_Iv n σ) (b : Nat) (k : Nat) (hb : b < n) (hk : k < n) : zMH l D (tyL cI cZ cJ) yL_newer cL_newer 5 (some .int) [(0, 17, 20, 19)] (zR 8 143) [.ref (t), .int (nI (b)), .int (nI (k)), .ref (o)] [(shT t a ta, zZ), (shF a cI cZ, σ), (shF ta cI cZ, τ), ([(o, .inr (.inr (.inl (cJ, 1, .inr (.inl g)))))], zZ)] 0 0 (fun r u => r = some (.int (nI (0))) ∧ u = [(shT t a ta, zZ), (shF a cI cZ, σ), (shF ta cI cZ, τ), ([(o, .inr (.inr (.inl (cJ, 1, .inr (.inl (vp_updL g 0 (zl (fl_nw σ b k))))))))], zZ)]) := by
  refine z_ofH (by decide) (Nat.le_of_ble_eq_true rfl) rfl ?_
  intro p e s m args below meth c A C hr htab
  obtain ⟨Q, hQ⟩ : ∃ Q, Q = MQ below (zQ (fun r u => r = some (.int (nI (0))) ∧ u = [(shT t a ta, zZ), (shF a cI cZ, σ), (shF ta cI cZ, τ), ([(o, .inr (.inr (.inl (cJ, 1, .inr (.inl (vp_updL g 0 (zl (fl_nw σ b k))))))))], zZ)]) D (tyL cI cZ cJ) A) args s 0 0 A := ⟨_, rfl⟩
  rw [← hQ]
  refine z_aload_n C dL_newer_0 rfl 3 rfl ?_
  refine z_iconst C (v := nI (0)) (by decide) dL_newer_1 ?_
  refine z_aload_n C dL_newer_2 rfl 0 rfl ?_
  refine z_iload_n C dL_newer_3 rfl 1 rfl ?_
  refine z_iload_n C dL_newer_4 rfl 2 rfl ?_
  refine z_cV C (st' := [.int (zb (fl_nw σ b k)), .int (nI (0)), .ref (o)]) (B' := [(shT t a ta, zZ), (shF a cI cZ, σ), (shF ta cI cZ, τ), ([(o, .inr (.inr (.inl (cJ, 1, .inr (.inl g)))))], zZ)]) [true, true, true, false] rfl (c_X2_newer l D cI cZ cJ t a ta σ τ n hI b k hb hk) wq_yX2_newer wm_L_46 ⟨wn_yX2_newer, wo_yX2_newer⟩ ⟨rfl, rfl, Nat.le_of_ble_eq_true rfl, Nat.le_of_ble_eq_true rfl⟩ 0 rfl 0 rfl rfl rfl rfl (Nat.le_of_ble_eq_true rfl) dL_newer_5 ⟨Nat.le_of_ble_eq_true rfl, Nat.le_of_ble_eq_true rfl⟩ rfl rfl ?_
  refine z_if_eqB C (tgt := 15) dL_newer_8 (by decide) (fun c_8 => ?_) (fun c_8 => ?_)
  · refine z_lconst C (v := 0) (by decide) dL_newer_15 ?_
    refine z_last C (B' := [(shT t a ta, zZ), (shF a cI cZ, σ), (shF ta cI cZ, τ), ([(o, .inr (.inr (.inl (cJ, 1, .inr (.inl (vp_updL g 0 (0)))))))], zZ)]) 3 rfl 0 2 rfl rfl dL_newer_16 (by decide) (by decide) rfl ?_
    refine z_goto C (tgt := 24) dL_newer_17 (by decide) ?_
    refine z_iconst C (v := nI (0)) (by decide) dL_newer_24 ?_
    rw [hQ]; exact z_iret C hr dL_newer_25 ⟨rfl, congrArg (fun x => [(shT t a ta, zZ), (shF a cI cZ, σ), (shF ta cI cZ, τ), ([(o, .inr (.inr (.inl (cJ, 1, .inr (.inl (vp_updL g 0 x))))))], zZ)]) (by simp [zl, c_8])⟩
  · refine z_lconst C (v := 1) (by decide) dL_newer_11 ?_
    refine z_goto C (tgt := 16) dL_newer_12 (by decide) ?_
    refine z_last C (B' := [(shT t a ta, zZ), (shF a cI cZ, σ), (shF ta cI cZ, τ), ([(o, .inr (.inr (.inl (cJ, 1, .inr (.inl (vp_updL g 0 (1)))))))], zZ)]) 3 rfl 0 2 rfl rfl dL_newer_16 (by decide) (by decide) rfl ?_
    refine z_goto C (tgt := 24) dL_newer_17 (by decide) ?_
    refine z_iconst C (v := nI (0)) (by decide) dL_newer_24 ?_
    rw [hQ]; exact z_iret C hr dL_newer_25 ⟨rfl, congrArg (fun x => [(shT t a ta, zZ), (shF a cI cZ, σ), (shF ta cI cZ, τ), ([(o, .inr (.inr (.inl (cJ, 1, .inr (.inl (vp_updL g 0 x))))))], zZ)]) (by simp [zl, c_8])⟩
set_option maxHeartbeats 4000000 in
set_option maxRecDepth 100000 in
theorem c_L_newer_b1 (l : Launch) (hlt : l.stackTraces = false) (D : va_G) (cI cZ cJ : ClassId) (t : Nat) (a ta : Nat → Nat) (o : Nat) (g : Nat → Int64) (σ τ : zF) (n : Nat) (hI : fl_Iv n σ) (x : Int32) (k : Int32) (hx : x < 0 ∨ nI n ≤ x) : zMH l D (tyL cI cZ cJ) yL_newer cL_newer 5 (some .int) [(0, 17, 20, 19)] ({ frames := 8, cells := 1, slots := 6, locals := 143 } : Room) [.ref (t), .int (x), .int (k), .ref (o)] [(shT t a ta, zZ), (shF a cI cZ, σ), (shF ta cI cZ, τ), ([(o, .inr (.inr (.inl (cJ, 1, .inr (.inl g)))))], zZ)] 1 6 (fun r u => r = some (.int (nI (1))) ∧ u = [(shT t a ta, zZ), (shF a cI cZ, σ), (shF ta cI cZ, τ), ([(o, .inr (.inr (.inl (cJ, 1, .inr (.inl g)))))], zZ)]) := by
  refine z_ofH (by decide) (Nat.le_of_ble_eq_true rfl) rfl ?_
  intro p e s m args below meth c A C hr htab
  obtain ⟨Q, hQ⟩ : ∃ Q, Q = MQ below (zQ (fun r u => r = some (.int (nI (1))) ∧ u = [(shT t a ta, zZ), (shF a cI cZ, σ), (shF ta cI cZ, τ), ([(o, .inr (.inr (.inl (cJ, 1, .inr (.inl g)))))], zZ)]) D (tyL cI cZ cJ) A) args s 1 6 A := ⟨_, rfl⟩
  rw [← hQ]
  refine z_aload_n C dL_newer_0 rfl 3 rfl ?_
  refine z_iconst C (v := nI (0)) (by decide) dL_newer_1 ?_
  refine z_aload_n C dL_newer_2 rfl 0 rfl ?_
  refine z_iload_n C dL_newer_3 rfl 1 rfl ?_
  refine z_iload_n C dL_newer_4 rfl 2 rfl ?_
  refine z_catchV C [true, true, true, false] rfl rfl (c_X2_newer_b1 l hlt D cI cZ cJ t a ta σ τ n hI x k hx) wq_yX2_newer wm_L_46 ⟨wn_yX2_newer, wo_yX2_newer⟩ ⟨rfl, rfl, Nat.le_of_ble_eq_true rfl, Nat.le_of_ble_eq_true rfl⟩ 0 rfl 0 rfl rfl rfl rfl (Nat.le_of_ble_eq_true rfl) dL_newer_5 ⟨Nat.le_of_ble_eq_true rfl, Nat.le_of_ble_eq_true rfl⟩ [] ⟨0, 17, 20, 19⟩ [] (htab.trans rfl) (fun z hz => nomatch hz) (by decide) (by decide) wl_L_19 wt_IndexOutOfBoundsException (fun q => ?_)
  refine z_astore C (L' := [(4, .ref (q)), (0, .ref (t)), (1, .int (x)), (2, .int (k)), (3, .ref (o))]) dL_newer_20 (by decide) rfl ?_
  refine z_iconst C (v := nI (1)) (by decide) dL_newer_22 ?_
  rw [hQ]; exact z_iret C hr dL_newer_23 ⟨rfl, rfl⟩
set_option maxHeartbeats 4000000 in
set_option maxRecDepth 100000 in
theorem c_L_newer_b2 (l : Launch) (hlt : l.stackTraces = false) (D : va_G) (cI cZ cJ : ClassId) (t : Nat) (a ta : Nat → Nat) (o : Nat) (g : Nat → Int64) (σ τ : zF) (n : Nat) (hI : fl_Iv n σ) (b : Nat) (x : Int32) (hb : b < n) (hx : x < 0 ∨ nI n ≤ x) : zMH l D (tyL cI cZ cJ) yL_newer cL_newer 5 (some .int) [(0, 17, 20, 19)] ({ frames := 8, cells := 1, slots := 6, locals := 143 } : Room) [.ref (t), .int (nI (b)), .int (x), .ref (o)] [(shT t a ta, zZ), (shF a cI cZ, σ), (shF ta cI cZ, τ), ([(o, .inr (.inr (.inl (cJ, 1, .inr (.inl g)))))], zZ)] 1 6 (fun r u => r = some (.int (nI (1))) ∧ u = [(shT t a ta, zZ), (shF a cI cZ, σ), (shF ta cI cZ, τ), ([(o, .inr (.inr (.inl (cJ, 1, .inr (.inl g)))))], zZ)]) := by
  refine z_ofH (by decide) (Nat.le_of_ble_eq_true rfl) rfl ?_
  intro p e s m args below meth c A C hr htab
  obtain ⟨Q, hQ⟩ : ∃ Q, Q = MQ below (zQ (fun r u => r = some (.int (nI (1))) ∧ u = [(shT t a ta, zZ), (shF a cI cZ, σ), (shF ta cI cZ, τ), ([(o, .inr (.inr (.inl (cJ, 1, .inr (.inl g)))))], zZ)]) D (tyL cI cZ cJ) A) args s 1 6 A := ⟨_, rfl⟩
  rw [← hQ]
  refine z_aload_n C dL_newer_0 rfl 3 rfl ?_
  refine z_iconst C (v := nI (0)) (by decide) dL_newer_1 ?_
  refine z_aload_n C dL_newer_2 rfl 0 rfl ?_
  refine z_iload_n C dL_newer_3 rfl 1 rfl ?_
  refine z_iload_n C dL_newer_4 rfl 2 rfl ?_
  refine z_catchV C [true, true, true, false] rfl rfl (c_X2_newer_b2 l hlt D cI cZ cJ t a ta σ τ n hI b x hb hx) wq_yX2_newer wm_L_46 ⟨wn_yX2_newer, wo_yX2_newer⟩ ⟨rfl, rfl, Nat.le_of_ble_eq_true rfl, Nat.le_of_ble_eq_true rfl⟩ 0 rfl 0 rfl rfl rfl rfl (Nat.le_of_ble_eq_true rfl) dL_newer_5 ⟨Nat.le_of_ble_eq_true rfl, Nat.le_of_ble_eq_true rfl⟩ [] ⟨0, 17, 20, 19⟩ [] (htab.trans rfl) (fun z hz => nomatch hz) (by decide) (by decide) wl_L_19 wt_IndexOutOfBoundsException (fun q => ?_)
  refine z_astore C (L' := [(4, .ref (q)), (0, .ref (t)), (1, .int (nI (b))), (2, .int (x)), (3, .ref (o))]) dL_newer_20 (by decide) rfl ?_
  refine z_iconst C (v := nI (1)) (by decide) dL_newer_22 ?_
  rw [hQ]; exact z_iret C hr dL_newer_23 ⟨rfl, rfl⟩
set_option maxHeartbeats 4000000 in
set_option maxRecDepth 100000 in
theorem c_L_count (l : Launch) (hlt : l.stackTraces = false) (D : va_G) (cI cZ cJ : ClassId) (t : Nat) (a ta : Nat → Nat) (o : Nat) (g : Nat → Int64) (σ τ : zF) (n : Nat) (hI : fl_Iv n σ) (w : Nat) (hw : w < 10) : zMH l D (tyL cI cZ cJ) yL_count cL_count 4 (some .int) [(0, 9, 12, 19)] (zR 8 143) [.ref (t), .int (nI (w)), .ref (o)] [(shT t a ta, zZ), (shF a cI cZ, σ), (shF ta cI cZ, τ), ([(o, .inr (.inr (.inl (cJ, 1, .inr (.inl g)))))], zZ)] 0 0 (fun r u => r = some (.int (nI (0))) ∧ u = [(shT t a ta, zZ), (shF a cI cZ, σ), (shF ta cI cZ, τ), ([(o, .inr (.inr (.inl (cJ, 1, .inr (.inl (vp_updL g 0 ((fl_ofF n σ w).toInt64)))))))], zZ)]) := by
  refine z_ofH (by decide) (Nat.le_of_ble_eq_true rfl) rfl ?_
  intro p e s m args below meth c A C hr htab
  obtain ⟨Q, hQ⟩ : ∃ Q, Q = MQ below (zQ (fun r u => r = some (.int (nI (0))) ∧ u = [(shT t a ta, zZ), (shF a cI cZ, σ), (shF ta cI cZ, τ), ([(o, .inr (.inr (.inl (cJ, 1, .inr (.inl (vp_updL g 0 ((fl_ofF n σ w).toInt64)))))))], zZ)]) D (tyL cI cZ cJ) A) args s 0 0 A := ⟨_, rfl⟩
  rw [← hQ]
  refine z_aload_n C dL_count_0 rfl 2 rfl ?_
  refine z_iconst C (v := nI (0)) (by decide) dL_count_1 ?_
  refine z_aload_n C dL_count_2 rfl 0 rfl ?_
  refine z_iload_n C dL_count_3 rfl 1 rfl ?_
  refine z_cV C (st' := [.int (fl_ofF n σ w), .int (nI (0)), .ref (o)]) (B' := [(shT t a ta, zZ), (shF a cI cZ, σ), (shF ta cI cZ, τ), ([(o, .inr (.inr (.inl (cJ, 1, .inr (.inl g)))))], zZ)]) [true, true, true, false] rfl (c_X2_count l D cI cZ cJ t a ta σ τ n hI w hw) wq_yX2_count wm_L_50 ⟨wn_yX2_count, wo_yX2_count⟩ ⟨rfl, rfl, Nat.le_of_ble_eq_true rfl, Nat.le_of_ble_eq_true rfl⟩ 0 rfl 0 rfl rfl rfl rfl (Nat.le_of_ble_eq_true rfl) dL_count_4 ⟨Nat.le_of_ble_eq_true rfl, Nat.le_of_ble_eq_true rfl⟩ rfl rfl ?_
  refine z_i2l C (v := (fl_ofF n σ w).toInt64) rfl dL_count_7 ?_
  refine z_last C (B' := [(shT t a ta, zZ), (shF a cI cZ, σ), (shF ta cI cZ, τ), ([(o, .inr (.inr (.inl (cJ, 1, .inr (.inl (vp_updL g 0 ((fl_ofF n σ w).toInt64)))))))], zZ)]) 3 rfl 0 2 rfl rfl dL_count_8 (by decide) (by decide) rfl ?_
  refine z_goto C (tgt := 15) dL_count_9 (by decide) ?_
  refine z_iconst C (v := nI (0)) (by decide) dL_count_15 ?_
  rw [hQ]; exact z_iret C hr dL_count_16 ⟨rfl, rfl⟩
set_option maxHeartbeats 4000000 in
set_option maxRecDepth 100000 in
theorem c_L_count_b1 (l : Launch) (hlt : l.stackTraces = false) (D : va_G) (cI cZ cJ : ClassId) (t : Nat) (a ta : Nat → Nat) (o : Nat) (g : Nat → Int64) (σ τ : zF) (n : Nat) (hI : fl_Iv n σ) (x : Int32) (hx : x < 0 ∨ nI 10 ≤ x) : zMH l D (tyL cI cZ cJ) yL_count cL_count 4 (some .int) [(0, 9, 12, 19)] ({ frames := 8, cells := 1, slots := 6, locals := 143 } : Room) [.ref (t), .int (x), .ref (o)] [(shT t a ta, zZ), (shF a cI cZ, σ), (shF ta cI cZ, τ), ([(o, .inr (.inr (.inl (cJ, 1, .inr (.inl g)))))], zZ)] 1 6 (fun r u => r = some (.int (nI (1))) ∧ u = [(shT t a ta, zZ), (shF a cI cZ, σ), (shF ta cI cZ, τ), ([(o, .inr (.inr (.inl (cJ, 1, .inr (.inl g)))))], zZ)]) := by
  refine z_ofH (by decide) (Nat.le_of_ble_eq_true rfl) rfl ?_
  intro p e s m args below meth c A C hr htab
  obtain ⟨Q, hQ⟩ : ∃ Q, Q = MQ below (zQ (fun r u => r = some (.int (nI (1))) ∧ u = [(shT t a ta, zZ), (shF a cI cZ, σ), (shF ta cI cZ, τ), ([(o, .inr (.inr (.inl (cJ, 1, .inr (.inl g)))))], zZ)]) D (tyL cI cZ cJ) A) args s 1 6 A := ⟨_, rfl⟩
  rw [← hQ]
  refine z_aload_n C dL_count_0 rfl 2 rfl ?_
  refine z_iconst C (v := nI (0)) (by decide) dL_count_1 ?_
  refine z_aload_n C dL_count_2 rfl 0 rfl ?_
  refine z_iload_n C dL_count_3 rfl 1 rfl ?_
  refine z_catchV C [true, true, true, false] rfl rfl (c_X2_count_b1 l hlt D cI cZ cJ t a ta σ τ n hI x hx) wq_yX2_count wm_L_50 ⟨wn_yX2_count, wo_yX2_count⟩ ⟨rfl, rfl, Nat.le_of_ble_eq_true rfl, Nat.le_of_ble_eq_true rfl⟩ 0 rfl 0 rfl rfl rfl rfl (Nat.le_of_ble_eq_true rfl) dL_count_4 ⟨Nat.le_of_ble_eq_true rfl, Nat.le_of_ble_eq_true rfl⟩ [] ⟨0, 9, 12, 19⟩ [] (htab.trans rfl) (fun z hz => nomatch hz) (by decide) (by decide) wl_L_19 wt_IndexOutOfBoundsException (fun q => ?_)
  refine z_astore_n C (L' := [(3, .ref (q)), (0, .ref (t)), (1, .int (x)), (2, .ref (o))]) dL_count_12 rfl (by decide) rfl ?_
  refine z_iconst C (v := nI (1)) (by decide) dL_count_13 ?_
  rw [hQ]; exact z_iret C hr dL_count_14 ⟨rfl, rfl⟩
set_option maxHeartbeats 4000000 in
set_option maxRecDepth 100000 in
theorem c_L_harbour (l : Launch) (hlt : l.stackTraces = false) (D : va_G) (cI cZ cJ : ClassId) (t : Nat) (a ta : Nat → Nat) (o : Nat) (g : Nat → Int64) (σ τ : zF) (n : Nat) (hI : fl_Iv n σ) (h : Nat) (w : Nat) (hh : h < 3) (hw : w < 3) : zMH l D (tyL cI cZ cJ) yL_harbour cL_harbour 5 (some .int) [(0, 10, 13, 19)] (zR 8 145) [.ref (t), .int (nI (h)), .int (nI (w)), .ref (o)] [(shT t a ta, zZ), (shF a cI cZ, σ), (shF ta cI cZ, τ), ([(o, .inr (.inr (.inl (cJ, 1, .inr (.inl g)))))], zZ)] 0 0 (fun r u => r = some (.int (nI (0))) ∧ u = [(shT t a ta, zZ), (shF a cI cZ, σ), (shF ta cI cZ, τ), ([(o, .inr (.inr (.inl (cJ, 1, .inr (.inl (vp_updL g 0 ((if w = 2 then fl_oI (fl_nwst σ (nI h) n) else if w = 1 then zb (decide (n / 2 < fl_upIn n σ (nI h))) else nI (fl_upIn n σ (nI h))).toInt64)))))))], zZ)]) := by
  refine z_ofH (by decide) (Nat.le_of_ble_eq_true rfl) rfl ?_
  intro p e s m args below meth c A C hr htab
  obtain ⟨Q, hQ⟩ : ∃ Q, Q = MQ below (zQ (fun r u => r = some (.int (nI (0))) ∧ u = [(shT t a ta, zZ), (shF a cI cZ, σ), (shF ta cI cZ, τ), ([(o, .inr (.inr (.inl (cJ, 1, .inr (.inl (vp_updL g 0 ((if w = 2 then fl_oI (fl_nwst σ (nI h) n) else if w = 1 then zb (decide (n / 2 < fl_upIn n σ (nI h))) else nI (fl_upIn n σ (nI h))).toInt64)))))))], zZ)]) D (tyL cI cZ cJ) A) args s 0 0 A := ⟨_, rfl⟩
  rw [← hQ]
  refine z_aload_n C dL_harbour_0 rfl 3 rfl ?_
  refine z_iconst C (v := nI (0)) (by decide) dL_harbour_1 ?_
  refine z_aload_n C dL_harbour_2 rfl 0 rfl ?_
  refine z_iload_n C dL_harbour_3 rfl 1 rfl ?_
  refine z_iload_n C dL_harbour_4 rfl 2 rfl ?_
  refine z_cV C (st' := [.int (if w = 2 then fl_oI (fl_nwst σ (nI h) n) else if w = 1 then zb (decide (n / 2 < fl_upIn n σ (nI h))) else nI (fl_upIn n σ (nI h))), .int (nI (0)), .ref (o)]) (B' := [(shT t a ta, zZ), (shF a cI cZ, σ), (shF ta cI cZ, τ), ([(o, .inr (.inr (.inl (cJ, 1, .inr (.inl g)))))], zZ)]) [true, true, true, false] rfl (c_X2_harbour l D cI cZ cJ t a ta σ τ n hI h w hh hw) wq_yX2_harbour wm_L_53 ⟨wn_yX2_harbour, wo_yX2_harbour⟩ ⟨rfl, rfl, Nat.le_of_ble_eq_true rfl, Nat.le_of_ble_eq_true rfl⟩ 0 rfl 0 rfl rfl rfl rfl (Nat.le_of_ble_eq_true rfl) dL_harbour_5 ⟨Nat.le_of_ble_eq_true rfl, Nat.le_of_ble_eq_true rfl⟩ rfl rfl ?_
  refine z_i2l C (v := (if w = 2 then fl_oI (fl_nwst σ (nI h) n) else if w = 1 then zb (decide (n / 2 < fl_upIn n σ (nI h))) else nI (fl_upIn n σ (nI h))).toInt64) rfl dL_harbour_8 ?_
  refine z_last C (B' := [(shT t a ta, zZ), (shF a cI cZ, σ), (shF ta cI cZ, τ), ([(o, .inr (.inr (.inl (cJ, 1, .inr (.inl (vp_updL g 0 ((if w = 2 then fl_oI (fl_nwst σ (nI h) n) else if w = 1 then zb (decide (n / 2 < fl_upIn n σ (nI h))) else nI (fl_upIn n σ (nI h))).toInt64)))))))], zZ)]) 3 rfl 0 2 rfl rfl dL_harbour_9 (by decide) (by decide) rfl ?_
  refine z_goto C (tgt := 17) dL_harbour_10 (by decide) ?_
  refine z_iconst C (v := nI (0)) (by decide) dL_harbour_17 ?_
  rw [hQ]; exact z_iret C hr dL_harbour_18 ⟨rfl, rfl⟩
set_option maxHeartbeats 4000000 in
set_option maxRecDepth 100000 in
theorem c_L_harbour_b1 (l : Launch) (hlt : l.stackTraces = false) (D : va_G) (cI cZ cJ : ClassId) (t : Nat) (a ta : Nat → Nat) (o : Nat) (g : Nat → Int64) (σ τ : zF) (n : Nat) (hI : fl_Iv n σ) (x : Int32) (w : Int32) (hx : x < 0 ∨ nI 3 ≤ x) : zMH l D (tyL cI cZ cJ) yL_harbour cL_harbour 5 (some .int) [(0, 10, 13, 19)] ({ frames := 8, cells := 1, slots := 6, locals := 145 } : Room) [.ref (t), .int (x), .int (w), .ref (o)] [(shT t a ta, zZ), (shF a cI cZ, σ), (shF ta cI cZ, τ), ([(o, .inr (.inr (.inl (cJ, 1, .inr (.inl g)))))], zZ)] 1 6 (fun r u => r = some (.int (nI (1))) ∧ u = [(shT t a ta, zZ), (shF a cI cZ, σ), (shF ta cI cZ, τ), ([(o, .inr (.inr (.inl (cJ, 1, .inr (.inl g)))))], zZ)]) := by
  refine z_ofH (by decide) (Nat.le_of_ble_eq_true rfl) rfl ?_
  intro p e s m args below meth c A C hr htab
  obtain ⟨Q, hQ⟩ : ∃ Q, Q = MQ below (zQ (fun r u => r = some (.int (nI (1))) ∧ u = [(shT t a ta, zZ), (shF a cI cZ, σ), (shF ta cI cZ, τ), ([(o, .inr (.inr (.inl (cJ, 1, .inr (.inl g)))))], zZ)]) D (tyL cI cZ cJ) A) args s 1 6 A := ⟨_, rfl⟩
  rw [← hQ]
  refine z_aload_n C dL_harbour_0 rfl 3 rfl ?_
  refine z_iconst C (v := nI (0)) (by decide) dL_harbour_1 ?_
  refine z_aload_n C dL_harbour_2 rfl 0 rfl ?_
  refine z_iload_n C dL_harbour_3 rfl 1 rfl ?_
  refine z_iload_n C dL_harbour_4 rfl 2 rfl ?_
  refine z_catchV C [true, true, true, false] rfl rfl (c_X2_harbour_b1 l hlt D cI cZ cJ t a ta σ τ n hI x w hx) wq_yX2_harbour wm_L_53 ⟨wn_yX2_harbour, wo_yX2_harbour⟩ ⟨rfl, rfl, Nat.le_of_ble_eq_true rfl, Nat.le_of_ble_eq_true rfl⟩ 0 rfl 0 rfl rfl rfl rfl (Nat.le_of_ble_eq_true rfl) dL_harbour_5 ⟨Nat.le_of_ble_eq_true rfl, Nat.le_of_ble_eq_true rfl⟩ [] ⟨0, 10, 13, 19⟩ [] (htab.trans rfl) (fun z hz => nomatch hz) (by decide) (by decide) wl_L_19 wt_IndexOutOfBoundsException (fun q => ?_)
  refine z_astore C (L' := [(4, .ref (q)), (0, .ref (t)), (1, .int (x)), (2, .int (w)), (3, .ref (o))]) dL_harbour_13 (by decide) rfl ?_
  refine z_iconst C (v := nI (1)) (by decide) dL_harbour_15 ?_
  rw [hQ]; exact z_iret C hr dL_harbour_16 ⟨rfl, rfl⟩
set_option maxHeartbeats 4000000 in
set_option maxRecDepth 100000 in
theorem c_L_harbour_b2 (l : Launch) (hlt : l.stackTraces = false) (D : va_G) (cI cZ cJ : ClassId) (t : Nat) (a ta : Nat → Nat) (o : Nat) (g : Nat → Int64) (σ τ : zF) (n : Nat) (hI : fl_Iv n σ) (h : Nat) (x : Int32) (hh : h < 3) (hx : x < 0 ∨ nI 3 ≤ x) : zMH l D (tyL cI cZ cJ) yL_harbour cL_harbour 5 (some .int) [(0, 10, 13, 19)] ({ frames := 8, cells := 1, slots := 6, locals := 145 } : Room) [.ref (t), .int (nI (h)), .int (x), .ref (o)] [(shT t a ta, zZ), (shF a cI cZ, σ), (shF ta cI cZ, τ), ([(o, .inr (.inr (.inl (cJ, 1, .inr (.inl g)))))], zZ)] 1 6 (fun r u => r = some (.int (nI (1))) ∧ u = [(shT t a ta, zZ), (shF a cI cZ, σ), (shF ta cI cZ, τ), ([(o, .inr (.inr (.inl (cJ, 1, .inr (.inl g)))))], zZ)]) := by
  refine z_ofH (by decide) (Nat.le_of_ble_eq_true rfl) rfl ?_
  intro p e s m args below meth c A C hr htab
  obtain ⟨Q, hQ⟩ : ∃ Q, Q = MQ below (zQ (fun r u => r = some (.int (nI (1))) ∧ u = [(shT t a ta, zZ), (shF a cI cZ, σ), (shF ta cI cZ, τ), ([(o, .inr (.inr (.inl (cJ, 1, .inr (.inl g)))))], zZ)]) D (tyL cI cZ cJ) A) args s 1 6 A := ⟨_, rfl⟩
  rw [← hQ]
  refine z_aload_n C dL_harbour_0 rfl 3 rfl ?_
  refine z_iconst C (v := nI (0)) (by decide) dL_harbour_1 ?_
  refine z_aload_n C dL_harbour_2 rfl 0 rfl ?_
  refine z_iload_n C dL_harbour_3 rfl 1 rfl ?_
  refine z_iload_n C dL_harbour_4 rfl 2 rfl ?_
  refine z_catchV C [true, true, true, false] rfl rfl (c_X2_harbour_b2 l hlt D cI cZ cJ t a ta σ τ n hI h x hh hx) wq_yX2_harbour wm_L_53 ⟨wn_yX2_harbour, wo_yX2_harbour⟩ ⟨rfl, rfl, Nat.le_of_ble_eq_true rfl, Nat.le_of_ble_eq_true rfl⟩ 0 rfl 0 rfl rfl rfl rfl (Nat.le_of_ble_eq_true rfl) dL_harbour_5 ⟨Nat.le_of_ble_eq_true rfl, Nat.le_of_ble_eq_true rfl⟩ [] ⟨0, 10, 13, 19⟩ [] (htab.trans rfl) (fun z hz => nomatch hz) (by decide) (by decide) wl_L_19 wt_IndexOutOfBoundsException (fun q => ?_)
  refine z_astore C (L' := [(4, .ref (q)), (0, .ref (t)), (1, .int (nI (h))), (2, .int (x)), (3, .ref (o))]) dL_harbour_13 (by decide) rfl ?_
  refine z_iconst C (v := nI (1)) (by decide) dL_harbour_15 ?_
  rw [hQ]; exact z_iret C hr dL_harbour_16 ⟨rfl, rfl⟩
set_option maxHeartbeats 4000000 in
set_option maxRecDepth 100000 in
theorem c_L_foresee (l : Launch) (hlt : l.stackTraces = false) (D : va_G) (cI cZ cJ : ClassId) (t : Nat) (a ta : Nat → Nat) (o : Nat) (g : Nat → Int64) (σ τ : zF) (n : Nat) (hI : fl_Iv n σ) (h : Nat) (w : Nat) (h1 : 1 ≤ h) (h50 : h ≤ 50) (hw3 : 3 ≤ w) (hw : w < 10) : zMH l D (tyL cI cZ cJ) yL_foresee cL_foresee 5 (some .int) [(0, 10, 13, 13), (0, 10, 17, 19)] (zR 8 179) [.ref (t), .int (nI (h)), .int (nI (w)), .ref (o)] [(shT t a ta, zZ), (shF a cI cZ, σ), (shF ta cI cZ, τ), ([(o, .inr (.inr (.inl (cJ, 1, .inr (.inl g)))))], zZ)] 0 0 (fun r u => r = some (.int (nI (0))) ∧ u = [(shT t a ta, zZ), (shF a cI cZ, σ), (shF ta cI cZ, (fl_hours n h (fl_cpy σ τ))), ([(o, .inr (.inr (.inl (cJ, 1, .inr (.inl (vp_updL g 0 ((fl_ofF n (fl_hours n h (fl_cpy σ τ)) w).toInt64)))))))], zZ)]) := by
  refine z_ofH (by decide) (Nat.le_of_ble_eq_true rfl) rfl ?_
  intro p e s m args below meth c A C hr htab
  obtain ⟨Q, hQ⟩ : ∃ Q, Q = MQ below (zQ (fun r u => r = some (.int (nI (0))) ∧ u = [(shT t a ta, zZ), (shF a cI cZ, σ), (shF ta cI cZ, (fl_hours n h (fl_cpy σ τ))), ([(o, .inr (.inr (.inl (cJ, 1, .inr (.inl (vp_updL g 0 ((fl_ofF n (fl_hours n h (fl_cpy σ τ)) w).toInt64)))))))], zZ)]) D (tyL cI cZ cJ) A) args s 0 0 A := ⟨_, rfl⟩
  rw [← hQ]
  refine z_aload_n C dL_foresee_0 rfl 3 rfl ?_
  refine z_iconst C (v := nI (0)) (by decide) dL_foresee_1 ?_
  refine z_aload_n C dL_foresee_2 rfl 0 rfl ?_
  refine z_iload_n C dL_foresee_3 rfl 1 rfl ?_
  refine z_iload_n C dL_foresee_4 rfl 2 rfl ?_
  refine z_cV C (st' := [.int (fl_ofF n (fl_hours n h (fl_cpy σ τ)) w), .int (nI (0)), .ref (o)]) (B' := [(shT t a ta, zZ), (shF a cI cZ, σ), (shF ta cI cZ, (fl_hours n h (fl_cpy σ τ))), ([(o, .inr (.inr (.inl (cJ, 1, .inr (.inl g)))))], zZ)]) [true, true, true, false] rfl (c_X2_foresee l D cI cZ cJ t a ta σ τ n hI h w h1 h50 hw3 hw) wq_yX2_foresee wm_L_56 ⟨wn_yX2_foresee, wo_yX2_foresee⟩ ⟨rfl, rfl, Nat.le_of_ble_eq_true rfl, Nat.le_of_ble_eq_true rfl⟩ 0 rfl 0 rfl rfl rfl rfl (Nat.le_of_ble_eq_true rfl) dL_foresee_5 ⟨Nat.le_of_ble_eq_true rfl, Nat.le_of_ble_eq_true rfl⟩ rfl rfl ?_
  refine z_i2l C (v := (fl_ofF n (fl_hours n h (fl_cpy σ τ)) w).toInt64) rfl dL_foresee_8 ?_
  refine z_last C (B' := [(shT t a ta, zZ), (shF a cI cZ, σ), (shF ta cI cZ, (fl_hours n h (fl_cpy σ τ))), ([(o, .inr (.inr (.inl (cJ, 1, .inr (.inl (vp_updL g 0 ((fl_ofF n (fl_hours n h (fl_cpy σ τ)) w).toInt64)))))))], zZ)]) 3 rfl 0 2 rfl rfl dL_foresee_9 (by decide) (by decide) rfl ?_
  refine z_goto C (tgt := 21) dL_foresee_10 (by decide) ?_
  refine z_iconst C (v := nI (0)) (by decide) dL_foresee_21 ?_
  rw [hQ]; exact z_iret C hr dL_foresee_22 ⟨rfl, rfl⟩
set_option maxHeartbeats 4000000 in
set_option maxRecDepth 100000 in
theorem c_L_foresee_b1 (l : Launch) (hlt : l.stackTraces = false) (D : va_G) (cI cZ cJ : ClassId) (t : Nat) (a ta : Nat → Nat) (o : Nat) (g : Nat → Int64) (σ τ : zF) (n : Nat) (hI : fl_Iv n σ) (x : Int32) (w : Int32) (hx : x < nI 1 ∨ nI 50 < x) : zMH l D (tyL cI cZ cJ) yL_foresee cL_foresee 5 (some .int) [(0, 10, 13, 13), (0, 10, 17, 19)] ({ frames := 8, cells := 1, slots := 6, locals := 179 } : Room) [.ref (t), .int (x), .int (w), .ref (o)] [(shT t a ta, zZ), (shF a cI cZ, σ), (shF ta cI cZ, τ), ([(o, .inr (.inr (.inl (cJ, 1, .inr (.inl g)))))], zZ)] 1 6 (fun r u => r = some (.int (nI (1))) ∧ u = [(shT t a ta, zZ), (shF a cI cZ, σ), (shF ta cI cZ, τ), ([(o, .inr (.inr (.inl (cJ, 1, .inr (.inl g)))))], zZ)]) := by
  refine z_ofH (by decide) (Nat.le_of_ble_eq_true rfl) rfl ?_
  intro p e s m args below meth c A C hr htab
  obtain ⟨Q, hQ⟩ : ∃ Q, Q = MQ below (zQ (fun r u => r = some (.int (nI (1))) ∧ u = [(shT t a ta, zZ), (shF a cI cZ, σ), (shF ta cI cZ, τ), ([(o, .inr (.inr (.inl (cJ, 1, .inr (.inl g)))))], zZ)]) D (tyL cI cZ cJ) A) args s 1 6 A := ⟨_, rfl⟩
  rw [← hQ]
  refine z_aload_n C dL_foresee_0 rfl 3 rfl ?_
  refine z_iconst C (v := nI (0)) (by decide) dL_foresee_1 ?_
  refine z_aload_n C dL_foresee_2 rfl 0 rfl ?_
  refine z_iload_n C dL_foresee_3 rfl 1 rfl ?_
  refine z_iload_n C dL_foresee_4 rfl 2 rfl ?_
  refine z_catchV C [true, true, true, false] rfl rfl (c_X2_foresee_b1 l hlt D cI cZ cJ t a ta σ τ n hI x w hx) wq_yX2_foresee wm_L_56 ⟨wn_yX2_foresee, wo_yX2_foresee⟩ ⟨rfl, rfl, Nat.le_of_ble_eq_true rfl, Nat.le_of_ble_eq_true rfl⟩ 0 rfl 0 rfl rfl rfl rfl (Nat.le_of_ble_eq_true rfl) dL_foresee_5 ⟨Nat.le_of_ble_eq_true rfl, Nat.le_of_ble_eq_true rfl⟩ [] ⟨0, 10, 13, 13⟩ [⟨0, 10, 17, 19⟩] (htab.trans rfl) (fun z hz => nomatch hz) (by decide) (by decide) wl_L_13 wt_IllegalArgumentException (fun q => ?_)
  refine z_astore C (L' := [(4, .ref (q)), (0, .ref (t)), (1, .int (x)), (2, .int (w)), (3, .ref (o))]) dL_foresee_13 (by decide) rfl ?_
  refine z_iconst C (v := nI (1)) (by decide) dL_foresee_15 ?_
  rw [hQ]; exact z_iret C hr dL_foresee_16 ⟨rfl, rfl⟩
set_option maxHeartbeats 4000000 in
set_option maxRecDepth 100000 in
theorem c_L_foresee_b2 (l : Launch) (hlt : l.stackTraces = false) (D : va_G) (cI cZ cJ : ClassId) (t : Nat) (a ta : Nat → Nat) (o : Nat) (g : Nat → Int64) (σ τ : zF) (n : Nat) (hI : fl_Iv n σ) (h : Nat) (x : Int32) (h1 : 1 ≤ h) (h50 : h ≤ 50) (hx : x < nI 3 ∨ nI 10 ≤ x) : zMH l D (tyL cI cZ cJ) yL_foresee cL_foresee 5 (some .int) [(0, 10, 13, 13), (0, 10, 17, 19)] ({ frames := 8, cells := 1, slots := 6, locals := 179 } : Room) [.ref (t), .int (nI (h)), .int (x), .ref (o)] [(shT t a ta, zZ), (shF a cI cZ, σ), (shF ta cI cZ, τ), ([(o, .inr (.inr (.inl (cJ, 1, .inr (.inl g)))))], zZ)] 1 6 (fun r u => r = some (.int (nI (2))) ∧ u = [(shT t a ta, zZ), (shF a cI cZ, σ), (shF ta cI cZ, τ), ([(o, .inr (.inr (.inl (cJ, 1, .inr (.inl g)))))], zZ)]) := by
  refine z_ofH (by decide) (Nat.le_of_ble_eq_true rfl) rfl ?_
  intro p e s m args below meth c A C hr htab
  obtain ⟨Q, hQ⟩ : ∃ Q, Q = MQ below (zQ (fun r u => r = some (.int (nI (2))) ∧ u = [(shT t a ta, zZ), (shF a cI cZ, σ), (shF ta cI cZ, τ), ([(o, .inr (.inr (.inl (cJ, 1, .inr (.inl g)))))], zZ)]) D (tyL cI cZ cJ) A) args s 1 6 A := ⟨_, rfl⟩
  rw [← hQ]
  refine z_aload_n C dL_foresee_0 rfl 3 rfl ?_
  refine z_iconst C (v := nI (0)) (by decide) dL_foresee_1 ?_
  refine z_aload_n C dL_foresee_2 rfl 0 rfl ?_
  refine z_iload_n C dL_foresee_3 rfl 1 rfl ?_
  refine z_iload_n C dL_foresee_4 rfl 2 rfl ?_
  refine z_catchV C [true, true, true, false] rfl rfl (c_X2_foresee_b2 l hlt D cI cZ cJ t a ta σ τ n hI h x h1 h50 hx) wq_yX2_foresee wm_L_56 ⟨wn_yX2_foresee, wo_yX2_foresee⟩ ⟨rfl, rfl, Nat.le_of_ble_eq_true rfl, Nat.le_of_ble_eq_true rfl⟩ 0 rfl 0 rfl rfl rfl rfl (Nat.le_of_ble_eq_true rfl) dL_foresee_5 ⟨Nat.le_of_ble_eq_true rfl, Nat.le_of_ble_eq_true rfl⟩ [⟨0, 10, 13, 13⟩] ⟨0, 10, 17, 19⟩ [] (htab.trans rfl) (fun z hz => by
      rcases List.mem_cons.mp hz with rfl | hz
      · exact Or.inr ⟨by decide, "java/lang/IllegalArgumentException", wl_L_13, by decide⟩
      · exact nomatch hz) (by decide) (by decide) wl_L_19 wt_IndexOutOfBoundsException (fun q => ?_)
  refine z_astore C (L' := [(4, .ref (q)), (0, .ref (t)), (1, .int (nI (h))), (2, .int (x)), (3, .ref (o))]) dL_foresee_17 (by decide) rfl ?_
  refine z_iconst C (v := nI (2)) (by decide) dL_foresee_19 ?_
  rw [hQ]; exact z_iret C hr dL_foresee_20 ⟨rfl, rfl⟩
set_option maxHeartbeats 4000000 in
set_option maxRecDepth 100000 in
theorem c_L_advise (l : Launch) (hlt : l.stackTraces = false) (D : va_G) (cI cZ cJ : ClassId) (t : Nat) (a ta : Nat → Nat) (o : Nat) (g : Nat → Int64) (σ τ : zF) (n : Nat) (hI : fl_Iv n σ) (b : Nat) (k : Nat) (hb : b < n) (h1 : 1 ≤ k) (h20 : k ≤ 20) (hup : ¬ σ 7 b = 0) : zMH l D (tyL cI cZ cJ) yL_advise cL_advise 5 (some .int) [(0, 10, 13, 19), (0, 10, 17, 13), (0, 10, 21, 31)] (zR 8 183) [.ref (t), .int (nI (b)), .int (nI (k)), .ref (o)] [(shT t a ta, zZ), (shF a cI cZ, σ), (shF ta cI cZ, τ), ([(o, .inr (.inr (.inl (cJ, 1, .inr (.inl g)))))], zZ)] 0 0 (fun r u => r = some (.int (nI (0))) ∧ u = [(shT t a ta, zZ), (shF a cI cZ, σ), (shF ta cI cZ, (fl_advL n σ b k τ 3).2.2), ([(o, .inr (.inr (.inl (cJ, 1, .inr (.inl (vp_updL g 0 (((fl_advL n σ b k τ 3).1).toInt64)))))))], zZ)]) := by
  refine z_ofH (by decide) (Nat.le_of_ble_eq_true rfl) rfl ?_
  intro p e s m args below meth c A C hr htab
  obtain ⟨Q, hQ⟩ : ∃ Q, Q = MQ below (zQ (fun r u => r = some (.int (nI (0))) ∧ u = [(shT t a ta, zZ), (shF a cI cZ, σ), (shF ta cI cZ, (fl_advL n σ b k τ 3).2.2), ([(o, .inr (.inr (.inl (cJ, 1, .inr (.inl (vp_updL g 0 (((fl_advL n σ b k τ 3).1).toInt64)))))))], zZ)]) D (tyL cI cZ cJ) A) args s 0 0 A := ⟨_, rfl⟩
  rw [← hQ]
  refine z_aload_n C dL_advise_0 rfl 3 rfl ?_
  refine z_iconst C (v := nI (0)) (by decide) dL_advise_1 ?_
  refine z_aload_n C dL_advise_2 rfl 0 rfl ?_
  refine z_iload_n C dL_advise_3 rfl 1 rfl ?_
  refine z_iload_n C dL_advise_4 rfl 2 rfl ?_
  refine z_cV C (st' := [.int ((fl_advL n σ b k τ 3).1), .int (nI (0)), .ref (o)]) (B' := [(shT t a ta, zZ), (shF a cI cZ, σ), (shF ta cI cZ, (fl_advL n σ b k τ 3).2.2), ([(o, .inr (.inr (.inl (cJ, 1, .inr (.inl g)))))], zZ)]) [true, true, true, false] rfl (c_X2_advise l D cI cZ cJ t a ta σ τ n hI b k hb h1 h20 hup) wq_yX2_advise wm_L_59 ⟨wn_yX2_advise, wo_yX2_advise⟩ ⟨rfl, rfl, Nat.le_of_ble_eq_true rfl, Nat.le_of_ble_eq_true rfl⟩ 0 rfl 0 rfl rfl rfl rfl (Nat.le_of_ble_eq_true rfl) dL_advise_5 ⟨Nat.le_of_ble_eq_true rfl, Nat.le_of_ble_eq_true rfl⟩ rfl rfl ?_
  refine z_i2l C (v := ((fl_advL n σ b k τ 3).1).toInt64) rfl dL_advise_8 ?_
  refine z_last C (B' := [(shT t a ta, zZ), (shF a cI cZ, σ), (shF ta cI cZ, (fl_advL n σ b k τ 3).2.2), ([(o, .inr (.inr (.inl (cJ, 1, .inr (.inl (vp_updL g 0 (((fl_advL n σ b k τ 3).1).toInt64)))))))], zZ)]) 3 rfl 0 2 rfl rfl dL_advise_9 (by decide) (by decide) rfl ?_
  refine z_goto C (tgt := 25) dL_advise_10 (by decide) ?_
  refine z_iconst C (v := nI (0)) (by decide) dL_advise_25 ?_
  rw [hQ]; exact z_iret C hr dL_advise_26 ⟨rfl, rfl⟩
set_option maxHeartbeats 4000000 in
set_option maxRecDepth 100000 in
theorem c_L_advise_b1 (l : Launch) (hlt : l.stackTraces = false) (D : va_G) (cI cZ cJ : ClassId) (t : Nat) (a ta : Nat → Nat) (o : Nat) (g : Nat → Int64) (σ τ : zF) (n : Nat) (hI : fl_Iv n σ) (x : Int32) (k : Int32) (hx : x < 0 ∨ nI n ≤ x) : zMH l D (tyL cI cZ cJ) yL_advise cL_advise 5 (some .int) [(0, 10, 13, 19), (0, 10, 17, 13), (0, 10, 21, 31)] ({ frames := 8, cells := 1, slots := 6, locals := 183 } : Room) [.ref (t), .int (x), .int (k), .ref (o)] [(shT t a ta, zZ), (shF a cI cZ, σ), (shF ta cI cZ, τ), ([(o, .inr (.inr (.inl (cJ, 1, .inr (.inl g)))))], zZ)] 1 6 (fun r u => r = some (.int (nI (1))) ∧ u = [(shT t a ta, zZ), (shF a cI cZ, σ), (shF ta cI cZ, τ), ([(o, .inr (.inr (.inl (cJ, 1, .inr (.inl g)))))], zZ)]) := by
  refine z_ofH (by decide) (Nat.le_of_ble_eq_true rfl) rfl ?_
  intro p e s m args below meth c A C hr htab
  obtain ⟨Q, hQ⟩ : ∃ Q, Q = MQ below (zQ (fun r u => r = some (.int (nI (1))) ∧ u = [(shT t a ta, zZ), (shF a cI cZ, σ), (shF ta cI cZ, τ), ([(o, .inr (.inr (.inl (cJ, 1, .inr (.inl g)))))], zZ)]) D (tyL cI cZ cJ) A) args s 1 6 A := ⟨_, rfl⟩
  rw [← hQ]
  refine z_aload_n C dL_advise_0 rfl 3 rfl ?_
  refine z_iconst C (v := nI (0)) (by decide) dL_advise_1 ?_
  refine z_aload_n C dL_advise_2 rfl 0 rfl ?_
  refine z_iload_n C dL_advise_3 rfl 1 rfl ?_
  refine z_iload_n C dL_advise_4 rfl 2 rfl ?_
  refine z_catchV C [true, true, true, false] rfl rfl (c_X2_advise_b1 l hlt D cI cZ cJ t a ta σ τ n hI x k hx) wq_yX2_advise wm_L_59 ⟨wn_yX2_advise, wo_yX2_advise⟩ ⟨rfl, rfl, Nat.le_of_ble_eq_true rfl, Nat.le_of_ble_eq_true rfl⟩ 0 rfl 0 rfl rfl rfl rfl (Nat.le_of_ble_eq_true rfl) dL_advise_5 ⟨Nat.le_of_ble_eq_true rfl, Nat.le_of_ble_eq_true rfl⟩ [] ⟨0, 10, 13, 19⟩ [⟨0, 10, 17, 13⟩, ⟨0, 10, 21, 31⟩] (htab.trans rfl) (fun z hz => nomatch hz) (by decide) (by decide) wl_L_19 wt_IndexOutOfBoundsException (fun q => ?_)
  refine z_astore C (L' := [(4, .ref (q)), (0, .ref (t)), (1, .int (x)), (2, .int (k)), (3, .ref (o))]) dL_advise_13 (by decide) rfl ?_
  refine z_iconst C (v := nI (1)) (by decide) dL_advise_15 ?_
  rw [hQ]; exact z_iret C hr dL_advise_16 ⟨rfl, rfl⟩
set_option maxHeartbeats 4000000 in
set_option maxRecDepth 100000 in
theorem c_L_advise_b2 (l : Launch) (hlt : l.stackTraces = false) (D : va_G) (cI cZ cJ : ClassId) (t : Nat) (a ta : Nat → Nat) (o : Nat) (g : Nat → Int64) (σ τ : zF) (n : Nat) (hI : fl_Iv n σ) (b : Nat) (x : Int32) (hb : b < n) (hx : x < nI 1 ∨ nI 20 < x) : zMH l D (tyL cI cZ cJ) yL_advise cL_advise 5 (some .int) [(0, 10, 13, 19), (0, 10, 17, 13), (0, 10, 21, 31)] ({ frames := 8, cells := 1, slots := 6, locals := 183 } : Room) [.ref (t), .int (nI (b)), .int (x), .ref (o)] [(shT t a ta, zZ), (shF a cI cZ, σ), (shF ta cI cZ, τ), ([(o, .inr (.inr (.inl (cJ, 1, .inr (.inl g)))))], zZ)] 1 6 (fun r u => r = some (.int (nI (2))) ∧ u = [(shT t a ta, zZ), (shF a cI cZ, σ), (shF ta cI cZ, τ), ([(o, .inr (.inr (.inl (cJ, 1, .inr (.inl g)))))], zZ)]) := by
  refine z_ofH (by decide) (Nat.le_of_ble_eq_true rfl) rfl ?_
  intro p e s m args below meth c A C hr htab
  obtain ⟨Q, hQ⟩ : ∃ Q, Q = MQ below (zQ (fun r u => r = some (.int (nI (2))) ∧ u = [(shT t a ta, zZ), (shF a cI cZ, σ), (shF ta cI cZ, τ), ([(o, .inr (.inr (.inl (cJ, 1, .inr (.inl g)))))], zZ)]) D (tyL cI cZ cJ) A) args s 1 6 A := ⟨_, rfl⟩
  rw [← hQ]
  refine z_aload_n C dL_advise_0 rfl 3 rfl ?_
  refine z_iconst C (v := nI (0)) (by decide) dL_advise_1 ?_
  refine z_aload_n C dL_advise_2 rfl 0 rfl ?_
  refine z_iload_n C dL_advise_3 rfl 1 rfl ?_
  refine z_iload_n C dL_advise_4 rfl 2 rfl ?_
  refine z_catchV C [true, true, true, false] rfl rfl (c_X2_advise_b2 l hlt D cI cZ cJ t a ta σ τ n hI b x hb hx) wq_yX2_advise wm_L_59 ⟨wn_yX2_advise, wo_yX2_advise⟩ ⟨rfl, rfl, Nat.le_of_ble_eq_true rfl, Nat.le_of_ble_eq_true rfl⟩ 0 rfl 0 rfl rfl rfl rfl (Nat.le_of_ble_eq_true rfl) dL_advise_5 ⟨Nat.le_of_ble_eq_true rfl, Nat.le_of_ble_eq_true rfl⟩ [⟨0, 10, 13, 19⟩] ⟨0, 10, 17, 13⟩ [⟨0, 10, 21, 31⟩] (htab.trans rfl) (fun z hz => by
      rcases List.mem_cons.mp hz with rfl | hz
      · exact Or.inr ⟨by decide, "java/lang/IndexOutOfBoundsException", wl_L_19, by decide⟩
      · exact nomatch hz) (by decide) (by decide) wl_L_13 wt_IllegalArgumentException (fun q => ?_)
  refine z_astore C (L' := [(4, .ref (q)), (0, .ref (t)), (1, .int (nI (b))), (2, .int (x)), (3, .ref (o))]) dL_advise_17 (by decide) rfl ?_
  refine z_iconst C (v := nI (2)) (by decide) dL_advise_19 ?_
  rw [hQ]; exact z_iret C hr dL_advise_20 ⟨rfl, rfl⟩
set_option maxHeartbeats 4000000 in
set_option maxRecDepth 100000 in
theorem c_L_advise_b3 (l : Launch) (hlt : l.stackTraces = false) (D : va_G) (cI cZ cJ : ClassId) (t : Nat) (a ta : Nat → Nat) (o : Nat) (g : Nat → Int64) (σ τ : zF) (n : Nat) (hI : fl_Iv n σ) (b : Nat) (k : Nat) (hb : b < n) (h1 : 1 ≤ k) (h20 : k ≤ 20) (hup : σ 7 b = 0) : zMH l D (tyL cI cZ cJ) yL_advise cL_advise 5 (some .int) [(0, 10, 13, 19), (0, 10, 17, 13), (0, 10, 21, 31)] ({ frames := 8, cells := 1, slots := 6, locals := 183 } : Room) [.ref (t), .int (nI (b)), .int (nI (k)), .ref (o)] [(shT t a ta, zZ), (shF a cI cZ, σ), (shF ta cI cZ, τ), ([(o, .inr (.inr (.inl (cJ, 1, .inr (.inl g)))))], zZ)] 1 6 (fun r u => r = some (.int (nI (3))) ∧ u = [(shT t a ta, zZ), (shF a cI cZ, σ), (shF ta cI cZ, τ), ([(o, .inr (.inr (.inl (cJ, 1, .inr (.inl g)))))], zZ)]) := by
  refine z_ofH (by decide) (Nat.le_of_ble_eq_true rfl) rfl ?_
  intro p e s m args below meth c A C hr htab
  obtain ⟨Q, hQ⟩ : ∃ Q, Q = MQ below (zQ (fun r u => r = some (.int (nI (3))) ∧ u = [(shT t a ta, zZ), (shF a cI cZ, σ), (shF ta cI cZ, τ), ([(o, .inr (.inr (.inl (cJ, 1, .inr (.inl g)))))], zZ)]) D (tyL cI cZ cJ) A) args s 1 6 A := ⟨_, rfl⟩
  rw [← hQ]
  refine z_aload_n C dL_advise_0 rfl 3 rfl ?_
  refine z_iconst C (v := nI (0)) (by decide) dL_advise_1 ?_
  refine z_aload_n C dL_advise_2 rfl 0 rfl ?_
  refine z_iload_n C dL_advise_3 rfl 1 rfl ?_
  refine z_iload_n C dL_advise_4 rfl 2 rfl ?_
  refine z_catchV C [true, true, true, false] rfl rfl (c_X2_advise_b3 l hlt D cI cZ cJ t a ta σ τ n hI b k hb h1 h20 hup) wq_yX2_advise wm_L_59 ⟨wn_yX2_advise, wo_yX2_advise⟩ ⟨rfl, rfl, Nat.le_of_ble_eq_true rfl, Nat.le_of_ble_eq_true rfl⟩ 0 rfl 0 rfl rfl rfl rfl (Nat.le_of_ble_eq_true rfl) dL_advise_5 ⟨Nat.le_of_ble_eq_true rfl, Nat.le_of_ble_eq_true rfl⟩ [⟨0, 10, 13, 19⟩, ⟨0, 10, 17, 13⟩] ⟨0, 10, 21, 31⟩ [] (htab.trans rfl) (fun z hz => by
      rcases List.mem_cons.mp hz with rfl | hz
      · exact Or.inr ⟨by decide, "java/lang/IndexOutOfBoundsException", wl_L_19, by decide⟩
      rcases List.mem_cons.mp hz with rfl | hz
      · exact Or.inr ⟨by decide, "java/lang/IllegalArgumentException", wl_L_13, by decide⟩
      · exact nomatch hz) (by decide) (by decide) wl_L_31 wt_IllegalStateException (fun q => ?_)
  refine z_astore C (L' := [(4, .ref (q)), (0, .ref (t)), (1, .int (nI (b))), (2, .int (nI (k))), (3, .ref (o))]) dL_advise_21 (by decide) rfl ?_
  refine z_iconst C (v := nI (3)) (by decide) dL_advise_23 ?_
  rw [hQ]; exact z_iret C hr dL_advise_24 ⟨rfl, rfl⟩
