/-! the law -/
theorem zb_1 {x : Bool} : zb x = nI 1 ↔ x = true := by cases x <;> decide
theorem add_sub9 (x y : Int32) : x + (y - x) = y := by rw [Int32.add_comm, Int32.sub_add_cancel]
def dueA (f : Nat → Int32) (w : Nat) : zF := fun k j => if k = 0 ∧ 3 ≤ j ∧ j < w then f j else 0
theorem dueA_0 (f : Nat → Int32) : zZ = dueA f 3 := by
  funext k j
  unfold dueA zZ
  rw [if_neg (by omega)]
theorem dueA_1 (f : Nat → Int32) {w : Nat} (h : 3 ≤ w) : zU (dueA f w) 0 w (f w) = dueA f (w + 1) := by
  funext k j
  rw [zU_at]
  unfold dueA
  by_cases hk : k = 0 ∧ j = w
  · rw [if_pos hk, if_pos ⟨hk.1, by omega, by omega⟩, hk.2]
  · rw [if_neg hk]
    by_cases h2 : k = 0 ∧ 3 ≤ j ∧ j < w
    · rw [if_pos h2, if_pos ⟨h2.1, h2.2.1, by omega⟩]
    · rw [if_neg h2, if_neg (fun z => by
        by_cases e : j = w
        · exact hk ⟨z.1, e⟩
        · exact h2 ⟨z.1, z.2.1, by omega⟩)]
theorem dueA_get (f : Nat → Int32) {w : Nat} (h : 3 ≤ w) (h2 : w < 10) : dueA f 10 0 w = f w := by
  unfold dueA
  rw [if_pos ⟨rfl, h, h2⟩]
def filA (f : Nat → Int32) (b : Nat) : zF := fun k j => if k = 0 ∧ j < b then f j else 0
theorem filA_0 (f : Nat → Int32) : zZ = filA f 0 := by
  funext k j
  unfold filA zZ
  rw [if_neg (by omega)]
theorem filA_1 (f : Nat → Int32) (b : Nat) {v : Int32} (h : v = f b) : zU (filA f b) 0 b v = filA f (b + 1) := by
  subst h
  funext k j
  rw [zU_at]
  unfold filA
  by_cases hk : k = 0 ∧ j = b
  · rw [if_pos hk, if_pos ⟨hk.1, by omega⟩, hk.2]
  · rw [if_neg hk]
    by_cases h2 : k = 0 ∧ j < b
    · rw [if_pos h2, if_pos ⟨h2.1, by omega⟩]
    · rw [if_neg h2, if_neg (fun z => by
        by_cases e : j = b
        · exact hk ⟨z.1, e⟩
        · exact h2 ⟨z.1, by omega⟩)]
theorem filA_get (f : Nat → Int32) {b n : Nat} (h : b < n) : filA f n 0 b = f b := by
  unfold filA
  rw [if_pos ⟨rfl, h⟩]
def ledf (σ : zF) : Nat → Int32 := fun b => zb (decide (σ 5 b = nI 2 ∧ ¬ σ 7 b = 0))
section ZROWS6
variable {p : Program} {l : Launch} {e : Env} {R : Room} {s : State} {m : MethodId} {args : Array Value} {below : List Frame} {meth : Method} {c : Code} {D : va_G} {A : Nat → Prop} {nL : Nat} {Q : State → Prop} {cells slots pc : Nat} {L : List (Nat × Value)} {st : List Value} {B B' : List zB}
theorem z_cont (b : Nat) {sh : List (Nat × zS)} {σ σ' : zF} (hb : B[b]? = some (sh, σ)) (h : σ = σ') (hB : B.set b (sh, σ') = B') (k : zK p l e R s m args below meth c D A nL Q cells slots pc L st B') : zK p l e R s m args below meth c D A nL Q cells slots pc L st B := by
  subst h
  have e : B.set b (sh, σ) = B := by
    apply List.ext_getElem?
    intro i
    by_cases hi : i = b
    · rw [hi, List.getElem?_set_self (List.getElem?_eq_some_iff.mp hb).1, hb]
    · rw [List.getElem?_set_ne (Ne.symm hi)]
  rw [← hB, e] at k
  exact k
end ZROWS6
theorem lead_not {n : Nat} {σ : zF} (hl : 0 ≤ fl_oI (fl_ldr σ n)) (hn : n ≤ 7) (h0 : fl_ct (fl_lead σ) n = 0) : False := by
  have h1 := (ldr_none_iff σ n).mpr h0
  rw [h1] at hl
  exact absurd hl (by decide)
theorem lead_is {n : Nat} {σ : zF} (hl : ¬ 0 ≤ fl_oI (fl_ldr σ n)) (hn : n ≤ 7) (h0 : 0 < fl_ct (fl_lead σ) n) : False := by
  have h2 := (oI_lt (o := fl_ldr σ n) (fun j hj => by have := fl_ldr_lt σ n j hj; omega)).mp (Int32.not_le.mp hl)
  have := (ldr_none_iff σ n).mp h2
  omega
theorem ln_cell {σ τ : zF} {b : Nat} (h : σ 8 b = τ 8 b) : fl_ln σ b = fl_ln τ b := fl_ln_cell h
section LAWMAIN
variable {p : Program} {l : Launch} {e : Env} {s : State} {m : MethodId} {args : Array Value} {below : List Frame} {meth : Method} {c : Code} {D : va_G} {cI cZ cB cE : ClassId} {A : Nat → Prop} {Q : State → Prop} {b0 N : Nat} {xs : Nat → Int32}
theorem lg_cmp_self (x : Int64) : lg_cmp x x = 0 := by simp [lg_cmp]
set_option maxHeartbeats 8000000 in
set_option maxRecDepth 100000 in
theorem lw_body (hlt : l.stackTraces = false) (C : zX p s m args meth c D (tyL cI cZ cB cE) A RL cL_law 22) (hX : va_X b0 N xs s s.heap) (hbl : b0 < s.heap.size) (hbA : ¬ A b0) (hN : N < 1000) (kend : ∀ (L0 : List (Nat × Value)) (B : List zB) (cells slots : Nat), cells ≤ 636910 → slots ≤ 7190737 → zK p l e room_1 s m args below meth c D A 22 Q cells slots 1032 L0 [.int (nI 1)] B) : zK p l e room_1 s m args below meth c D A 22 Q 0 0 0 [(0, .ref b0)] [] [] := by
  refine z_new C (ci := 2) (fs := [.null, .null]) wu_X2 tyX2_ok wl_L_28 wz_X2 wi_X2 rfl (fun j hj => by rcases (show j = 0 ∨ j = 1 by omega) with rfl | rfl <;> rfl) ⟨by show _ ≤ 636910; omega, by show _ ≤ 7190737; omega⟩ dL_law_0 (fun t => ?_)
  refine z_eq (B' := [([(t, .inr (.inr (.inr (2, [.null, .null]))))], zZ)]) rfl ?_
  refine z_dup C rfl dL_law_3 ?_
  refine z_callI (ret := none) C [true] rfl (c_X2_init l D cI cZ cB cE t) wq_yX2_init wm_L_96 ⟨rfl, wn_yX2_init⟩ ⟨rfl, rfl, Nat.le_of_ble_eq_true rfl, Nat.le_of_ble_eq_true rfl⟩ rfl rfl (Nat.le_of_ble_eq_true rfl) dL_law_4 ⟨by show _ ≤ 636910; omega, by show _ ≤ 7190737; omega⟩ ?_
  rintro r9 w9 ⟨rfl, fa, ta, rfl⟩
  refine z_eq (B' := [(shT t fa ta, zZ), (shF fa cI cZ, fl_begP 5 5 zZ), (shF ta cI cZ, zZ)]) rfl ?_
  have hI5 : fl_Iv 5 (fl_begP 5 5 zZ) := fl_begP_Iv (by decide) (by decide) (by decide) (fun _ _ => Or.inl rfl)
  refine z_astore_n C (L' := [(1, .ref (t)), (0, .ref (b0))]) dL_law_7 rfl (by decide) rfl ?_
  refine z_aload_n C dL_law_8 rfl 0 rfl ?_
  refine z_aload_n C dL_law_9 rfl 1 rfl ?_
  refine z_callX C hX hbl hbA [true, true, true] rfl (c_L_build l hlt D cI cZ cB cE 5 t fa ta (fl_begP 5 5 zZ) zZ hI5 b0 N xs hN) wq_yL_build wm_L_97 ws_yL_build ⟨rfl, rfl, Nat.le_of_ble_eq_true rfl, Nat.le_of_ble_eq_true rfl⟩ rfl rfl (Nat.le_of_ble_eq_true rfl) dL_law_10 ⟨by show _ ≤ 636910; omega, by show _ ≤ 7190737; omega⟩ ?_
  rintro r9 w9 ⟨n, a, g, σ, en, ps, rfl, hA, hk, rfl⟩
  refine z_eq (B' := [(smS cB a n g σ, zZ), (smG cE n g σ en, zZ), (smP cI ps, zZ), (shT t fa ta, zZ), (shF fa cI cZ, σ), (shF ta cI cZ, zZ)]) rfl ?_
  have hn3 := hA.iv.n3
  have hn7 := hA.iv.n7
  refine z_astore_n C (L' := [(2, .ref (a 0)), (1, .ref (t)), (0, .ref (b0))]) dL_law_13 rfl (by decide) rfl ?_
  refine z_aload_n C dL_law_14 rfl 0 rfl ?_
  refine z_ifnn C (tgt := 20) dL_law_15 (by decide) ?_
  refine z_aload_n C dL_law_20 rfl 0 rfl ?_
  refine z_sget C 0 rfl 4 (by decide) (v := .ref (a 1)) rfl wf_L_9 dL_law_21 ?_
  refine z_alenB C 0 rfl dL_law_24 ?_
  refine z_istore_n C (L' := [(3, .int (nI (n))), (2, .ref (a 0)), (1, .ref (t)), (0, .ref (b0))]) dL_law_25 rfl (by decide) rfl ?_
  refine z_iconst C (v := nI (0)) (by decide) dL_law_26 ?_
  refine z_istore C (L' := [(4, .int (nI (0))), (3, .int (nI (n))), (2, .ref (a 0)), (1, .ref (t)), (0, .ref (b0))]) dL_law_27 (by decide) rfl ?_
  have loop_29 : ∀ (k_29 tm : Nat) (ρ : zF) (gg : Nat → Nat) (ee : Nat → Nat → Nat) (pp : List (Nat × Int32 × Int32)) (τρ : zF) (cc : Nat) (ss : Nat), 14 < tm + k_29 → tm ≤ 14 → (hAρ : fA n (2240 + 182 * tm) ρ) → (hkρ : smK n ρ ee pp) → (hcc : cc ≤ 16044 + 1313 * tm) → (hss : ss ≤ 176517 + 14370 * tm) → zK p l e room_1 s m args below meth c D A 22 Q cc ss 29 [(0, .ref (b0)), (1, .ref (t)), (2, .ref (a 0)), (3, .int (nI (n))), (4, .int (nI (tm)))] [] [(smS cB a n gg ρ, zZ), (smG cE n gg ρ ee, zZ), (smP cI pp, zZ), (shT t fa ta, zZ), (shF fa cI cZ, ρ), (shF ta cI cZ, τρ)] := by
    intro k_29
    induction k_29 with
    | zero => intro tm ρ gg ee pp τρ cc ss m1_29 m2_29; exact absurd m1_29 (by omega)
    | succ k_29 ih_29 =>
      intro tm ρ gg ee pp τρ cc ss m1_29 m2_29 hAρ hkρ hcc hss
      refine z_iload C dL_law_29 4 rfl ?_
      refine z_bipush C (v := nI (14)) (by decide) dL_law_31 ?_
      refine z_icmp_geN C (tgt := 1027) dL_law_33 (by decide) (by omega) (by omega) (fun c_33 => ?_) (fun c_33 => ?_)
      · refine z_aload_n C dL_law_1027 rfl 2 rfl ?_
        refine z_aload_n C dL_law_1028 rfl 1 rfl ?_
        refine z_callVR C [true, true, true, true, true, true] rfl (c_X4_isSame l D cI cZ cB cE n t a gg fa ta ρ τρ ee pp hAρ.iv hkρ (hAρ.Lb (by omega))) wq_yX4_isSame wm_L_147 ⟨wn_yX4_isSame, wo_yX4_isSame⟩ ⟨rfl, rfl, Nat.le_of_ble_eq_true rfl, Nat.le_of_ble_eq_true rfl⟩ 0 rfl 0 rfl rfl rfl rfl (Nat.le_of_ble_eq_true rfl) dL_law_1029 ⟨by show _ ≤ 636910; omega, by show _ ≤ 7190737; omega⟩ ?_
        rintro r9 w9 ⟨rfl, rfl⟩
        exact kend _ _ _ _ (by omega) (by omega)
      · refine z_aload_n C dL_law_36 rfl 0 rfl ?_
        refine z_iconst C (v := nI (2)) (by decide) dL_law_37 ?_
        refine z_iload C dL_law_38 4 rfl ?_
        refine z_iaddN C dL_law_40 ?_
        refine z_callX C hX hbl hbA [false, false, false, false, false, false] rfl (c_L_cell l D cI cZ cB cE b0 N xs (2 + tm) (by omega) (by omega)) wq_yL_cell wm_L_82 ws_yL_cell ⟨rfl, rfl, Nat.le_of_ble_eq_true rfl, Nat.le_of_ble_eq_true rfl⟩ rfl rfl (Nat.le_of_ble_eq_true rfl) dL_law_41 ⟨(by show _ ≤ 636910; omega), (by show _ ≤ 7190737; omega)⟩ ?_
        rintro r9 w9 ⟨rfl, rfl⟩
        refine z_eq (B' := [(smS cB a n gg ρ, zZ), (smG cE n gg ρ ee, zZ), (smP cI pp, zZ), (shT t fa ta, zZ), (shF fa cI cZ, ρ), (shF ta cI cZ, τρ)]) rfl ?_
        refine z_iconst C (v := nI (1)) (by decide) dL_law_44 ?_
        refine z_ishr C dL_law_45 ?_
        refine z_sipush C (v := nI (263)) (by decide) dL_law_46 ?_
        refine z_iload C dL_law_49 4 rfl ?_
        refine z_imulN C dL_law_51 ?_
        refine z_iadd C dL_law_52 ?_
        generalize ((cw xs N (2 + tm)) >>> (nI (1) &&& 31)) + (nI (263 * tm)) = v9
        refine z_istore C (L' := [(5, .int (v9)), (0, .ref (b0)), (1, .ref (t)), (2, .ref (a 0)), (3, .int (nI (n))), (4, .int (nI (tm)))]) dL_law_53 (by decide) rfl ?_
        refine z_aload_n C dL_law_55 rfl 2 rfl ?_
        refine z_aload_n C dL_law_56 rfl 3 rfl ?_
        refine z_iload C dL_law_57 0 rfl ?_
        refine z_callSHx C (n := 3) [true, true, true, true, true, true] rfl (c_L_act l hlt D cI cZ cB cE n t (2240 + 182 * tm) a gg fa ta ρ τρ ee pp hAρ (by omega) hkρ (v9)) wk_yL_act wi_L ⟨by decide, by decide, by decide +kernel⟩ wm_L_92 ws_yL_act ⟨rfl, rfl, Nat.le_of_ble_eq_true rfl, Nat.le_of_ble_eq_true rfl⟩ rfl rfl (Nat.le_of_ble_eq_true rfl) dL_law_59 ⟨by show _ ≤ 636910; omega, by show _ ≤ 7190737; omega⟩ ?_
        rintro r9 w9 ⟨rfl, σ1, g1, e1, p1, hA1, hk1, rfl⟩
        refine z_eq (B' := [(smS cB a n g1 σ1, zZ), (smG cE n g1 σ1 e1, zZ), (smP cI p1, zZ), (shT t fa ta, zZ), (shF fa cI cZ, σ1), (shF ta cI cZ, τρ)]) rfl ?_
        refine z_if_neN C (tgt := 67) dL_law_62 (by decide) (by omega) (fun c_62 => ?_) (fun c_62 => ?_)
        · refine z_aload_n C dL_law_67 rfl 2 rfl ?_
          refine z_cV C (st' := [.long (fl_dA n σ1 n)]) (B' := [(smS cB a n g1 σ1, zZ), (smG cE n g1 σ1 e1, zZ), (smP cI p1, zZ), (shT t fa ta, zZ), (shF fa cI cZ, σ1), (shF ta cI cZ, τρ)]) [false, false, false, true, true, true] rfl (c_X2_digest l D cI cZ cB cE t fa ta σ1 τρ n hA1.iv  ) wq_yX2_digest wm_L_101 ⟨wn_yX2_digest, wo_yX2_digest⟩ ⟨rfl, rfl, Nat.le_of_ble_eq_true rfl, Nat.le_of_ble_eq_true rfl⟩ 3 rfl 0 rfl rfl rfl rfl (Nat.le_of_ble_eq_true rfl) dL_law_68 ⟨(by show _ ≤ 636910; omega), (by show _ ≤ 7190737; omega)⟩ rfl rfl ?_
          refine z_lstore C (L' := [(6, .long (fl_dA n σ1 n)), (5, .int (v9)), (0, .ref (b0)), (1, .ref (t)), (2, .ref (a 0)), (3, .int (nI (n))), (4, .int (nI (tm)))]) dL_law_71 (by decide) rfl ?_
          refine z_iconst C (v := nI (0)) (by decide) dL_law_73 ?_
          refine z_istore C (L' := [(8, .int (nI (0))), (6, .long (fl_dA n σ1 n)), (5, .int (v9)), (0, .ref (b0)), (1, .ref (t)), (2, .ref (a 0)), (3, .int (nI (n))), (4, .int (nI (tm)))]) dL_law_74 (by decide) rfl ?_
          refine z_bipush C (v := nI (99)) (by decide) dL_law_76 ?_
          refine z_istore C (L' := [(9, .int (nI (99))), (8, .int (nI (0))), (6, .long (fl_dA n σ1 n)), (5, .int (v9)), (0, .ref (b0)), (1, .ref (t)), (2, .ref (a 0)), (3, .int (nI (n))), (4, .int (nI (tm)))]) dL_law_78 (by decide) rfl ?_
          refine z_iconst C (v := nI (0)) (by decide) dL_law_80 ?_
          refine z_istore C (L' := [(10, .int (nI (0))), (9, .int (nI (99))), (8, .int (nI (0))), (6, .long (fl_dA n σ1 n)), (5, .int (v9)), (0, .ref (b0)), (1, .ref (t)), (2, .ref (a 0)), (3, .int (nI (n))), (4, .int (nI (tm)))]) dL_law_81 (by decide) rfl ?_
          refine z_iconst C (v := nI (0)) (by decide) dL_law_83 ?_
          refine z_istore C (L' := [(11, .int (nI (0))), (10, .int (nI (0))), (9, .int (nI (99))), (8, .int (nI (0))), (6, .long (fl_dA n σ1 n)), (5, .int (v9)), (0, .ref (b0)), (1, .ref (t)), (2, .ref (a 0)), (3, .int (nI (n))), (4, .int (nI (tm)))]) dL_law_84 (by decide) rfl ?_
          refine z_iconst C (v := nI (0)) (by decide) dL_law_86 ?_
          refine z_istore C (L' := [(12, .int (nI (0))), (11, .int (nI (0))), (10, .int (nI (0))), (9, .int (nI (99))), (8, .int (nI (0))), (6, .long (fl_dA n σ1 n)), (5, .int (v9)), (0, .ref (b0)), (1, .ref (t)), (2, .ref (a 0)), (3, .int (nI (n))), (4, .int (nI (tm)))]) dL_law_87 (by decide) rfl ?_
          refine z_iconst C (v := nI (0)) (by decide) dL_law_89 ?_
          refine z_istore C (L' := [(13, .int (nI (0))), (12, .int (nI (0))), (11, .int (nI (0))), (10, .int (nI (0))), (9, .int (nI (99))), (8, .int (nI (0))), (6, .long (fl_dA n σ1 n)), (5, .int (v9)), (0, .ref (b0)), (1, .ref (t)), (2, .ref (a 0)), (3, .int (nI (n))), (4, .int (nI (tm)))]) dL_law_90 (by decide) rfl ?_
          have loop_92 : ∀ (k_92 b : Nat) (most : Nat) (least : Nat), n < b + k_92 → b ≤ n → (hm : nI most = fl_max (σ1 9) b) → (hm10 : most ≤ 10) → (hle : nI least = (if b = 0 then nI 99 else fl_min (σ1 9) b)) → (hl99 : least ≤ 99) → zK p l e room_1 s m args below meth c D A 22 Q (cc + 1000) (ss + 11000) 92 [(0, .ref (b0)), (1, .ref (t)), (2, .ref (a 0)), (3, .int (nI (n))), (4, .int (nI (tm))), (5, .int (v9)), (6, .long (fl_dA n σ1 n)), (8, .int (nI (most))), (9, .int (nI (least))), (10, .int (nI (fl_sm (fl_kn σ1) b))), (11, .int (nI (fl_ct (fl_lead σ1) b))), (12, .int (fl_max (σ1 3) b)), (13, .int (nI (b)))] [] [(smS cB a n g1 σ1, zZ), (smG cE n g1 σ1 e1, zZ), (smP cI p1, zZ), (shT t fa ta, zZ), (shF fa cI cZ, σ1), (shF ta cI cZ, τρ)] := by
            intro k_92
            induction k_92 with
            | zero => intro b most least m1_92 m2_92; exact absurd m1_92 (by omega)
            | succ k_92 ih_92 =>
              intro b most least m1_92 m2_92 hm hm10 hle hl99
              refine z_iload C dL_law_92 12 rfl ?_
              refine z_iload_n C dL_law_94 rfl 3 rfl ?_
              refine z_icmp_geN C (tgt := 541) dL_law_95 (by decide) (by omega) (by omega) (fun c_95 => ?_) (fun c_95 => ?_)
              · have hbn9 : n = b := by omega
                subst hbn9
                rw [if_neg (by omega)] at hle
                have hctn := fl_ct_le (fl_lead σ1) n
                have hsm := fl_sm_le (f := fl_kn σ1) (fun i hi => hA1.iv.knT hi) n (Nat.le_refl n)
                refine z_iload C dL_law_541 7 rfl ?_
                refine z_aload_n C dL_law_543 rfl 1 rfl ?_
                refine z_bipush C (v := nI (8)) (by decide) dL_law_544 ?_
                refine z_cV C (st' := [.int (fl_max (σ1 9) n), .int (nI (most))]) (B' := [(smS cB a n g1 σ1, zZ), (smG cE n g1 σ1 e1, zZ), (smP cI p1, zZ), (shT t fa ta, zZ), (shF fa cI cZ, σ1), (shF ta cI cZ, τρ)]) [false, false, false, true, true, true] rfl (c_X2_count l D cI cZ cB cE t fa ta σ1 τρ n hA1.iv (8) (by omega)) wq_yX2_count wm_L_127 ⟨wn_yX2_count, wo_yX2_count⟩ ⟨rfl, rfl, Nat.le_of_ble_eq_true rfl, Nat.le_of_ble_eq_true rfl⟩ 3 rfl 0 rfl rfl rfl rfl (Nat.le_of_ble_eq_true rfl) dL_law_546 ⟨(by show _ ≤ 636910; omega), (by show _ ≤ 7190737; omega)⟩ rfl rfl ?_
                refine z_icmp_ne C (tgt := 636) dL_law_549 (by decide) (fun c_549 => ?_) (fun c_549 => ?_)
                · exact absurd hm c_549
                · refine z_iload C dL_law_552 8 rfl ?_
                  refine z_aload_n C dL_law_554 rfl 1 rfl ?_
                  refine z_bipush C (v := nI (9)) (by decide) dL_law_555 ?_
                  refine z_cV C (st' := [.int (fl_min (σ1 9) n), .int (nI (least))]) (B' := [(smS cB a n g1 σ1, zZ), (smG cE n g1 σ1 e1, zZ), (smP cI p1, zZ), (shT t fa ta, zZ), (shF fa cI cZ, σ1), (shF ta cI cZ, τρ)]) [false, false, false, true, true, true] rfl (c_X2_count l D cI cZ cB cE t fa ta σ1 τρ n hA1.iv (9) (by omega)) wq_yX2_count wm_L_127 ⟨wn_yX2_count, wo_yX2_count⟩ ⟨rfl, rfl, Nat.le_of_ble_eq_true rfl, Nat.le_of_ble_eq_true rfl⟩ 3 rfl 0 rfl rfl rfl rfl (Nat.le_of_ble_eq_true rfl) dL_law_557 ⟨(by show _ ≤ 636910; omega), (by show _ ≤ 7190737; omega)⟩ rfl rfl ?_
                  refine z_icmp_ne C (tgt := 636) dL_law_560 (by decide) (fun c_560 => ?_) (fun c_560 => ?_)
                  · exact absurd hle c_560
                  · refine z_aload_n C dL_law_563 rfl 1 rfl ?_
                    refine z_cV C (st' := [.double (FP.ddiv (FP.i2d (nI (fl_sm (fl_kn σ1) n))) (FP.i2d (nI (n))))]) (B' := [(smS cB a n g1 σ1, zZ), (smG cE n g1 σ1 e1, zZ), (smP cI p1, zZ), (shT t fa ta, zZ), (shF fa cI cZ, σ1), (shF ta cI cZ, τρ)]) [false, false, false, true, true, true] rfl (c_X2_mean l D cI cZ cB cE t fa ta σ1 τρ n hA1.iv  ) wq_yX2_mean wm_L_130 ⟨wn_yX2_mean, wo_yX2_mean⟩ ⟨rfl, rfl, Nat.le_of_ble_eq_true rfl, Nat.le_of_ble_eq_true rfl⟩ 3 rfl 0 rfl rfl rfl rfl (Nat.le_of_ble_eq_true rfl) dL_law_564 ⟨(by show _ ≤ 636910; omega), (by show _ ≤ 7190737; omega)⟩ rfl rfl ?_
                    refine z_iload C dL_law_567 9 rfl ?_
                    refine z_i2d C dL_law_569 ?_
                    refine z_iload_n C dL_law_570 rfl 3 rfl ?_
                    refine z_i2d C dL_law_571 ?_
                    refine z_ddiv C (fl_dd (by omega) (by omega) (by omega)) dL_law_572 ?_
                    refine z_dcmp C dL_law_573 ?_
                    refine z_if_ne C (tgt := 636) dL_law_574 (by decide) (fun c_574 => ?_) (fun c_574 => ?_)
                    · exact absurd (fl_dceq hA1.iv) c_574
                    · refine z_iload C dL_law_577 10 rfl ?_
                      refine z_aload_n C dL_law_579 rfl 1 rfl ?_
                      refine z_iconst C (v := nI (3)) (by decide) dL_law_580 ?_
                      refine z_cV C (st' := [.int (nI (fl_ct (fl_lead σ1) n)), .int (nI (fl_ct (fl_lead σ1) n))]) (B' := [(smS cB a n g1 σ1, zZ), (smG cE n g1 σ1 e1, zZ), (smP cI p1, zZ), (shT t fa ta, zZ), (shF fa cI cZ, σ1), (shF ta cI cZ, τρ)]) [false, false, false, true, true, true] rfl (c_X2_count l D cI cZ cB cE t fa ta σ1 τρ n hA1.iv (3) (by omega)) wq_yX2_count wm_L_127 ⟨wn_yX2_count, wo_yX2_count⟩ ⟨rfl, rfl, Nat.le_of_ble_eq_true rfl, Nat.le_of_ble_eq_true rfl⟩ 3 rfl 0 rfl rfl rfl rfl (Nat.le_of_ble_eq_true rfl) dL_law_581 ⟨(by show _ ≤ 636910; omega), (by show _ ≤ 7190737; omega)⟩ rfl rfl ?_
                      have he_1 := fl_ct_le (fl_lead σ1) n
                      refine z_icmp_neN C (tgt := 636) dL_law_584 (by decide) (by omega) (by omega) (fun c_584 => ?_) (fun c_584 => ?_)
                      · exact absurd rfl c_584
                      · refine z_iload C dL_law_587 11 rfl ?_
                        refine z_aload_n C dL_law_589 rfl 1 rfl ?_
                        refine z_iconst C (v := nI (4)) (by decide) dL_law_590 ?_
                        refine z_cV C (st' := [.int (fl_max (σ1 3) n), .int (fl_max (σ1 3) n)]) (B' := [(smS cB a n g1 σ1, zZ), (smG cE n g1 σ1 e1, zZ), (smP cI p1, zZ), (shT t fa ta, zZ), (shF fa cI cZ, σ1), (shF ta cI cZ, τρ)]) [false, false, false, true, true, true] rfl (c_X2_count l D cI cZ cB cE t fa ta σ1 τρ n hA1.iv (4) (by omega)) wq_yX2_count wm_L_127 ⟨wn_yX2_count, wo_yX2_count⟩ ⟨rfl, rfl, Nat.le_of_ble_eq_true rfl, Nat.le_of_ble_eq_true rfl⟩ 3 rfl 0 rfl rfl rfl rfl (Nat.le_of_ble_eq_true rfl) dL_law_591 ⟨(by show _ ≤ 636910; omega), (by show _ ≤ 7190737; omega)⟩ rfl rfl ?_
                        refine z_icmp_ne C (tgt := 636) dL_law_594 (by decide) (fun c_594 => ?_) (fun c_594 => ?_)
                        · exact absurd rfl c_594
                        · have K_638 : zK p l e room_1 s m args below meth c D A 22 Q (cc + 1000) (ss + 11000) 638 [(0, .ref (b0)), (1, .ref (t)), (2, .ref (a 0)), (3, .int (nI (n))), (4, .int (nI (tm))), (5, .int (v9)), (6, .long (fl_dA n σ1 n)), (8, .int (nI (most))), (9, .int (nI (least))), (10, .int (nI (fl_sm (fl_kn σ1) n))), (11, .int (nI (fl_ct (fl_lead σ1) n))), (12, .int (fl_max (σ1 3) n)), (13, .int (nI (n)))] [] [(smS cB a n g1 σ1, zZ), (smG cE n g1 σ1 e1, zZ), (smP cI p1, zZ), (shT t fa ta, zZ), (shF fa cI cZ, σ1), (shF ta cI cZ, τρ)] := by
                            refine z_aload_n C dL_law_638 rfl 1 rfl ?_
                            refine z_cV C (st' := [.int ((fl_unt n 0 (fl_cpy σ1 τρ)).1)]) (B' := [(smS cB a n g1 σ1, zZ), (smG cE n g1 σ1 e1, zZ), (smP cI p1, zZ), (shT t fa ta, zZ), (shF fa cI cZ, σ1), (shF ta cI cZ, (fl_unt n 0 (fl_cpy σ1 τρ)).2)]) [false, false, false, true, true, true] rfl (c_X2_until l D cI cZ cB cE t fa ta σ1 τρ n hA1.iv) wq_yX2_until wm_L_138 ⟨wn_yX2_until, wo_yX2_until⟩ ⟨rfl, rfl, Nat.le_of_ble_eq_true rfl, Nat.le_of_ble_eq_true rfl⟩ 3 rfl 0 rfl rfl rfl rfl (Nat.le_of_ble_eq_true rfl) dL_law_639 ⟨(by show _ ≤ 636910; omega), (by show _ ≤ 7190737; omega)⟩ rfl rfl ?_
                            generalize (fl_unt n 0 (fl_cpy σ1 τρ)).2 = τ_2
                            refine z_istore C (L' := [(13, .int ((fl_unt n 0 (fl_cpy σ1 τρ)).1)), (0, .ref (b0)), (1, .ref (t)), (2, .ref (a 0)), (3, .int (nI (n))), (4, .int (nI (tm))), (5, .int (v9)), (6, .long (fl_dA n σ1 n)), (8, .int (nI (most))), (9, .int (nI (least))), (10, .int (nI (fl_sm (fl_kn σ1) n))), (11, .int (nI (fl_ct (fl_lead σ1) n))), (12, .int (fl_max (σ1 3) n))]) dL_law_642 (by decide) rfl ?_
                            refine z_iconst C (v := nI (1)) (by decide) dL_law_644 ?_
                            refine z_iload C dL_law_645 6 rfl ?_
                            refine z_iconst C (v := nI (4)) (by decide) dL_law_647 ?_
                            refine z_ishr C dL_law_648 ?_
                            refine z_bipush C (v := nI (6)) (by decide) dL_law_649 ?_
                            refine z_cS C (st' := [.int (nI (bw (v9 >>> (nI (4) &&& 31)) (6))), .int (nI (1))]) (B' := [(smS cB a n g1 σ1, zZ), (smG cE n g1 σ1 e1, zZ), (smP cI p1, zZ), (shT t fa ta, zZ), (shF fa cI cZ, σ1), (shF ta cI cZ, τ_2)]) [false, false, false, false, false, false] rfl (c_L_below l D cI cZ cB cE (v9 >>> (nI (4) &&& 31)) (6) (by omega) (by omega)) wq_yL_below wm_L_15 ws_yL_below ⟨rfl, rfl, Nat.le_of_ble_eq_true rfl, Nat.le_of_ble_eq_true rfl⟩ rfl rfl (Nat.le_of_ble_eq_true rfl) dL_law_651 ⟨(by show _ ≤ 636910; omega), (by show _ ≤ 7190737; omega)⟩ rfl rfl ?_
                            have hw_3 := bw_lt (v9 >>> (nI (4) &&& 31)) (k := 6) (by omega)
                            generalize bw (v9 >>> (nI (4) &&& 31)) (6) = w_3 at hw_3
                            refine z_iaddN C dL_law_654 ?_
                            obtain ⟨h, hhE⟩ : ∃ h, h = 1 + w_3 := ⟨_, rfl⟩
                            rw [← hhE]
                            have h1 : 1 ≤ h := by omega
                            have h6 : h ≤ 6 := by omega
                            refine z_istore C (L' := [(14, .int (nI (h))), (13, .int ((fl_unt n 0 (fl_cpy σ1 τρ)).1)), (0, .ref (b0)), (1, .ref (t)), (2, .ref (a 0)), (3, .int (nI (n))), (4, .int (nI (tm))), (5, .int (v9)), (6, .long (fl_dA n σ1 n)), (8, .int (nI (most))), (9, .int (nI (least))), (10, .int (nI (fl_sm (fl_kn σ1) n))), (11, .int (nI (fl_ct (fl_lead σ1) n))), (12, .int (fl_max (σ1 3) n))]) dL_law_655 (by decide) rfl ?_
                            refine z_bipush C (v := nI (10)) (by decide) dL_law_657 ?_
                            refine z_newa C (atype := .int) (ty := .int) (cA := cI) 0 wa_int rfl rfl rfl (C.2.2.2.2.2.1.2 0 _ rfl).2 (by omega) (by decide) ⟨by show _ ≤ 636910; omega, by show _ ≤ 7190737; omega⟩ dL_law_659 (fun q_659 => ?_)
                            refine z_eq (B' := [(smS cB a n g1 σ1, zZ), (smG cE n g1 σ1 e1, zZ), (smP cI p1, zZ), (shT t fa ta, zZ), (shF fa cI cZ, σ1), (shF ta cI cZ, τ_2), ([(q_659, .inl (cI, 10))], zZ)]) rfl ?_
                            refine z_astore C (L' := [(15, .ref (q_659)), (14, .int (nI (h))), (13, .int ((fl_unt n 0 (fl_cpy σ1 τρ)).1)), (0, .ref (b0)), (1, .ref (t)), (2, .ref (a 0)), (3, .int (nI (n))), (4, .int (nI (tm))), (5, .int (v9)), (6, .long (fl_dA n σ1 n)), (8, .int (nI (most))), (9, .int (nI (least))), (10, .int (nI (fl_sm (fl_kn σ1) n))), (11, .int (nI (fl_ct (fl_lead σ1) n))), (12, .int (fl_max (σ1 3) n))]) dL_law_661 (by decide) rfl ?_
                            refine z_iconst C (v := nI (3)) (by decide) dL_law_663 ?_
                            refine z_istore C (L' := [(16, .int (nI (3))), (15, .ref (q_659)), (14, .int (nI (h))), (13, .int ((fl_unt n 0 (fl_cpy σ1 τρ)).1)), (0, .ref (b0)), (1, .ref (t)), (2, .ref (a 0)), (3, .int (nI (n))), (4, .int (nI (tm))), (5, .int (v9)), (6, .long (fl_dA n σ1 n)), (8, .int (nI (most))), (9, .int (nI (least))), (10, .int (nI (fl_sm (fl_kn σ1) n))), (11, .int (nI (fl_ct (fl_lead σ1) n))), (12, .int (fl_max (σ1 3) n))]) dL_law_664 (by decide) rfl ?_
                            refine z_cont (B' := [(smS cB a n g1 σ1, zZ), (smG cE n g1 σ1 e1, zZ), (smP cI p1, zZ), (shT t fa ta, zZ), (shF fa cI cZ, σ1), (shF ta cI cZ, τ_2), ([(q_659, .inl (cI, 10))], (dueA (fl_ofF n (fl_hours n h σ1)) 3))]) 6 rfl (dueA_0 _) rfl ?_
                            have loop_666 : ∀ (k_666 w : Nat) (τw : zF), 10 < w + k_666 → w ≤ 10 → (hw3 : 3 ≤ w) → zK p l e room_1 s m args below meth c D A 22 Q ((cc + 1000) + 1) ((ss + 11000) + 10) 666 [(0, .ref (b0)), (1, .ref (t)), (2, .ref (a 0)), (3, .int (nI (n))), (4, .int (nI (tm))), (6, .long (fl_dA n σ1 n)), (13, .int ((fl_unt n 0 (fl_cpy σ1 τρ)).1)), (14, .int (nI (h))), (15, .ref (q_659)), (16, .int (nI (w)))] [] [(smS cB a n g1 σ1, zZ), (smG cE n g1 σ1 e1, zZ), (smP cI p1, zZ), (shT t fa ta, zZ), (shF fa cI cZ, σ1), (shF ta cI cZ, τw), ([(q_659, .inl (cI, 10))], (dueA (fl_ofF n (fl_hours n h σ1)) w))] := by
                              intro k_666
                              induction k_666 with
                              | zero => intro w τw m1_666 m2_666; exact absurd m1_666 (by omega)
                              | succ k_666 ih_666 =>
                                intro w τw m1_666 m2_666 hw3
                                refine z_iload C dL_law_666 9 rfl ?_
                                refine z_bipush C (v := nI (10)) (by decide) dL_law_668 ?_
                                refine z_icmp_geN C (tgt := 692) dL_law_670 (by decide) (by omega) (by omega) (fun c_670 => ?_) (fun c_670 => ?_)
                                · have hw9 : w = 10 := by omega
                                  subst hw9
                                  refine z_aload_n C dL_law_692 rfl 1 rfl ?_
                                  refine z_cV C (st' := [.long (fl_dA n σ1 n)]) (B' := [(smS cB a n g1 σ1, zZ), (smG cE n g1 σ1 e1, zZ), (smP cI p1, zZ), (shT t fa ta, zZ), (shF fa cI cZ, σ1), (shF ta cI cZ, τw), ([(q_659, .inl (cI, 10))], (dueA (fl_ofF n (fl_hours n h σ1)) 10))]) [false, false, false, true, true, true, false] rfl (c_X2_digest l D cI cZ cB cE t fa ta σ1 τw n hA1.iv  ) wq_yX2_digest wm_L_101 ⟨wn_yX2_digest, wo_yX2_digest⟩ ⟨rfl, rfl, Nat.le_of_ble_eq_true rfl, Nat.le_of_ble_eq_true rfl⟩ 3 rfl 0 rfl rfl rfl rfl (Nat.le_of_ble_eq_true rfl) dL_law_693 ⟨(by show _ ≤ 636910; omega), (by show _ ≤ 7190737; omega)⟩ rfl rfl ?_
                                  refine z_lload C dL_law_696 5 rfl ?_
                                  refine z_lcmp C dL_law_698 ?_
                                  refine z_if_eq C (tgt := 704) dL_law_699 (by decide) (fun c_699 => ?_) (fun c_699 => ?_)
                                  · refine z_aload_n C dL_law_704 rfl 1 rfl ?_
                                    refine z_bipush C (v := nI (6)) (by decide) dL_law_705 ?_
                                    refine z_cV C (st' := [.int (σ1 0 (3))]) (B' := [(smS cB a n g1 σ1, zZ), (smG cE n g1 σ1 e1, zZ), (smP cI p1, zZ), (shT t fa ta, zZ), (shF fa cI cZ, σ1), (shF ta cI cZ, τw), ([(q_659, .inl (cI, 10))], (dueA (fl_ofF n (fl_hours n h σ1)) 10))]) [false, false, false, true, true, true, false] rfl (c_X2_count l D cI cZ cB cE t fa ta σ1 τw n hA1.iv (6) (by omega)) wq_yX2_count wm_L_127 ⟨wn_yX2_count, wo_yX2_count⟩ ⟨rfl, rfl, Nat.le_of_ble_eq_true rfl, Nat.le_of_ble_eq_true rfl⟩ 3 rfl 0 rfl rfl rfl rfl (Nat.le_of_ble_eq_true rfl) dL_law_707 ⟨(by show _ ≤ 636910; omega), (by show _ ≤ 7190737; omega)⟩ rfl rfl ?_
                                    refine z_istore C (L' := [(16, .int (σ1 0 (3))), (0, .ref (b0)), (1, .ref (t)), (2, .ref (a 0)), (3, .int (nI (n))), (4, .int (nI (tm))), (6, .long (fl_dA n σ1 n)), (13, .int ((fl_unt n 0 (fl_cpy σ1 τρ)).1)), (14, .int (nI (h))), (15, .ref (q_659))]) dL_law_710 (by decide) rfl ?_
                                    refine z_iconst C (v := nI (0)) (by decide) dL_law_712 ?_
                                    refine z_istore C (L' := [(17, .int (nI (0))), (16, .int (σ1 0 (3))), (0, .ref (b0)), (1, .ref (t)), (2, .ref (a 0)), (3, .int (nI (n))), (4, .int (nI (tm))), (6, .long (fl_dA n σ1 n)), (13, .int ((fl_unt n 0 (fl_cpy σ1 τρ)).1)), (14, .int (nI (h))), (15, .ref (q_659))]) dL_law_713 (by decide) rfl ?_
                                    have loop_715 : ∀ (k_715 k : Nat) (gg : Nat → Nat) (ee : Nat → Nat → Nat) (τk : zF) (cc2 : Nat) (ss2 : Nat), h < k + k_715 → k ≤ h → (hkh : smK n (fl_hours n k σ1) ee p1) → (hcc2 : cc2 ≤ (cc + 1000) + 1 + 52 * k) → (hss2 : ss2 ≤ (ss + 11000) + 10 + 560 * k) → zK p l e room_1 s m args below meth c D A 22 Q cc2 ss2 715 [(0, .ref (b0)), (1, .ref (t)), (2, .ref (a 0)), (3, .int (nI (n))), (4, .int (nI (tm))), (13, .int ((fl_unt n 0 (fl_cpy σ1 τρ)).1)), (14, .int (nI (h))), (15, .ref (q_659)), (16, .int ((fl_hours n k σ1) 0 (3))), (17, .int (nI (k)))] [] [(smS cB a n gg ((fl_hours n k σ1)), zZ), (smG cE n gg ((fl_hours n k σ1)) ee, zZ), (smP cI p1, zZ), (shT t fa ta, zZ), (shF fa cI cZ, (fl_hours n k σ1)), (shF ta cI cZ, τk), ([(q_659, .inl (cI, 10))], (dueA (fl_ofF n (fl_hours n h σ1)) 10))] := by
                                      intro k_715
                                      induction k_715 with
                                      | zero => intro k gg ee τk cc2 ss2 m1_715 m2_715; exact absurd m1_715 (by omega)
                                      | succ k_715 ih_715 =>
                                        intro k gg ee τk cc2 ss2 m1_715 m2_715 hkh hcc2 hss2
                                        have hmk : k * n ≤ 6 * 7 := Nat.mul_le_mul (by omega) (by omega)
                                        have hAk := fA_hours hA1 k (by omega)
                                        refine z_iload C dL_law_715 9 rfl ?_
                                        refine z_iload C dL_law_717 6 rfl ?_
                                        refine z_icmp_geN C (tgt := 976) dL_law_719 (by decide) (by omega) (by omega) (fun c_719 => ?_) (fun c_719 => ?_)
                                        · have hk9 : h = k := by omega
                                          subst hk9
                                          refine z_aload_n C dL_law_976 rfl 1 rfl ?_
                                          refine z_bipush C (v := nI (6)) (by decide) dL_law_977 ?_
                                          refine z_cV C (st' := [.int (((fl_hours n h σ1)) 0 (3))]) (B' := [(smS cB a n gg ((fl_hours n h σ1)), zZ), (smG cE n gg ((fl_hours n h σ1)) ee, zZ), (smP cI p1, zZ), (shT t fa ta, zZ), (shF fa cI cZ, (fl_hours n h σ1)), (shF ta cI cZ, τk), ([(q_659, .inl (cI, 10))], (dueA (fl_ofF n (fl_hours n h σ1)) 10))]) [false, false, false, true, true, true, false] rfl (c_X2_count l D cI cZ cB cE t fa ta ((fl_hours n h σ1)) τk n hAk.iv (6) (by omega)) wq_yX2_count wm_L_127 ⟨wn_yX2_count, wo_yX2_count⟩ ⟨rfl, rfl, Nat.le_of_ble_eq_true rfl, Nat.le_of_ble_eq_true rfl⟩ 3 rfl 0 rfl rfl rfl rfl (Nat.le_of_ble_eq_true rfl) dL_law_979 ⟨(by show _ ≤ 636910; omega), (by show _ ≤ 7190737; omega)⟩ rfl rfl ?_
                                          refine z_iload C dL_law_982 8 rfl ?_
                                          refine z_icmp_eq C (tgt := 989) dL_law_984 (by decide) (fun c_984 => ?_) (fun c_984 => ?_)
                                          · refine z_iconst C (v := nI (3)) (by decide) dL_law_989 ?_
                                            refine z_istore C (L' := [(17, .int (nI (3))), (0, .ref (b0)), (1, .ref (t)), (2, .ref (a 0)), (3, .int (nI (n))), (4, .int (nI (tm))), (13, .int ((fl_unt n 0 (fl_cpy σ1 τρ)).1)), (14, .int (nI (h))), (15, .ref (q_659)), (16, .int ((fl_hours n h σ1) 0 (3)))]) dL_law_990 (by decide) rfl ?_
                                            have loop_992 : ∀ (k_992 w : Nat), 10 < w + k_992 → w ≤ 10 → (hw3 : 3 ≤ w) → zK p l e room_1 s m args below meth c D A 22 Q cc2 ss2 992 [(0, .ref (b0)), (1, .ref (t)), (2, .ref (a 0)), (3, .int (nI (n))), (4, .int (nI (tm))), (15, .ref (q_659)), (17, .int (nI (w)))] [] [(smS cB a n gg ((fl_hours n h σ1)), zZ), (smG cE n gg ((fl_hours n h σ1)) ee, zZ), (smP cI p1, zZ), (shT t fa ta, zZ), (shF fa cI cZ, (fl_hours n h σ1)), (shF ta cI cZ, τk), ([(q_659, .inl (cI, 10))], (dueA (fl_ofF n (fl_hours n h σ1)) 10))] := by
                                              intro k_992
                                              induction k_992 with
                                              | zero => intro w  m1_992 m2_992; exact absurd m1_992 (by omega)
                                              | succ k_992 ih_992 =>
                                                intro w  m1_992 m2_992 hw3
                                                refine z_iload C dL_law_992 6 rfl ?_
                                                refine z_bipush C (v := nI (10)) (by decide) dL_law_994 ?_
                                                refine z_icmp_geN C (tgt := 1021) dL_law_996 (by decide) (by omega) (by omega) (fun c_996 => ?_) (fun c_996 => ?_)
                                                · refine z_drop (B' := [(smS cB a n gg ((fl_hours n h σ1)), zZ), (smG cE n gg ((fl_hours n h σ1)) ee, zZ), (smP cI p1, zZ), (shT t fa ta, zZ), (shF fa cI cZ, (fl_hours n h σ1)), (shF ta cI cZ, τk)]) (X := zW [([(q_659, .inl (cI, 10))], (dueA (fl_ofF n (fl_hours n h σ1)) 10))]) (by rw [← zW_app]; exact List.Perm.refl _) ?_
                                                  refine z_iinc C (L' := [(4, .int (nI (tm + 1))), (0, .ref (b0)), (1, .ref (t)), (2, .ref (a 0)), (3, .int (nI (n))), (15, .ref (q_659)), (17, .int (nI (w)))]) dL_law_1021 4 rfl (z_inc1 _) (by decide) rfl ?_
                                                  refine z_goto C (tgt := 29) dL_law_1024 (by decide) ?_
                                                  have hmh : h * n ≤ 6 * 7 := Nat.mul_le_mul (by omega) (by omega)
                                                  refine z_sub (L' := [(0, .ref (b0)), (1, .ref (t)), (2, .ref (a 0)), (3, .int (nI (n))), (4, .int (nI (tm + 1)))]) [1, 2, 3, 4, 0] rfl ?_
                                                  exact ih_29 (tm + 1) (fl_hours n h σ1) gg ee p1 τk cc2 ss2 (by omega) (by omega) ((fA_hours hA1 h (by omega)).mono (by omega)) hkh (by omega) (by omega)
                                                · refine z_aload_n C dL_law_999 rfl 1 rfl ?_
                                                  refine z_iload C dL_law_1000 6 rfl ?_
                                                  refine z_cV C (st' := [.int (fl_ofF n ((fl_hours n h σ1)) (w))]) (B' := [(smS cB a n gg ((fl_hours n h σ1)), zZ), (smG cE n gg ((fl_hours n h σ1)) ee, zZ), (smP cI p1, zZ), (shT t fa ta, zZ), (shF fa cI cZ, (fl_hours n h σ1)), (shF ta cI cZ, τk), ([(q_659, .inl (cI, 10))], (dueA (fl_ofF n (fl_hours n h σ1)) 10))]) [false, false, false, true, true, true, false] rfl (c_X2_count l D cI cZ cB cE t fa ta ((fl_hours n h σ1)) τk n hAk.iv (w) (by omega)) wq_yX2_count wm_L_127 ⟨wn_yX2_count, wo_yX2_count⟩ ⟨rfl, rfl, Nat.le_of_ble_eq_true rfl, Nat.le_of_ble_eq_true rfl⟩ 3 rfl 0 rfl rfl rfl rfl (Nat.le_of_ble_eq_true rfl) dL_law_1002 ⟨(by show _ ≤ 636910; omega), (by show _ ≤ 7190737; omega)⟩ rfl rfl ?_
                                                  refine z_aload C dL_law_1005 5 rfl ?_
                                                  refine z_iload C dL_law_1007 6 rfl ?_
                                                  refine z_iald C 6 rfl 0 0 rfl rfl dL_law_1009 (by omega) (by omega) ?_
                                                  refine z_top (y := fl_ofF n (fl_hours n h σ1) (w)) (dueA_get (fl_ofF n (fl_hours n h σ1)) (by omega) (by omega)) ?_
                                                  refine z_icmp_eq C (tgt := 1015) dL_law_1010 (by decide) (fun c_1010 => ?_) (fun c_1010 => ?_)
                                                  · refine z_iinc C (L' := [(17, .int (nI (w + 1))), (0, .ref (b0)), (1, .ref (t)), (2, .ref (a 0)), (3, .int (nI (n))), (4, .int (nI (tm))), (15, .ref (q_659))]) dL_law_1015 6 rfl (z_inc1 _) (by decide) rfl ?_
                                                    refine z_goto C (tgt := 992) dL_law_1018 (by decide) ?_
                                                    refine z_sub (L' := [(0, .ref (b0)), (1, .ref (t)), (2, .ref (a 0)), (3, .int (nI (n))), (4, .int (nI (tm))), (15, .ref (q_659)), (17, .int (nI (w + 1)))]) [1, 2, 3, 4, 5, 6, 0] rfl ?_
                                                    exact ih_992 (w + 1)  (by omega) (by omega) (by omega)
                                                  · exact absurd rfl c_1010
                                            refine z_sub (L' := [(0, .ref (b0)), (1, .ref (t)), (2, .ref (a 0)), (3, .int (nI (n))), (4, .int (nI (tm))), (15, .ref (q_659)), (17, .int (nI (3)))]) [1, 2, 3, 4, 5, 8, 0] rfl ?_
                                            exact loop_992 (10 + 1) 3  (by omega) (by omega) (by omega)
                                          · exact absurd rfl c_984
                                        · refine z_iload_n C dL_law_722 rfl 3 rfl ?_
                                          refine z_newa C (atype := .int) (ty := .int) (cA := cI) 0 wa_int rfl rfl rfl (C.2.2.2.2.2.1.2 0 _ rfl).2 (by omega) (by show _ * 4 ≤ _; omega) ⟨by show _ ≤ 636910; omega, by show _ ≤ 7190737; omega⟩ dL_law_723 (fun q_723 => ?_)
                                          refine z_eq (B' := [(smS cB a n gg ((fl_hours n k σ1)), zZ), (smG cE n gg ((fl_hours n k σ1)) ee, zZ), (smP cI p1, zZ), (shT t fa ta, zZ), (shF fa cI cZ, (fl_hours n k σ1)), (shF ta cI cZ, τk), ([(q_659, .inl (cI, 10))], (dueA (fl_ofF n (fl_hours n h σ1)) 10)), ([(q_723, .inl (cI, n))], zZ)]) rfl ?_
                                          refine z_astore C (L' := [(18, .ref (q_723)), (0, .ref (b0)), (1, .ref (t)), (2, .ref (a 0)), (3, .int (nI (n))), (4, .int (nI (tm))), (13, .int ((fl_unt n 0 (fl_cpy σ1 τρ)).1)), (14, .int (nI (h))), (15, .ref (q_659)), (16, .int ((fl_hours n k σ1) 0 (3))), (17, .int (nI (k)))]) dL_law_725 (by decide) rfl ?_
                                          refine z_iload_n C dL_law_727 rfl 4 rfl ?_
                                          refine z_newa C (atype := .int) (ty := .int) (cA := cI) 0 wa_int rfl rfl rfl (C.2.2.2.2.2.1.2 0 _ rfl).2 (by omega) (by show _ * 4 ≤ _; omega) ⟨by show _ ≤ 636910; omega, by show _ ≤ 7190737; omega⟩ dL_law_728 (fun q_728 => ?_)
                                          refine z_eq (B' := [(smS cB a n gg ((fl_hours n k σ1)), zZ), (smG cE n gg ((fl_hours n k σ1)) ee, zZ), (smP cI p1, zZ), (shT t fa ta, zZ), (shF fa cI cZ, (fl_hours n k σ1)), (shF ta cI cZ, τk), ([(q_659, .inl (cI, 10))], (dueA (fl_ofF n (fl_hours n h σ1)) 10)), ([(q_723, .inl (cI, n))], zZ), ([(q_728, .inl (cI, n))], zZ)]) rfl ?_
                                          refine z_astore C (L' := [(19, .ref (q_728)), (18, .ref (q_723)), (0, .ref (b0)), (1, .ref (t)), (2, .ref (a 0)), (3, .int (nI (n))), (4, .int (nI (tm))), (13, .int ((fl_unt n 0 (fl_cpy σ1 τρ)).1)), (14, .int (nI (h))), (15, .ref (q_659)), (16, .int ((fl_hours n k σ1) 0 (3))), (17, .int (nI (k)))]) dL_law_730 (by decide) rfl ?_
                                          refine z_iload_n C dL_law_732 rfl 5 rfl ?_
                                          refine z_newa C (atype := .boolean) (ty := .boolean) (cA := cZ) 1 wa_boolean rfl rfl rfl (C.2.2.2.2.2.1.2 1 _ rfl).2 (by omega) (by show _ * 1 ≤ _; omega) ⟨by show _ ≤ 636910; omega, by show _ ≤ 7190737; omega⟩ dL_law_733 (fun q_733 => ?_)
                                          refine z_eq (B' := [(smS cB a n gg ((fl_hours n k σ1)), zZ), (smG cE n gg ((fl_hours n k σ1)) ee, zZ), (smP cI p1, zZ), (shT t fa ta, zZ), (shF fa cI cZ, (fl_hours n k σ1)), (shF ta cI cZ, τk), ([(q_659, .inl (cI, 10))], (dueA (fl_ofF n (fl_hours n h σ1)) 10)), ([(q_723, .inl (cI, n))], zZ), ([(q_728, .inl (cI, n))], zZ), ([(q_733, .inl (cZ, n))], zZ)]) rfl ?_
                                          refine z_astore C (L' := [(20, .ref (q_733)), (19, .ref (q_728)), (18, .ref (q_723)), (0, .ref (b0)), (1, .ref (t)), (2, .ref (a 0)), (3, .int (nI (n))), (4, .int (nI (tm))), (13, .int ((fl_unt n 0 (fl_cpy σ1 τρ)).1)), (14, .int (nI (h))), (15, .ref (q_659)), (16, .int ((fl_hours n k σ1) 0 (3))), (17, .int (nI (k)))]) dL_law_735 (by decide) rfl ?_
                                          refine z_iconst C (v := nI (0)) (by decide) dL_law_737 ?_
                                          refine z_istore C (L' := [(21, .int (nI (0))), (20, .ref (q_733)), (19, .ref (q_728)), (18, .ref (q_723)), (0, .ref (b0)), (1, .ref (t)), (2, .ref (a 0)), (3, .int (nI (n))), (4, .int (nI (tm))), (13, .int ((fl_unt n 0 (fl_cpy σ1 τρ)).1)), (14, .int (nI (h))), (15, .ref (q_659)), (16, .int ((fl_hours n k σ1) 0 (3))), (17, .int (nI (k)))]) dL_law_738 (by decide) rfl ?_
                                          refine z_cont (B' := [(smS cB a n gg ((fl_hours n k σ1)), zZ), (smG cE n gg ((fl_hours n k σ1)) ee, zZ), (smP cI p1, zZ), (shT t fa ta, zZ), (shF fa cI cZ, (fl_hours n k σ1)), (shF ta cI cZ, τk), ([(q_659, .inl (cI, 10))], (dueA (fl_ofF n (fl_hours n h σ1)) 10)), ([(q_723, .inl (cI, n))], (filA ((fl_hours n k σ1) 3) 0)), ([(q_728, .inl (cI, n))], zZ), ([(q_733, .inl (cZ, n))], zZ)]) 7 rfl (filA_0 ((fl_hours n k σ1) 3)) rfl ?_
                                          refine z_cont (B' := [(smS cB a n gg ((fl_hours n k σ1)), zZ), (smG cE n gg ((fl_hours n k σ1)) ee, zZ), (smP cI p1, zZ), (shT t fa ta, zZ), (shF fa cI cZ, (fl_hours n k σ1)), (shF ta cI cZ, τk), ([(q_659, .inl (cI, 10))], (dueA (fl_ofF n (fl_hours n h σ1)) 10)), ([(q_723, .inl (cI, n))], (filA ((fl_hours n k σ1) 3) 0)), ([(q_728, .inl (cI, n))], (filA (fun j => nI (fl_ln (fl_hours n k σ1) j)) 0)), ([(q_733, .inl (cZ, n))], zZ)]) 8 rfl (filA_0 (fun j => nI (fl_ln (fl_hours n k σ1) j))) rfl ?_
                                          refine z_cont (B' := [(smS cB a n gg ((fl_hours n k σ1)), zZ), (smG cE n gg ((fl_hours n k σ1)) ee, zZ), (smP cI p1, zZ), (shT t fa ta, zZ), (shF fa cI cZ, (fl_hours n k σ1)), (shF ta cI cZ, τk), ([(q_659, .inl (cI, 10))], (dueA (fl_ofF n (fl_hours n h σ1)) 10)), ([(q_723, .inl (cI, n))], (filA ((fl_hours n k σ1) 3) 0)), ([(q_728, .inl (cI, n))], (filA (fun j => nI (fl_ln (fl_hours n k σ1) j)) 0)), ([(q_733, .inl (cZ, n))], (filA (ledf (fl_hours n k σ1)) 0))]) 9 rfl (filA_0 (ledf (fl_hours n k σ1))) rfl ?_
                                          have loop_740 : ∀ (k_740 b : Nat), n < b + k_740 → b ≤ n → zK p l e room_1 s m args below meth c D A 22 Q (((cc2 + 1) + 1) + 1) (((ss2 + n) + n) + n) 740 [(20, .ref (q_733)), (19, .ref (q_728)), (18, .ref (q_723)), (0, .ref (b0)), (1, .ref (t)), (2, .ref (a 0)), (3, .int (nI (n))), (4, .int (nI (tm))), (13, .int ((fl_unt n 0 (fl_cpy σ1 τρ)).1)), (14, .int (nI (h))), (15, .ref (q_659)), (16, .int ((fl_hours n k σ1) 0 (3))), (17, .int (nI (k))), (21, .int (nI (b)))] [] [(smS cB a n gg ((fl_hours n k σ1)), zZ), (smG cE n gg ((fl_hours n k σ1)) ee, zZ), (smP cI p1, zZ), (shT t fa ta, zZ), (shF fa cI cZ, (fl_hours n k σ1)), (shF ta cI cZ, τk), ([(q_659, .inl (cI, 10))], (dueA (fl_ofF n (fl_hours n h σ1)) 10)), ([(q_723, .inl (cI, n))], (filA ((fl_hours n k σ1) 3) b)), ([(q_728, .inl (cI, n))], (filA (fun j => nI (fl_ln (fl_hours n k σ1) j)) b)), ([(q_733, .inl (cZ, n))], (filA (ledf (fl_hours n k σ1)) b))] := by
                                            intro k_740
                                            induction k_740 with
                                            | zero => intro b  m1_740 m2_740; exact absurd m1_740 (by omega)
                                            | succ k_740 ih_740 =>
                                              intro b  m1_740 m2_740 
                                              refine z_iload C dL_law_740 13 rfl ?_
                                              refine z_iload_n C dL_law_742 rfl 6 rfl ?_
                                              refine z_icmp_geN C (tgt := 809) dL_law_743 (by decide) (by omega) (by omega) (fun c_743 => ?_) (fun c_743 => ?_)
                                              · have hbn9 : n = b := by omega
                                                subst hbn9
                                                refine z_iload C dL_law_809 11 rfl ?_
                                                refine z_aload_n C dL_law_811 rfl 4 rfl ?_
                                                refine z_iconst C (v := nI (1)) (by decide) dL_law_812 ?_
                                                refine z_cV C (st' := [.int ((fl_hour n ((fl_hours n k σ1))) 0 (3) - ((fl_hours n k σ1)) 0 (3)), .int ((fl_hours n k σ1) 0 (3))]) (B' := [(smS cB a n gg ((fl_hours n k σ1)), zZ), (smG cE n gg ((fl_hours n k σ1)) ee, zZ), (smP cI p1, zZ), (shT t fa ta, zZ), (shF fa cI cZ, (fl_hour n ((fl_hours n k σ1)))), (shF ta cI cZ, τk), ([(q_659, .inl (cI, 10))], (dueA (fl_ofF n (fl_hours n h σ1)) 10)), ([(q_723, .inl (cI, n))], (filA ((fl_hours n k σ1) 3) n)), ([(q_728, .inl (cI, n))], (filA (fun j => nI (fl_ln (fl_hours n k σ1) j)) n)), ([(q_733, .inl (cZ, n))], (filA (ledf (fl_hours n k σ1)) n))]) [false, false, false, true, true, true, false, false, false, false] rfl (c_X2_pass l D cI cZ cB cE t fa ta ((fl_hours n k σ1)) τk n hAk.iv 1 (by omega) (by omega)) wq_yX2_pass wm_L_78 ⟨wn_yX2_pass, wo_yX2_pass⟩ ⟨rfl, rfl, Nat.le_of_ble_eq_true rfl, Nat.le_of_ble_eq_true rfl⟩ 3 rfl 0 rfl rfl rfl rfl (Nat.le_of_ble_eq_true rfl) dL_law_813 ⟨(by show _ ≤ 636910; omega), (by show _ ≤ 7190737; omega)⟩ rfl rfl ?_
                                                refine z_iadd C dL_law_816 ?_
                                                refine z_top (y := (fl_hour n (fl_hours n k σ1)) 0 (3)) (add_sub9 _ _) ?_
                                                refine z_istore C (L' := [(16, .int ((fl_hour n (fl_hours n k σ1)) 0 (3))), (20, .ref (q_733)), (19, .ref (q_728)), (18, .ref (q_723)), (0, .ref (b0)), (1, .ref (t)), (2, .ref (a 0)), (3, .int (nI (n))), (4, .int (nI (tm))), (13, .int ((fl_unt n 0 (fl_cpy σ1 τρ)).1)), (14, .int (nI (h))), (15, .ref (q_659)), (17, .int (nI (k))), (21, .int (nI (n)))]) dL_law_817 (by decide) rfl ?_
                                                refine z_aload_n C dL_law_819 rfl 6 rfl ?_
                                                refine z_callVR C [true, true, true, false, false, false, false, false, false, false] rfl (c_X4_go l D cI cZ cB cE n a gg ((fl_hours n k σ1)) ee p1 hAk.iv hkh hAk.Vb (hAk.Lb (by omega))) wq_yX4_go wm_L_76 ⟨wn_yX4_go, wo_yX4_go⟩ ⟨rfl, rfl, Nat.le_of_ble_eq_true rfl, Nat.le_of_ble_eq_true rfl⟩ 0 rfl 0 rfl rfl rfl rfl (Nat.le_of_ble_eq_true rfl) dL_law_820 ⟨by show _ ≤ 636910; omega, by show _ ≤ 7190737; omega⟩ ?_
                                                rintro r9 w9 ⟨rfl, gt, et, hkt, rfl⟩
                                                refine z_eq (B' := [(smS cB a n gt ((fl_hour n ((fl_hours n k σ1)))), zZ), (smG cE n gt ((fl_hour n ((fl_hours n k σ1)))) et, zZ), (smP cI p1, zZ), (shT t fa ta, zZ), (shF fa cI cZ, (fl_hour n ((fl_hours n k σ1)))), (shF ta cI cZ, τk), ([(q_659, .inl (cI, 10))], (dueA (fl_ofF n (fl_hours n h σ1)) 10)), ([(q_723, .inl (cI, n))], (filA ((fl_hours n k σ1) 3) n)), ([(q_728, .inl (cI, n))], (filA (fun j => nI (fl_ln (fl_hours n k σ1) j)) n)), ([(q_733, .inl (cZ, n))], (filA (ledf (fl_hours n k σ1)) n))]) rfl ?_
                                                have hAH : fA n (2240 + 182 * tm + 140 + k * n + n) (fl_hour n (fl_hours n k σ1)) := fA_hour hAk (by omega)
                                                refine z_iconst C (v := nI (0)) (by decide) dL_law_823 ?_
                                                refine z_istore C (L' := [(21, .int (nI (0))), (16, .int ((fl_hour n (fl_hours n k σ1)) 0 (3))), (20, .ref (q_733)), (19, .ref (q_728)), (18, .ref (q_723)), (0, .ref (b0)), (1, .ref (t)), (2, .ref (a 0)), (3, .int (nI (n))), (4, .int (nI (tm))), (13, .int ((fl_unt n 0 (fl_cpy σ1 τρ)).1)), (14, .int (nI (h))), (15, .ref (q_659)), (17, .int (nI (k)))]) dL_law_824 (by decide) rfl ?_
                                                have loop_826 : ∀ (k_826 b : Nat), n < b + k_826 → b ≤ n → zK p l e room_1 s m args below meth c D A 22 Q ((((cc2 + 1) + 1) + 1) + 49) ((((ss2 + n) + n) + n) + 539) 826 [(16, .int ((fl_hour n (fl_hours n k σ1)) 0 (3))), (20, .ref (q_733)), (19, .ref (q_728)), (18, .ref (q_723)), (0, .ref (b0)), (1, .ref (t)), (2, .ref (a 0)), (3, .int (nI (n))), (4, .int (nI (tm))), (13, .int ((fl_unt n 0 (fl_cpy σ1 τρ)).1)), (14, .int (nI (h))), (15, .ref (q_659)), (17, .int (nI (k))), (21, .int (nI (b)))] [] [(smS cB a n gt ((fl_hour n ((fl_hours n k σ1)))), zZ), (smG cE n gt ((fl_hour n ((fl_hours n k σ1)))) et, zZ), (smP cI p1, zZ), (shT t fa ta, zZ), (shF fa cI cZ, (fl_hour n ((fl_hours n k σ1)))), (shF ta cI cZ, τk), ([(q_659, .inl (cI, 10))], (dueA (fl_ofF n (fl_hours n h σ1)) 10)), ([(q_723, .inl (cI, n))], (filA ((fl_hours n k σ1) 3) n)), ([(q_728, .inl (cI, n))], (filA (fun j => nI (fl_ln (fl_hours n k σ1) j)) n)), ([(q_733, .inl (cZ, n))], (filA (ledf (fl_hours n k σ1)) n))] := by
                                                  intro k_826
                                                  induction k_826 with
                                                  | zero => intro b  m1_826 m2_826; exact absurd m1_826 (by omega)
                                                  | succ k_826 ih_826 =>
                                                    intro b  m1_826 m2_826 
                                                    refine z_iload C dL_law_826 13 rfl ?_
                                                    refine z_iload_n C dL_law_828 rfl 7 rfl ?_
                                                    refine z_icmp_geN C (tgt := 952) dL_law_829 (by decide) (by omega) (by omega) (fun c_829 => ?_) (fun c_829 => ?_)
                                                    · refine z_drop (B' := [(smS cB a n gt ((fl_hour n ((fl_hours n k σ1)))), zZ), (smG cE n gt ((fl_hour n ((fl_hours n k σ1)))) et, zZ), (smP cI p1, zZ), (shT t fa ta, zZ), (shF fa cI cZ, (fl_hour n ((fl_hours n k σ1)))), (shF ta cI cZ, τk), ([(q_659, .inl (cI, 10))], (dueA (fl_ofF n (fl_hours n h σ1)) 10)), ([(q_723, .inl (cI, n))], (filA ((fl_hours n k σ1) 3) n)), ([(q_728, .inl (cI, n))], (filA (fun j => nI (fl_ln (fl_hours n k σ1) j)) n))]) (X := zW [([(q_733, .inl (cZ, n))], (filA (ledf (fl_hours n k σ1)) n))]) (by rw [← zW_app]; exact List.Perm.refl _) ?_
                                                      refine z_drop (B' := [(smS cB a n gt ((fl_hour n ((fl_hours n k σ1)))), zZ), (smG cE n gt ((fl_hour n ((fl_hours n k σ1)))) et, zZ), (smP cI p1, zZ), (shT t fa ta, zZ), (shF fa cI cZ, (fl_hour n ((fl_hours n k σ1)))), (shF ta cI cZ, τk), ([(q_659, .inl (cI, 10))], (dueA (fl_ofF n (fl_hours n h σ1)) 10)), ([(q_723, .inl (cI, n))], (filA ((fl_hours n k σ1) 3) n))]) (X := zW [([(q_728, .inl (cI, n))], (filA (fun j => nI (fl_ln (fl_hours n k σ1) j)) n))]) (by rw [← zW_app]; exact List.Perm.refl _) ?_
                                                      refine z_drop (B' := [(smS cB a n gt ((fl_hour n ((fl_hours n k σ1)))), zZ), (smG cE n gt ((fl_hour n ((fl_hours n k σ1)))) et, zZ), (smP cI p1, zZ), (shT t fa ta, zZ), (shF fa cI cZ, (fl_hour n ((fl_hours n k σ1)))), (shF ta cI cZ, τk), ([(q_659, .inl (cI, 10))], (dueA (fl_ofF n (fl_hours n h σ1)) 10))]) (X := zW [([(q_723, .inl (cI, n))], (filA ((fl_hours n k σ1) 3) n))]) (by rw [← zW_app]; exact List.Perm.refl _) ?_
                                                      refine z_iload C dL_law_952 9 rfl ?_
                                                      refine z_iload C dL_law_954 12 rfl ?_
                                                      refine z_iconst C (v := nI (1)) (by decide) dL_law_956 ?_
                                                      refine z_iaddN C dL_law_957 ?_
                                                      refine z_icmp_ne C (tgt := 970) dL_law_958 (by decide) (fun c_958 => ?_) (fun c_958 => ?_)
                                                      · refine z_iinc C (L' := [(17, .int (nI (k + 1))), (16, .int ((fl_hour n (fl_hours n k σ1)) 0 (3))), (20, .ref (q_733)), (19, .ref (q_728)), (18, .ref (q_723)), (0, .ref (b0)), (1, .ref (t)), (2, .ref (a 0)), (3, .int (nI (n))), (4, .int (nI (tm))), (13, .int ((fl_unt n 0 (fl_cpy σ1 τρ)).1)), (14, .int (nI (h))), (15, .ref (q_659)), (21, .int (nI (b)))]) dL_law_970 12 rfl (z_inc1 _) (by decide) rfl ?_
                                                        refine z_goto C (tgt := 715) dL_law_973 (by decide) ?_
                                                        refine z_sub (L' := [(0, .ref (b0)), (1, .ref (t)), (2, .ref (a 0)), (3, .int (nI (n))), (4, .int (nI (tm))), (13, .int ((fl_unt n 0 (fl_cpy σ1 τρ)).1)), (14, .int (nI (h))), (15, .ref (q_659)), (16, .int ((fl_hour n (fl_hours n k σ1)) 0 (3))), (17, .int (nI (k + 1)))]) [5, 6, 7, 8, 9, 10, 11, 12, 1, 0] rfl ?_
                                                        exact ih_715 (k + 1) gt et τk ((((cc2 + 1) + 1) + 1) + 49) ((((ss2 + n) + n) + n) + 539) (by omega) (by omega) hkt (by omega) (by omega)
                                                      · refine z_aload_n C dL_law_961 rfl 5 rfl ?_
                                                        refine z_cV C (st' := [.int ((fl_unt n 0 (fl_cpy ((fl_hour n ((fl_hours n k σ1)))) τk)).1)]) (B' := [(smS cB a n gt ((fl_hour n ((fl_hours n k σ1)))), zZ), (smG cE n gt ((fl_hour n ((fl_hours n k σ1)))) et, zZ), (smP cI p1, zZ), (shT t fa ta, zZ), (shF fa cI cZ, (fl_hour n ((fl_hours n k σ1)))), (shF ta cI cZ, (fl_unt n 0 (fl_cpy ((fl_hour n ((fl_hours n k σ1)))) τk)).2), ([(q_659, .inl (cI, 10))], (dueA (fl_ofF n (fl_hours n h σ1)) 10))]) [false, false, false, true, true, true, false] rfl (c_X2_until l D cI cZ cB cE t fa ta ((fl_hour n ((fl_hours n k σ1)))) τk n hAH.iv) wq_yX2_until wm_L_138 ⟨wn_yX2_until, wo_yX2_until⟩ ⟨rfl, rfl, Nat.le_of_ble_eq_true rfl, Nat.le_of_ble_eq_true rfl⟩ 3 rfl 0 rfl rfl rfl rfl (Nat.le_of_ble_eq_true rfl) dL_law_962 ⟨(by show _ ≤ 636910; omega), (by show _ ≤ 7190737; omega)⟩ rfl rfl ?_
                                                        generalize (fl_unt n 0 (fl_cpy ((fl_hour n ((fl_hours n k σ1)))) τk)).2 = τ_5
                                                        refine z_if_eq C (tgt := 970) dL_law_965 (by decide) (fun c_965 => ?_) (fun c_965 => ?_)
                                                        · refine z_iinc C (L' := [(17, .int (nI (k + 1))), (16, .int ((fl_hour n (fl_hours n k σ1)) 0 (3))), (20, .ref (q_733)), (19, .ref (q_728)), (18, .ref (q_723)), (0, .ref (b0)), (1, .ref (t)), (2, .ref (a 0)), (3, .int (nI (n))), (4, .int (nI (tm))), (13, .int ((fl_unt n 0 (fl_cpy σ1 τρ)).1)), (14, .int (nI (h))), (15, .ref (q_659)), (21, .int (nI (b)))]) dL_law_970 12 rfl (z_inc1 _) (by decide) rfl ?_
                                                          refine z_goto C (tgt := 715) dL_law_973 (by decide) ?_
                                                          refine z_sub (L' := [(0, .ref (b0)), (1, .ref (t)), (2, .ref (a 0)), (3, .int (nI (n))), (4, .int (nI (tm))), (13, .int ((fl_unt n 0 (fl_cpy σ1 τρ)).1)), (14, .int (nI (h))), (15, .ref (q_659)), (16, .int ((fl_hour n (fl_hours n k σ1)) 0 (3))), (17, .int (nI (k + 1)))]) [5, 6, 7, 8, 9, 10, 11, 12, 1, 0] rfl ?_
                                                          exact ih_715 (k + 1) gt et τ_5 ((((cc2 + 1) + 1) + 1) + 49) ((((ss2 + n) + n) + n) + 539) (by omega) (by omega) hkt (by omega) (by omega)
                                                        · exact absurd (unt_0 hAH.iv _ (unt_tells hA1.iv τρ (k := k + 1) (by omega) c_958)) c_965
                                                    · have hd9 := fun h7 : (fl_hours n k σ1) 7 b = 0 => hour_down (n := n) (σ := (fl_hours n k σ1)) (j := b) h7
                                                      have hh7 : (fl_hour n (fl_hours n k σ1)) 7 = (fl_hours n k σ1) 7 := hour_k (by omega)
                                                      have K_882 : zK p l e room_1 s m args below meth c D A 22 Q ((((cc2 + 1) + 1) + 1) + 49) ((((ss2 + n) + n) + n) + 539) 882 [(16, .int ((fl_hour n (fl_hours n k σ1)) 0 (3))), (20, .ref (q_733)), (19, .ref (q_728)), (18, .ref (q_723)), (0, .ref (b0)), (1, .ref (t)), (2, .ref (a 0)), (3, .int (nI (n))), (4, .int (nI (tm))), (13, .int ((fl_unt n 0 (fl_cpy σ1 τρ)).1)), (14, .int (nI (h))), (15, .ref (q_659)), (17, .int (nI (k))), (21, .int (nI (b)))] [] [(smS cB a n gt ((fl_hour n ((fl_hours n k σ1)))), zZ), (smG cE n gt ((fl_hour n ((fl_hours n k σ1)))) et, zZ), (smP cI p1, zZ), (shT t fa ta, zZ), (shF fa cI cZ, (fl_hour n ((fl_hours n k σ1)))), (shF ta cI cZ, τk), ([(q_659, .inl (cI, 10))], (dueA (fl_ofF n (fl_hours n h σ1)) 10)), ([(q_723, .inl (cI, n))], (filA ((fl_hours n k σ1) 3) n)), ([(q_728, .inl (cI, n))], (filA (fun j => nI (fl_ln (fl_hours n k σ1) j)) n)), ([(q_733, .inl (cZ, n))], (filA (ledf (fl_hours n k σ1)) n))] := by
                                                        refine z_aload_n C dL_law_882 rfl 5 rfl ?_
                                                        refine z_iload C dL_law_883 13 rfl ?_
                                                        refine z_bipush C (v := nI (7)) (by decide) dL_law_885 ?_
                                                        refine z_cV C (st' := [.int (((fl_hour n ((fl_hours n k σ1)))) 8 (b))]) (B' := [(smS cB a n gt ((fl_hour n ((fl_hours n k σ1)))), zZ), (smG cE n gt ((fl_hour n ((fl_hours n k σ1)))) et, zZ), (smP cI p1, zZ), (shT t fa ta, zZ), (shF fa cI cZ, (fl_hour n ((fl_hours n k σ1)))), (shF ta cI cZ, τk), ([(q_659, .inl (cI, 10))], (dueA (fl_ofF n (fl_hours n h σ1)) 10)), ([(q_723, .inl (cI, n))], (filA ((fl_hours n k σ1) 3) n)), ([(q_728, .inl (cI, n))], (filA (fun j => nI (fl_ln (fl_hours n k σ1) j)) n)), ([(q_733, .inl (cZ, n))], (filA (ledf (fl_hours n k σ1)) n))]) [false, false, false, true, true, true, false, false, false, false] rfl (c_X2_told l D cI cZ cB cE t fa ta ((fl_hour n ((fl_hours n k σ1)))) τk n hAH.iv (b) 7 (by omega) (by omega)) wq_yX2_told wm_L_105 ⟨wn_yX2_told, wo_yX2_told⟩ ⟨rfl, rfl, Nat.le_of_ble_eq_true rfl, Nat.le_of_ble_eq_true rfl⟩ 3 rfl 0 rfl rfl rfl rfl (Nat.le_of_ble_eq_true rfl) dL_law_887 ⟨(by show _ ≤ 636910; omega), (by show _ ≤ 7190737; omega)⟩ rfl rfl ?_
                                                        refine z_top (y := nI (fl_ln ((fl_hour n ((fl_hours n k σ1)))) (b))) (hAH.iv.ln (by omega)) ?_
                                                        have hl_6 := hAH.iv.lnT (i := b) (by omega)
                                                        refine z_aload C dL_law_890 2 rfl ?_
                                                        refine z_iload C dL_law_892 13 rfl ?_
                                                        refine z_iald C 8 rfl 0 0 rfl rfl dL_law_894 (by omega) (by omega) ?_
                                                        refine z_top (y := nI (fl_ln (fl_hours n k σ1) (b))) (filA_get (fun j => nI (fl_ln (fl_hours n k σ1) j)) (by omega)) ?_
                                                        have hl_7 := hAk.iv.lnT (i := b) (by omega)
                                                        refine z_isub C dL_law_895 ?_
                                                        refine z_mabs C wm_L_144 ws_abs wi_J9 wk_abs ⟨Nat.le_of_ble_eq_true rfl, Nat.le_of_ble_eq_true rfl, (by show _ ≤ 636910; omega), (by show _ ≤ 7190737; omega)⟩ dL_law_896 ?_
                                                        refine z_iload_n C dL_law_899 rfl 7 rfl ?_
                                                        refine z_icmp_gt C (tgt := 944) dL_law_900 (by decide) (fun c_900 => ?_) (fun c_900 => ?_)
                                                        · exact absurd c_900 (abs_ok (by omega) (by omega) (by omega) (hour_ln hAk.iv (by omega)).1 (hour_ln hAk.iv (by omega)).2)
                                                        · refine z_aload_n C dL_law_903 rfl 5 rfl ?_
                                                          refine z_iload C dL_law_904 13 rfl ?_
                                                          refine z_iconst C (v := nI (4)) (by decide) dL_law_906 ?_
                                                          refine z_cV C (st' := [.int (zb (decide (¬ ((fl_hour n ((fl_hours n k σ1)))) 7 (b) = 0)))]) (B' := [(smS cB a n gt ((fl_hour n ((fl_hours n k σ1)))), zZ), (smG cE n gt ((fl_hour n ((fl_hours n k σ1)))) et, zZ), (smP cI p1, zZ), (shT t fa ta, zZ), (shF fa cI cZ, (fl_hour n ((fl_hours n k σ1)))), (shF ta cI cZ, τk), ([(q_659, .inl (cI, 10))], (dueA (fl_ofF n (fl_hours n h σ1)) 10)), ([(q_723, .inl (cI, n))], (filA ((fl_hours n k σ1) 3) n)), ([(q_728, .inl (cI, n))], (filA (fun j => nI (fl_ln (fl_hours n k σ1) j)) n)), ([(q_733, .inl (cZ, n))], (filA (ledf (fl_hours n k σ1)) n))]) [false, false, false, true, true, true, false, false, false, false] rfl (c_X2_told l D cI cZ cB cE t fa ta ((fl_hour n ((fl_hours n k σ1)))) τk n hAH.iv (b) 4 (by omega) (by omega)) wq_yX2_told wm_L_105 ⟨wn_yX2_told, wo_yX2_told⟩ ⟨rfl, rfl, Nat.le_of_ble_eq_true rfl, Nat.le_of_ble_eq_true rfl⟩ 3 rfl 0 rfl rfl rfl rfl (Nat.le_of_ble_eq_true rfl) dL_law_907 ⟨(by show _ ≤ 636910; omega), (by show _ ≤ 7190737; omega)⟩ rfl rfl ?_
                                                          refine z_if_neB C (tgt := 946) dL_law_910 (by decide) (fun c_910 => ?_) (fun c_910 => ?_)
                                                          · refine z_iinc C (L' := [(21, .int (nI (b + 1))), (16, .int ((fl_hour n (fl_hours n k σ1)) 0 (3))), (20, .ref (q_733)), (19, .ref (q_728)), (18, .ref (q_723)), (0, .ref (b0)), (1, .ref (t)), (2, .ref (a 0)), (3, .int (nI (n))), (4, .int (nI (tm))), (13, .int ((fl_unt n 0 (fl_cpy σ1 τρ)).1)), (14, .int (nI (h))), (15, .ref (q_659)), (17, .int (nI (k)))]) dL_law_946 13 rfl (z_inc1 _) (by decide) rfl ?_
                                                            refine z_goto C (tgt := 826) dL_law_949 (by decide) ?_
                                                            refine z_sub (L' := [(16, .int ((fl_hour n (fl_hours n k σ1)) 0 (3))), (20, .ref (q_733)), (19, .ref (q_728)), (18, .ref (q_723)), (0, .ref (b0)), (1, .ref (t)), (2, .ref (a 0)), (3, .int (nI (n))), (4, .int (nI (tm))), (13, .int ((fl_unt n 0 (fl_cpy σ1 τρ)).1)), (14, .int (nI (h))), (15, .ref (q_659)), (17, .int (nI (k))), (21, .int (nI (b + 1)))]) [1, 2, 3, 4, 5, 6, 7, 8, 9, 10, 11, 12, 13, 0] rfl ?_
                                                            exact ih_826 (b + 1)  (by omega) (by omega) 
                                                          · refine z_aload_n C dL_law_913 rfl 5 rfl ?_
                                                            refine z_iload C dL_law_914 13 rfl ?_
                                                            refine z_iconst C (v := nI (0)) (by decide) dL_law_916 ?_
                                                            refine z_cV C (st' := [.int (((fl_hour n ((fl_hours n k σ1)))) 3 (b))]) (B' := [(smS cB a n gt ((fl_hour n ((fl_hours n k σ1)))), zZ), (smG cE n gt ((fl_hour n ((fl_hours n k σ1)))) et, zZ), (smP cI p1, zZ), (shT t fa ta, zZ), (shF fa cI cZ, (fl_hour n ((fl_hours n k σ1)))), (shF ta cI cZ, τk), ([(q_659, .inl (cI, 10))], (dueA (fl_ofF n (fl_hours n h σ1)) 10)), ([(q_723, .inl (cI, n))], (filA ((fl_hours n k σ1) 3) n)), ([(q_728, .inl (cI, n))], (filA (fun j => nI (fl_ln (fl_hours n k σ1) j)) n)), ([(q_733, .inl (cZ, n))], (filA (ledf (fl_hours n k σ1)) n))]) [false, false, false, true, true, true, false, false, false, false] rfl (c_X2_told l D cI cZ cB cE t fa ta ((fl_hour n ((fl_hours n k σ1)))) τk n hAH.iv (b) 0 (by omega) (by omega)) wq_yX2_told wm_L_105 ⟨wn_yX2_told, wo_yX2_told⟩ ⟨rfl, rfl, Nat.le_of_ble_eq_true rfl, Nat.le_of_ble_eq_true rfl⟩ 3 rfl 0 rfl rfl rfl rfl (Nat.le_of_ble_eq_true rfl) dL_law_917 ⟨(by show _ ≤ 636910; omega), (by show _ ≤ 7190737; omega)⟩ rfl rfl ?_
                                                            refine z_aload C dL_law_920 3 rfl ?_
                                                            refine z_iload C dL_law_922 13 rfl ?_
                                                            refine z_iald C 7 rfl 0 0 rfl rfl dL_law_924 (by omega) (by omega) ?_
                                                            refine z_top (y := (fl_hours n k σ1) 3 (b)) (filA_get ((fl_hours n k σ1) 3) (by omega)) ?_
                                                            refine z_icmp_ne C (tgt := 944) dL_law_925 (by decide) (fun c_925 => ?_) (fun c_925 => ?_)
                                                            · exact absurd (hd9 (by rw [← hh7]; exact Decidable.byContradiction (fun z => by rw [decide_eq_true z] at c_910; exact absurd c_910 (by decide)))).1 c_925
                                                            · refine z_aload_n C dL_law_928 rfl 5 rfl ?_
                                                              refine z_iload C dL_law_929 13 rfl ?_
                                                              refine z_bipush C (v := nI (7)) (by decide) dL_law_931 ?_
                                                              refine z_cV C (st' := [.int (((fl_hour n ((fl_hours n k σ1)))) 8 (b))]) (B' := [(smS cB a n gt ((fl_hour n ((fl_hours n k σ1)))), zZ), (smG cE n gt ((fl_hour n ((fl_hours n k σ1)))) et, zZ), (smP cI p1, zZ), (shT t fa ta, zZ), (shF fa cI cZ, (fl_hour n ((fl_hours n k σ1)))), (shF ta cI cZ, τk), ([(q_659, .inl (cI, 10))], (dueA (fl_ofF n (fl_hours n h σ1)) 10)), ([(q_723, .inl (cI, n))], (filA ((fl_hours n k σ1) 3) n)), ([(q_728, .inl (cI, n))], (filA (fun j => nI (fl_ln (fl_hours n k σ1) j)) n)), ([(q_733, .inl (cZ, n))], (filA (ledf (fl_hours n k σ1)) n))]) [false, false, false, true, true, true, false, false, false, false] rfl (c_X2_told l D cI cZ cB cE t fa ta ((fl_hour n ((fl_hours n k σ1)))) τk n hAH.iv (b) 7 (by omega) (by omega)) wq_yX2_told wm_L_105 ⟨wn_yX2_told, wo_yX2_told⟩ ⟨rfl, rfl, Nat.le_of_ble_eq_true rfl, Nat.le_of_ble_eq_true rfl⟩ 3 rfl 0 rfl rfl rfl rfl (Nat.le_of_ble_eq_true rfl) dL_law_933 ⟨(by show _ ≤ 636910; omega), (by show _ ≤ 7190737; omega)⟩ rfl rfl ?_
                                                              refine z_top (y := nI (fl_ln ((fl_hour n ((fl_hours n k σ1)))) (b))) (hAH.iv.ln (by omega)) ?_
                                                              have hl_8 := hAH.iv.lnT (i := b) (by omega)
                                                              refine z_aload C dL_law_936 2 rfl ?_
                                                              refine z_iload C dL_law_938 13 rfl ?_
                                                              refine z_iald C 8 rfl 0 0 rfl rfl dL_law_940 (by omega) (by omega) ?_
                                                              refine z_top (y := nI (fl_ln (fl_hours n k σ1) (b))) (filA_get (fun j => nI (fl_ln (fl_hours n k σ1) j)) (by omega)) ?_
                                                              have hl_9 := hAk.iv.lnT (i := b) (by omega)
                                                              refine z_icmp_eqN C (tgt := 946) dL_law_941 (by decide) (by omega) (by omega) (fun c_941 => ?_) (fun c_941 => ?_)
                                                              · refine z_iinc C (L' := [(21, .int (nI (b + 1))), (16, .int ((fl_hour n (fl_hours n k σ1)) 0 (3))), (20, .ref (q_733)), (19, .ref (q_728)), (18, .ref (q_723)), (0, .ref (b0)), (1, .ref (t)), (2, .ref (a 0)), (3, .int (nI (n))), (4, .int (nI (tm))), (13, .int ((fl_unt n 0 (fl_cpy σ1 τρ)).1)), (14, .int (nI (h))), (15, .ref (q_659)), (17, .int (nI (k)))]) dL_law_946 13 rfl (z_inc1 _) (by decide) rfl ?_
                                                                refine z_goto C (tgt := 826) dL_law_949 (by decide) ?_
                                                                refine z_sub (L' := [(16, .int ((fl_hour n (fl_hours n k σ1)) 0 (3))), (20, .ref (q_733)), (19, .ref (q_728)), (18, .ref (q_723)), (0, .ref (b0)), (1, .ref (t)), (2, .ref (a 0)), (3, .int (nI (n))), (4, .int (nI (tm))), (13, .int ((fl_unt n 0 (fl_cpy σ1 τρ)).1)), (14, .int (nI (h))), (15, .ref (q_659)), (17, .int (nI (k))), (21, .int (nI (b + 1)))]) [1, 2, 3, 4, 5, 6, 7, 8, 9, 10, 11, 12, 13, 0] rfl ?_
                                                                exact ih_826 (b + 1)  (by omega) (by omega) 
                                                              · exact absurd (ln_cell (hd9 (by rw [← hh7]; exact Decidable.byContradiction (fun z => by rw [decide_eq_true z] at c_910; exact absurd c_910 (by decide)))).2) c_941
                                                      refine z_aload_n C dL_law_832 rfl 5 rfl ?_
                                                      refine z_iload C dL_law_833 13 rfl ?_
                                                      refine z_iconst C (v := nI (0)) (by decide) dL_law_835 ?_
                                                      refine z_cV C (st' := [.int (((fl_hour n ((fl_hours n k σ1)))) 3 (b))]) (B' := [(smS cB a n gt ((fl_hour n ((fl_hours n k σ1)))), zZ), (smG cE n gt ((fl_hour n ((fl_hours n k σ1)))) et, zZ), (smP cI p1, zZ), (shT t fa ta, zZ), (shF fa cI cZ, (fl_hour n ((fl_hours n k σ1)))), (shF ta cI cZ, τk), ([(q_659, .inl (cI, 10))], (dueA (fl_ofF n (fl_hours n h σ1)) 10)), ([(q_723, .inl (cI, n))], (filA ((fl_hours n k σ1) 3) n)), ([(q_728, .inl (cI, n))], (filA (fun j => nI (fl_ln (fl_hours n k σ1) j)) n)), ([(q_733, .inl (cZ, n))], (filA (ledf (fl_hours n k σ1)) n))]) [false, false, false, true, true, true, false, false, false, false] rfl (c_X2_told l D cI cZ cB cE t fa ta ((fl_hour n ((fl_hours n k σ1)))) τk n hAH.iv (b) 0 (by omega) (by omega)) wq_yX2_told wm_L_105 ⟨wn_yX2_told, wo_yX2_told⟩ ⟨rfl, rfl, Nat.le_of_ble_eq_true rfl, Nat.le_of_ble_eq_true rfl⟩ 3 rfl 0 rfl rfl rfl rfl (Nat.le_of_ble_eq_true rfl) dL_law_836 ⟨(by show _ ≤ 636910; omega), (by show _ ≤ 7190737; omega)⟩ rfl rfl ?_
                                                      refine z_aload C dL_law_839 3 rfl ?_
                                                      refine z_iload C dL_law_841 13 rfl ?_
                                                      refine z_iald C 7 rfl 0 0 rfl rfl dL_law_843 (by omega) (by omega) ?_
                                                      refine z_top (y := (fl_hours n k σ1) 3 (b)) (filA_get ((fl_hours n k σ1) 3) (by omega)) ?_
                                                      refine z_icmp_lt C (tgt := 944) dL_law_844 (by decide) (fun c_844 => ?_) (fun c_844 => ?_)
                                                      · exact absurd c_844 (Int32.not_lt.mpr (hAk.hT (by omega) b))
                                                      · refine z_aload C dL_law_847 1 rfl ?_
                                                        refine z_iload C dL_law_849 13 rfl ?_
                                                        refine z_zald C 9 rfl 0 1 rfl rfl dL_law_851 (by omega) (by omega) ?_
                                                        refine z_top (y := zb (decide ((fl_hours n k σ1) 5 b = nI 2 ∧ ¬ (fl_hours n k σ1) 7 b = 0))) (filA_get (ledf (fl_hours n k σ1)) (by omega)) ?_
                                                        refine z_if_eqB C (tgt := 882) dL_law_852 (by decide) (fun c_852 => ?_) (fun c_852 => ?_)
                                                        · refine z_sub (L' := [(16, .int ((fl_hour n (fl_hours n k σ1)) 0 (3))), (20, .ref (q_733)), (19, .ref (q_728)), (18, .ref (q_723)), (0, .ref (b0)), (1, .ref (t)), (2, .ref (a 0)), (3, .int (nI (n))), (4, .int (nI (tm))), (13, .int ((fl_unt n 0 (fl_cpy σ1 τρ)).1)), (14, .int (nI (h))), (15, .ref (q_659)), (17, .int (nI (k))), (21, .int (nI (b)))]) [0, 1, 2, 3, 4, 5, 6, 7, 8, 9, 10, 11, 12, 13] rfl ?_
                                                          exact K_882
                                                        · refine z_aload_n C dL_law_855 rfl 5 rfl ?_
                                                          refine z_iload C dL_law_856 13 rfl ?_
                                                          refine z_iconst C (v := nI (2)) (by decide) dL_law_858 ?_
                                                          refine z_cV C (st' := [.int (((fl_hour n ((fl_hours n k σ1)))) 5 (b))]) (B' := [(smS cB a n gt ((fl_hour n ((fl_hours n k σ1)))), zZ), (smG cE n gt ((fl_hour n ((fl_hours n k σ1)))) et, zZ), (smP cI p1, zZ), (shT t fa ta, zZ), (shF fa cI cZ, (fl_hour n ((fl_hours n k σ1)))), (shF ta cI cZ, τk), ([(q_659, .inl (cI, 10))], (dueA (fl_ofF n (fl_hours n h σ1)) 10)), ([(q_723, .inl (cI, n))], (filA ((fl_hours n k σ1) 3) n)), ([(q_728, .inl (cI, n))], (filA (fun j => nI (fl_ln (fl_hours n k σ1) j)) n)), ([(q_733, .inl (cZ, n))], (filA (ledf (fl_hours n k σ1)) n))]) [false, false, false, true, true, true, false, false, false, false] rfl (c_X2_told l D cI cZ cB cE t fa ta ((fl_hour n ((fl_hours n k σ1)))) τk n hAH.iv (b) 2 (by omega) (by omega)) wq_yX2_told wm_L_105 ⟨wn_yX2_told, wo_yX2_told⟩ ⟨rfl, rfl, Nat.le_of_ble_eq_true rfl, Nat.le_of_ble_eq_true rfl⟩ 3 rfl 0 rfl rfl rfl rfl (Nat.le_of_ble_eq_true rfl) dL_law_859 ⟨(by show _ ≤ 636910; omega), (by show _ ≤ 7190737; omega)⟩ rfl rfl ?_
                                                          refine z_iconst C (v := nI (2)) (by decide) dL_law_862 ?_
                                                          refine z_icmp_ne C (tgt := 882) dL_law_863 (by decide) (fun c_863 => ?_) (fun c_863 => ?_)
                                                          · refine z_sub (L' := [(16, .int ((fl_hour n (fl_hours n k σ1)) 0 (3))), (20, .ref (q_733)), (19, .ref (q_728)), (18, .ref (q_723)), (0, .ref (b0)), (1, .ref (t)), (2, .ref (a 0)), (3, .int (nI (n))), (4, .int (nI (tm))), (13, .int ((fl_unt n 0 (fl_cpy σ1 τρ)).1)), (14, .int (nI (h))), (15, .ref (q_659)), (17, .int (nI (k))), (21, .int (nI (b)))]) [0, 1, 2, 3, 4, 5, 6, 7, 8, 9, 10, 11, 12, 13] rfl ?_
                                                            exact K_882
                                                          · refine z_aload_n C dL_law_866 rfl 5 rfl ?_
                                                            refine z_iload C dL_law_867 13 rfl ?_
                                                            refine z_bipush C (v := nI (7)) (by decide) dL_law_869 ?_
                                                            refine z_cV C (st' := [.int (((fl_hour n ((fl_hours n k σ1)))) 8 (b))]) (B' := [(smS cB a n gt ((fl_hour n ((fl_hours n k σ1)))), zZ), (smG cE n gt ((fl_hour n ((fl_hours n k σ1)))) et, zZ), (smP cI p1, zZ), (shT t fa ta, zZ), (shF fa cI cZ, (fl_hour n ((fl_hours n k σ1)))), (shF ta cI cZ, τk), ([(q_659, .inl (cI, 10))], (dueA (fl_ofF n (fl_hours n h σ1)) 10)), ([(q_723, .inl (cI, n))], (filA ((fl_hours n k σ1) 3) n)), ([(q_728, .inl (cI, n))], (filA (fun j => nI (fl_ln (fl_hours n k σ1) j)) n)), ([(q_733, .inl (cZ, n))], (filA (ledf (fl_hours n k σ1)) n))]) [false, false, false, true, true, true, false, false, false, false] rfl (c_X2_told l D cI cZ cB cE t fa ta ((fl_hour n ((fl_hours n k σ1)))) τk n hAH.iv (b) 7 (by omega) (by omega)) wq_yX2_told wm_L_105 ⟨wn_yX2_told, wo_yX2_told⟩ ⟨rfl, rfl, Nat.le_of_ble_eq_true rfl, Nat.le_of_ble_eq_true rfl⟩ 3 rfl 0 rfl rfl rfl rfl (Nat.le_of_ble_eq_true rfl) dL_law_871 ⟨(by show _ ≤ 636910; omega), (by show _ ≤ 7190737; omega)⟩ rfl rfl ?_
                                                            refine z_top (y := nI (fl_ln ((fl_hour n ((fl_hours n k σ1)))) (b))) (hAH.iv.ln (by omega)) ?_
                                                            have hl_10 := hAH.iv.lnT (i := b) (by omega)
                                                            refine z_aload C dL_law_874 2 rfl ?_
                                                            refine z_iload C dL_law_876 13 rfl ?_
                                                            refine z_iald C 8 rfl 0 0 rfl rfl dL_law_878 (by omega) (by omega) ?_
                                                            refine z_top (y := nI (fl_ln (fl_hours n k σ1) (b))) (filA_get (fun j => nI (fl_ln (fl_hours n k σ1) j)) (by omega)) ?_
                                                            have hl_11 := hAk.iv.lnT (i := b) (by omega)
                                                            refine z_icmp_neN C (tgt := 944) dL_law_879 (by decide) (by omega) (by omega) (fun c_879 => ?_) (fun c_879 => ?_)
                                                            · exact absurd (ln_cell (hour_lead c_863)) c_879
                                                            · refine z_sub (L' := [(16, .int ((fl_hour n (fl_hours n k σ1)) 0 (3))), (20, .ref (q_733)), (19, .ref (q_728)), (18, .ref (q_723)), (0, .ref (b0)), (1, .ref (t)), (2, .ref (a 0)), (3, .int (nI (n))), (4, .int (nI (tm))), (13, .int ((fl_unt n 0 (fl_cpy σ1 τρ)).1)), (14, .int (nI (h))), (15, .ref (q_659)), (17, .int (nI (k))), (21, .int (nI (b)))]) [0, 1, 2, 3, 4, 5, 6, 7, 8, 9, 10, 11, 12, 13] rfl ?_
                                                              exact K_882
                                                refine z_sub (L' := [(16, .int ((fl_hour n (fl_hours n k σ1)) 0 (3))), (20, .ref (q_733)), (19, .ref (q_728)), (18, .ref (q_723)), (0, .ref (b0)), (1, .ref (t)), (2, .ref (a 0)), (3, .int (nI (n))), (4, .int (nI (tm))), (13, .int ((fl_unt n 0 (fl_cpy σ1 τρ)).1)), (14, .int (nI (h))), (15, .ref (q_659)), (17, .int (nI (k))), (21, .int (nI (0)))]) [1, 2, 3, 4, 5, 6, 7, 8, 9, 10, 11, 12, 13, 0] rfl ?_
                                                exact loop_826 (n + 1) 0  (by omega) (by omega) 
                                              · refine z_aload C dL_law_746 2 rfl ?_
                                                refine z_iload C dL_law_748 13 rfl ?_
                                                refine z_aload_n C dL_law_750 rfl 4 rfl ?_
                                                refine z_iload C dL_law_751 13 rfl ?_
                                                refine z_iconst C (v := nI (0)) (by decide) dL_law_753 ?_
                                                refine z_cV C (st' := [.int (((fl_hours n k σ1)) 3 (b)), .int (nI (b)), .ref (q_723)]) (B' := [(smS cB a n gg ((fl_hours n k σ1)), zZ), (smG cE n gg ((fl_hours n k σ1)) ee, zZ), (smP cI p1, zZ), (shT t fa ta, zZ), (shF fa cI cZ, (fl_hours n k σ1)), (shF ta cI cZ, τk), ([(q_659, .inl (cI, 10))], (dueA (fl_ofF n (fl_hours n h σ1)) 10)), ([(q_723, .inl (cI, n))], (filA ((fl_hours n k σ1) 3) b)), ([(q_728, .inl (cI, n))], (filA (fun j => nI (fl_ln (fl_hours n k σ1) j)) b)), ([(q_733, .inl (cZ, n))], (filA (ledf (fl_hours n k σ1)) b))]) [false, false, false, true, true, true, false, false, false, false] rfl (c_X2_told l D cI cZ cB cE t fa ta ((fl_hours n k σ1)) τk n hAk.iv (b) 0 (by omega) (by omega)) wq_yX2_told wm_L_105 ⟨wn_yX2_told, wo_yX2_told⟩ ⟨rfl, rfl, Nat.le_of_ble_eq_true rfl, Nat.le_of_ble_eq_true rfl⟩ 3 rfl 0 rfl rfl rfl rfl (Nat.le_of_ble_eq_true rfl) dL_law_754 ⟨(by show _ ≤ 636910; omega), (by show _ ≤ 7190737; omega)⟩ rfl rfl ?_
                                                refine z_iast C (B' := [(smS cB a n gg ((fl_hours n k σ1)), zZ), (smG cE n gg ((fl_hours n k σ1)) ee, zZ), (smP cI p1, zZ), (shT t fa ta, zZ), (shF fa cI cZ, (fl_hours n k σ1)), (shF ta cI cZ, τk), ([(q_659, .inl (cI, 10))], (dueA (fl_ofF n (fl_hours n h σ1)) 10)), ([(q_723, .inl (cI, n))], (zU (filA ((fl_hours n k σ1) 3) b) 0 (b) (((fl_hours n k σ1)) 3 (b)))), ([(q_728, .inl (cI, n))], (filA (fun j => nI (fl_ln (fl_hours n k σ1) j)) b)), ([(q_733, .inl (cZ, n))], (filA (ledf (fl_hours n k σ1)) b))]) 7 rfl 0 0 rfl rfl dL_law_757 (by omega) (by omega) rfl ?_
                                                refine z_aload C dL_law_758 1 rfl ?_
                                                refine z_iload C dL_law_760 13 rfl ?_
                                                refine z_aload_n C dL_law_762 rfl 4 rfl ?_
                                                refine z_iload C dL_law_763 13 rfl ?_
                                                refine z_bipush C (v := nI (7)) (by decide) dL_law_765 ?_
                                                refine z_cV C (st' := [.int (((fl_hours n k σ1)) 8 (b)), .int (nI (b)), .ref (q_728)]) (B' := [(smS cB a n gg ((fl_hours n k σ1)), zZ), (smG cE n gg ((fl_hours n k σ1)) ee, zZ), (smP cI p1, zZ), (shT t fa ta, zZ), (shF fa cI cZ, (fl_hours n k σ1)), (shF ta cI cZ, τk), ([(q_659, .inl (cI, 10))], (dueA (fl_ofF n (fl_hours n h σ1)) 10)), ([(q_723, .inl (cI, n))], (zU (filA ((fl_hours n k σ1) 3) b) 0 (b) (((fl_hours n k σ1)) 3 (b)))), ([(q_728, .inl (cI, n))], (filA (fun j => nI (fl_ln (fl_hours n k σ1) j)) b)), ([(q_733, .inl (cZ, n))], (filA (ledf (fl_hours n k σ1)) b))]) [false, false, false, true, true, true, false, false, false, false] rfl (c_X2_told l D cI cZ cB cE t fa ta ((fl_hours n k σ1)) τk n hAk.iv (b) 7 (by omega) (by omega)) wq_yX2_told wm_L_105 ⟨wn_yX2_told, wo_yX2_told⟩ ⟨rfl, rfl, Nat.le_of_ble_eq_true rfl, Nat.le_of_ble_eq_true rfl⟩ 3 rfl 0 rfl rfl rfl rfl (Nat.le_of_ble_eq_true rfl) dL_law_767 ⟨(by show _ ≤ 636910; omega), (by show _ ≤ 7190737; omega)⟩ rfl rfl ?_
                                                refine z_top (y := nI (fl_ln ((fl_hours n k σ1)) (b))) (hAk.iv.ln (by omega)) ?_
                                                have hl_12 := hAk.iv.lnT (i := b) (by omega)
                                                refine z_iast C (B' := [(smS cB a n gg ((fl_hours n k σ1)), zZ), (smG cE n gg ((fl_hours n k σ1)) ee, zZ), (smP cI p1, zZ), (shT t fa ta, zZ), (shF fa cI cZ, (fl_hours n k σ1)), (shF ta cI cZ, τk), ([(q_659, .inl (cI, 10))], (dueA (fl_ofF n (fl_hours n h σ1)) 10)), ([(q_723, .inl (cI, n))], (zU (filA ((fl_hours n k σ1) 3) b) 0 (b) (((fl_hours n k σ1)) 3 (b)))), ([(q_728, .inl (cI, n))], (zU (filA (fun j => nI (fl_ln (fl_hours n k σ1) j)) b) 0 (b) (nI (fl_ln ((fl_hours n k σ1)) (b))))), ([(q_733, .inl (cZ, n))], (filA (ledf (fl_hours n k σ1)) b))]) 8 rfl 0 0 rfl rfl dL_law_770 (by omega) (by omega) rfl ?_
                                                refine z_aload C dL_law_771 0 rfl ?_
                                                refine z_iload C dL_law_773 13 rfl ?_
                                                refine z_aload_n C dL_law_775 rfl 4 rfl ?_
                                                refine z_iload C dL_law_776 13 rfl ?_
                                                refine z_iconst C (v := nI (2)) (by decide) dL_law_778 ?_
                                                refine z_cV C (st' := [.int (((fl_hours n k σ1)) 5 (b)), .int (nI (b)), .ref (q_733)]) (B' := [(smS cB a n gg ((fl_hours n k σ1)), zZ), (smG cE n gg ((fl_hours n k σ1)) ee, zZ), (smP cI p1, zZ), (shT t fa ta, zZ), (shF fa cI cZ, (fl_hours n k σ1)), (shF ta cI cZ, τk), ([(q_659, .inl (cI, 10))], (dueA (fl_ofF n (fl_hours n h σ1)) 10)), ([(q_723, .inl (cI, n))], (zU (filA ((fl_hours n k σ1) 3) b) 0 (b) (((fl_hours n k σ1)) 3 (b)))), ([(q_728, .inl (cI, n))], (zU (filA (fun j => nI (fl_ln (fl_hours n k σ1) j)) b) 0 (b) (nI (fl_ln ((fl_hours n k σ1)) (b))))), ([(q_733, .inl (cZ, n))], (filA (ledf (fl_hours n k σ1)) b))]) [false, false, false, true, true, true, false, false, false, false] rfl (c_X2_told l D cI cZ cB cE t fa ta ((fl_hours n k σ1)) τk n hAk.iv (b) 2 (by omega) (by omega)) wq_yX2_told wm_L_105 ⟨wn_yX2_told, wo_yX2_told⟩ ⟨rfl, rfl, Nat.le_of_ble_eq_true rfl, Nat.le_of_ble_eq_true rfl⟩ 3 rfl 0 rfl rfl rfl rfl (Nat.le_of_ble_eq_true rfl) dL_law_779 ⟨(by show _ ≤ 636910; omega), (by show _ ≤ 7190737; omega)⟩ rfl rfl ?_
                                                refine z_iconst C (v := nI (2)) (by decide) dL_law_782 ?_
                                                refine z_icmp_ne C (tgt := 801) dL_law_783 (by decide) (fun c_783 => ?_) (fun c_783 => ?_)
                                                · refine z_iconst C (v := nI (0)) (by decide) dL_law_801 ?_
                                                  refine z_zast C (B' := [(smS cB a n gg ((fl_hours n k σ1)), zZ), (smG cE n gg ((fl_hours n k σ1)) ee, zZ), (smP cI p1, zZ), (shT t fa ta, zZ), (shF fa cI cZ, (fl_hours n k σ1)), (shF ta cI cZ, τk), ([(q_659, .inl (cI, 10))], (dueA (fl_ofF n (fl_hours n h σ1)) 10)), ([(q_723, .inl (cI, n))], (zU (filA ((fl_hours n k σ1) 3) b) 0 (b) (((fl_hours n k σ1)) 3 (b)))), ([(q_728, .inl (cI, n))], (zU (filA (fun j => nI (fl_ln (fl_hours n k σ1) j)) b) 0 (b) (nI (fl_ln ((fl_hours n k σ1)) (b))))), ([(q_733, .inl (cZ, n))], (zU (filA (ledf (fl_hours n k σ1)) b) 0 (b) (nI (0))))]) 9 rfl 0 1 rfl rfl dL_law_802 (by omega) (by omega) (vp_0) rfl ?_
                                                  refine z_iinc C (L' := [(21, .int (nI (b + 1))), (20, .ref (q_733)), (19, .ref (q_728)), (18, .ref (q_723)), (0, .ref (b0)), (1, .ref (t)), (2, .ref (a 0)), (3, .int (nI (n))), (4, .int (nI (tm))), (13, .int ((fl_unt n 0 (fl_cpy σ1 τρ)).1)), (14, .int (nI (h))), (15, .ref (q_659)), (16, .int ((fl_hours n k σ1) 0 (3))), (17, .int (nI (k)))]) dL_law_803 13 rfl (z_inc1 _) (by decide) rfl ?_
                                                  refine z_goto C (tgt := 740) dL_law_806 (by decide) ?_
                                                  refine z_cont (B' := [(smS cB a n gg ((fl_hours n k σ1)), zZ), (smG cE n gg ((fl_hours n k σ1)) ee, zZ), (smP cI p1, zZ), (shT t fa ta, zZ), (shF fa cI cZ, (fl_hours n k σ1)), (shF ta cI cZ, τk), ([(q_659, .inl (cI, 10))], (dueA (fl_ofF n (fl_hours n h σ1)) 10)), ([(q_723, .inl (cI, n))], (filA ((fl_hours n k σ1) 3) (b + 1))), ([(q_728, .inl (cI, n))], (zU (filA (fun j => nI (fl_ln (fl_hours n k σ1) j)) b) 0 (b) (nI (fl_ln ((fl_hours n k σ1)) (b))))), ([(q_733, .inl (cZ, n))], (zU (filA (ledf (fl_hours n k σ1)) b) 0 (b) (nI (0))))]) 7 rfl (filA_1 ((fl_hours n k σ1) 3) b rfl) rfl ?_
                                                  refine z_cont (B' := [(smS cB a n gg ((fl_hours n k σ1)), zZ), (smG cE n gg ((fl_hours n k σ1)) ee, zZ), (smP cI p1, zZ), (shT t fa ta, zZ), (shF fa cI cZ, (fl_hours n k σ1)), (shF ta cI cZ, τk), ([(q_659, .inl (cI, 10))], (dueA (fl_ofF n (fl_hours n h σ1)) 10)), ([(q_723, .inl (cI, n))], (filA ((fl_hours n k σ1) 3) (b + 1))), ([(q_728, .inl (cI, n))], (filA (fun j => nI (fl_ln (fl_hours n k σ1) j)) (b + 1))), ([(q_733, .inl (cZ, n))], (zU (filA (ledf (fl_hours n k σ1)) b) 0 (b) (nI (0))))]) 8 rfl (filA_1 (fun j => nI (fl_ln (fl_hours n k σ1) j)) b rfl) rfl ?_
                                                  have hv9 : nI 0 = (ledf (fl_hours n k σ1)) b := by unfold ledf; rw [decide_eq_false (fun z => c_783 z.1)]; rfl
                                                  refine z_cont (B' := [(smS cB a n gg ((fl_hours n k σ1)), zZ), (smG cE n gg ((fl_hours n k σ1)) ee, zZ), (smP cI p1, zZ), (shT t fa ta, zZ), (shF fa cI cZ, (fl_hours n k σ1)), (shF ta cI cZ, τk), ([(q_659, .inl (cI, 10))], (dueA (fl_ofF n (fl_hours n h σ1)) 10)), ([(q_723, .inl (cI, n))], (filA ((fl_hours n k σ1) 3) (b + 1))), ([(q_728, .inl (cI, n))], (filA (fun j => nI (fl_ln (fl_hours n k σ1) j)) (b + 1))), ([(q_733, .inl (cZ, n))], (filA (ledf (fl_hours n k σ1)) (b + 1)))]) 9 rfl (filA_1 (ledf (fl_hours n k σ1)) b hv9) rfl ?_
                                                  refine z_sub (L' := [(20, .ref (q_733)), (19, .ref (q_728)), (18, .ref (q_723)), (0, .ref (b0)), (1, .ref (t)), (2, .ref (a 0)), (3, .int (nI (n))), (4, .int (nI (tm))), (13, .int ((fl_unt n 0 (fl_cpy σ1 τρ)).1)), (14, .int (nI (h))), (15, .ref (q_659)), (16, .int ((fl_hours n k σ1) 0 (3))), (17, .int (nI (k))), (21, .int (nI (b + 1)))]) [1, 2, 3, 4, 5, 6, 7, 8, 9, 10, 11, 12, 13, 0] rfl ?_
                                                  exact ih_740 (b + 1)  (by omega) (by omega) 
                                                · refine z_aload_n C dL_law_786 rfl 4 rfl ?_
                                                  refine z_iload C dL_law_787 13 rfl ?_
                                                  refine z_iconst C (v := nI (4)) (by decide) dL_law_789 ?_
                                                  refine z_cV C (st' := [.int (zb (decide (¬ ((fl_hours n k σ1)) 7 (b) = 0))), .int (nI (b)), .ref (q_733)]) (B' := [(smS cB a n gg ((fl_hours n k σ1)), zZ), (smG cE n gg ((fl_hours n k σ1)) ee, zZ), (smP cI p1, zZ), (shT t fa ta, zZ), (shF fa cI cZ, (fl_hours n k σ1)), (shF ta cI cZ, τk), ([(q_659, .inl (cI, 10))], (dueA (fl_ofF n (fl_hours n h σ1)) 10)), ([(q_723, .inl (cI, n))], (zU (filA ((fl_hours n k σ1) 3) b) 0 (b) (((fl_hours n k σ1)) 3 (b)))), ([(q_728, .inl (cI, n))], (zU (filA (fun j => nI (fl_ln (fl_hours n k σ1) j)) b) 0 (b) (nI (fl_ln ((fl_hours n k σ1)) (b))))), ([(q_733, .inl (cZ, n))], (filA (ledf (fl_hours n k σ1)) b))]) [false, false, false, true, true, true, false, false, false, false] rfl (c_X2_told l D cI cZ cB cE t fa ta ((fl_hours n k σ1)) τk n hAk.iv (b) 4 (by omega) (by omega)) wq_yX2_told wm_L_105 ⟨wn_yX2_told, wo_yX2_told⟩ ⟨rfl, rfl, Nat.le_of_ble_eq_true rfl, Nat.le_of_ble_eq_true rfl⟩ 3 rfl 0 rfl rfl rfl rfl (Nat.le_of_ble_eq_true rfl) dL_law_790 ⟨(by show _ ≤ 636910; omega), (by show _ ≤ 7190737; omega)⟩ rfl rfl ?_
                                                  refine z_iconst C (v := nI (1)) (by decide) dL_law_793 ?_
                                                  refine z_icmp_ne C (tgt := 801) dL_law_794 (by decide) (fun c_794 => ?_) (fun c_794 => ?_)
                                                  · refine z_iconst C (v := nI (0)) (by decide) dL_law_801 ?_
                                                    refine z_zast C (B' := [(smS cB a n gg ((fl_hours n k σ1)), zZ), (smG cE n gg ((fl_hours n k σ1)) ee, zZ), (smP cI p1, zZ), (shT t fa ta, zZ), (shF fa cI cZ, (fl_hours n k σ1)), (shF ta cI cZ, τk), ([(q_659, .inl (cI, 10))], (dueA (fl_ofF n (fl_hours n h σ1)) 10)), ([(q_723, .inl (cI, n))], (zU (filA ((fl_hours n k σ1) 3) b) 0 (b) (((fl_hours n k σ1)) 3 (b)))), ([(q_728, .inl (cI, n))], (zU (filA (fun j => nI (fl_ln (fl_hours n k σ1) j)) b) 0 (b) (nI (fl_ln ((fl_hours n k σ1)) (b))))), ([(q_733, .inl (cZ, n))], (zU (filA (ledf (fl_hours n k σ1)) b) 0 (b) (nI (0))))]) 9 rfl 0 1 rfl rfl dL_law_802 (by omega) (by omega) (vp_0) rfl ?_
                                                    refine z_iinc C (L' := [(21, .int (nI (b + 1))), (20, .ref (q_733)), (19, .ref (q_728)), (18, .ref (q_723)), (0, .ref (b0)), (1, .ref (t)), (2, .ref (a 0)), (3, .int (nI (n))), (4, .int (nI (tm))), (13, .int ((fl_unt n 0 (fl_cpy σ1 τρ)).1)), (14, .int (nI (h))), (15, .ref (q_659)), (16, .int ((fl_hours n k σ1) 0 (3))), (17, .int (nI (k)))]) dL_law_803 13 rfl (z_inc1 _) (by decide) rfl ?_
                                                    refine z_goto C (tgt := 740) dL_law_806 (by decide) ?_
                                                    refine z_cont (B' := [(smS cB a n gg ((fl_hours n k σ1)), zZ), (smG cE n gg ((fl_hours n k σ1)) ee, zZ), (smP cI p1, zZ), (shT t fa ta, zZ), (shF fa cI cZ, (fl_hours n k σ1)), (shF ta cI cZ, τk), ([(q_659, .inl (cI, 10))], (dueA (fl_ofF n (fl_hours n h σ1)) 10)), ([(q_723, .inl (cI, n))], (filA ((fl_hours n k σ1) 3) (b + 1))), ([(q_728, .inl (cI, n))], (zU (filA (fun j => nI (fl_ln (fl_hours n k σ1) j)) b) 0 (b) (nI (fl_ln ((fl_hours n k σ1)) (b))))), ([(q_733, .inl (cZ, n))], (zU (filA (ledf (fl_hours n k σ1)) b) 0 (b) (nI (0))))]) 7 rfl (filA_1 ((fl_hours n k σ1) 3) b rfl) rfl ?_
                                                    refine z_cont (B' := [(smS cB a n gg ((fl_hours n k σ1)), zZ), (smG cE n gg ((fl_hours n k σ1)) ee, zZ), (smP cI p1, zZ), (shT t fa ta, zZ), (shF fa cI cZ, (fl_hours n k σ1)), (shF ta cI cZ, τk), ([(q_659, .inl (cI, 10))], (dueA (fl_ofF n (fl_hours n h σ1)) 10)), ([(q_723, .inl (cI, n))], (filA ((fl_hours n k σ1) 3) (b + 1))), ([(q_728, .inl (cI, n))], (filA (fun j => nI (fl_ln (fl_hours n k σ1) j)) (b + 1))), ([(q_733, .inl (cZ, n))], (zU (filA (ledf (fl_hours n k σ1)) b) 0 (b) (nI (0))))]) 8 rfl (filA_1 (fun j => nI (fl_ln (fl_hours n k σ1) j)) b rfl) rfl ?_
                                                    have hv9 : nI 0 = (ledf (fl_hours n k σ1)) b := by unfold ledf; rw [decide_eq_false (fun z => c_794 (zb_1.mpr (decide_eq_true z.2)))]; rfl
                                                    refine z_cont (B' := [(smS cB a n gg ((fl_hours n k σ1)), zZ), (smG cE n gg ((fl_hours n k σ1)) ee, zZ), (smP cI p1, zZ), (shT t fa ta, zZ), (shF fa cI cZ, (fl_hours n k σ1)), (shF ta cI cZ, τk), ([(q_659, .inl (cI, 10))], (dueA (fl_ofF n (fl_hours n h σ1)) 10)), ([(q_723, .inl (cI, n))], (filA ((fl_hours n k σ1) 3) (b + 1))), ([(q_728, .inl (cI, n))], (filA (fun j => nI (fl_ln (fl_hours n k σ1) j)) (b + 1))), ([(q_733, .inl (cZ, n))], (filA (ledf (fl_hours n k σ1)) (b + 1)))]) 9 rfl (filA_1 (ledf (fl_hours n k σ1)) b hv9) rfl ?_
                                                    refine z_sub (L' := [(20, .ref (q_733)), (19, .ref (q_728)), (18, .ref (q_723)), (0, .ref (b0)), (1, .ref (t)), (2, .ref (a 0)), (3, .int (nI (n))), (4, .int (nI (tm))), (13, .int ((fl_unt n 0 (fl_cpy σ1 τρ)).1)), (14, .int (nI (h))), (15, .ref (q_659)), (16, .int ((fl_hours n k σ1) 0 (3))), (17, .int (nI (k))), (21, .int (nI (b + 1)))]) [1, 2, 3, 4, 5, 6, 7, 8, 9, 10, 11, 12, 13, 0] rfl ?_
                                                    exact ih_740 (b + 1)  (by omega) (by omega) 
                                                  · refine z_iconst C (v := nI (1)) (by decide) dL_law_797 ?_
                                                    refine z_goto C (tgt := 802) dL_law_798 (by decide) ?_
                                                    refine z_zast C (B' := [(smS cB a n gg ((fl_hours n k σ1)), zZ), (smG cE n gg ((fl_hours n k σ1)) ee, zZ), (smP cI p1, zZ), (shT t fa ta, zZ), (shF fa cI cZ, (fl_hours n k σ1)), (shF ta cI cZ, τk), ([(q_659, .inl (cI, 10))], (dueA (fl_ofF n (fl_hours n h σ1)) 10)), ([(q_723, .inl (cI, n))], (zU (filA ((fl_hours n k σ1) 3) b) 0 (b) (((fl_hours n k σ1)) 3 (b)))), ([(q_728, .inl (cI, n))], (zU (filA (fun j => nI (fl_ln (fl_hours n k σ1) j)) b) 0 (b) (nI (fl_ln ((fl_hours n k σ1)) (b))))), ([(q_733, .inl (cZ, n))], (zU (filA (ledf (fl_hours n k σ1)) b) 0 (b) (nI (1))))]) 9 rfl 0 1 rfl rfl dL_law_802 (by omega) (by omega) (vp_1) rfl ?_
                                                    refine z_iinc C (L' := [(21, .int (nI (b + 1))), (20, .ref (q_733)), (19, .ref (q_728)), (18, .ref (q_723)), (0, .ref (b0)), (1, .ref (t)), (2, .ref (a 0)), (3, .int (nI (n))), (4, .int (nI (tm))), (13, .int ((fl_unt n 0 (fl_cpy σ1 τρ)).1)), (14, .int (nI (h))), (15, .ref (q_659)), (16, .int ((fl_hours n k σ1) 0 (3))), (17, .int (nI (k)))]) dL_law_803 13 rfl (z_inc1 _) (by decide) rfl ?_
                                                    refine z_goto C (tgt := 740) dL_law_806 (by decide) ?_
                                                    refine z_cont (B' := [(smS cB a n gg ((fl_hours n k σ1)), zZ), (smG cE n gg ((fl_hours n k σ1)) ee, zZ), (smP cI p1, zZ), (shT t fa ta, zZ), (shF fa cI cZ, (fl_hours n k σ1)), (shF ta cI cZ, τk), ([(q_659, .inl (cI, 10))], (dueA (fl_ofF n (fl_hours n h σ1)) 10)), ([(q_723, .inl (cI, n))], (filA ((fl_hours n k σ1) 3) (b + 1))), ([(q_728, .inl (cI, n))], (zU (filA (fun j => nI (fl_ln (fl_hours n k σ1) j)) b) 0 (b) (nI (fl_ln ((fl_hours n k σ1)) (b))))), ([(q_733, .inl (cZ, n))], (zU (filA (ledf (fl_hours n k σ1)) b) 0 (b) (nI (1))))]) 7 rfl (filA_1 ((fl_hours n k σ1) 3) b rfl) rfl ?_
                                                    refine z_cont (B' := [(smS cB a n gg ((fl_hours n k σ1)), zZ), (smG cE n gg ((fl_hours n k σ1)) ee, zZ), (smP cI p1, zZ), (shT t fa ta, zZ), (shF fa cI cZ, (fl_hours n k σ1)), (shF ta cI cZ, τk), ([(q_659, .inl (cI, 10))], (dueA (fl_ofF n (fl_hours n h σ1)) 10)), ([(q_723, .inl (cI, n))], (filA ((fl_hours n k σ1) 3) (b + 1))), ([(q_728, .inl (cI, n))], (filA (fun j => nI (fl_ln (fl_hours n k σ1) j)) (b + 1))), ([(q_733, .inl (cZ, n))], (zU (filA (ledf (fl_hours n k σ1)) b) 0 (b) (nI (1))))]) 8 rfl (filA_1 (fun j => nI (fl_ln (fl_hours n k σ1) j)) b rfl) rfl ?_
                                                    have hv9 : nI 1 = (ledf (fl_hours n k σ1)) b := by unfold ledf; rw [decide_eq_true ⟨c_783, of_decide_eq_true (zb_1.mp c_794)⟩]; rfl
                                                    refine z_cont (B' := [(smS cB a n gg ((fl_hours n k σ1)), zZ), (smG cE n gg ((fl_hours n k σ1)) ee, zZ), (smP cI p1, zZ), (shT t fa ta, zZ), (shF fa cI cZ, (fl_hours n k σ1)), (shF ta cI cZ, τk), ([(q_659, .inl (cI, 10))], (dueA (fl_ofF n (fl_hours n h σ1)) 10)), ([(q_723, .inl (cI, n))], (filA ((fl_hours n k σ1) 3) (b + 1))), ([(q_728, .inl (cI, n))], (filA (fun j => nI (fl_ln (fl_hours n k σ1) j)) (b + 1))), ([(q_733, .inl (cZ, n))], (filA (ledf (fl_hours n k σ1)) (b + 1)))]) 9 rfl (filA_1 (ledf (fl_hours n k σ1)) b hv9) rfl ?_
                                                    refine z_sub (L' := [(20, .ref (q_733)), (19, .ref (q_728)), (18, .ref (q_723)), (0, .ref (b0)), (1, .ref (t)), (2, .ref (a 0)), (3, .int (nI (n))), (4, .int (nI (tm))), (13, .int ((fl_unt n 0 (fl_cpy σ1 τρ)).1)), (14, .int (nI (h))), (15, .ref (q_659)), (16, .int ((fl_hours n k σ1) 0 (3))), (17, .int (nI (k))), (21, .int (nI (b + 1)))]) [1, 2, 3, 4, 5, 6, 7, 8, 9, 10, 11, 12, 13, 0] rfl ?_
                                                    exact ih_740 (b + 1)  (by omega) (by omega) 
                                          refine z_sub (L' := [(20, .ref (q_733)), (19, .ref (q_728)), (18, .ref (q_723)), (0, .ref (b0)), (1, .ref (t)), (2, .ref (a 0)), (3, .int (nI (n))), (4, .int (nI (tm))), (13, .int ((fl_unt n 0 (fl_cpy σ1 τρ)).1)), (14, .int (nI (h))), (15, .ref (q_659)), (16, .int ((fl_hours n k σ1) 0 (3))), (17, .int (nI (k))), (21, .int (nI (0)))]) [1, 2, 3, 4, 5, 6, 7, 8, 9, 10, 11, 12, 13, 0] rfl ?_
                                          exact loop_740 (n + 1) 0  (by omega) (by omega) 
                                    refine z_sub (L' := [(0, .ref (b0)), (1, .ref (t)), (2, .ref (a 0)), (3, .int (nI (n))), (4, .int (nI (tm))), (13, .int ((fl_unt n 0 (fl_cpy σ1 τρ)).1)), (14, .int (nI (h))), (15, .ref (q_659)), (16, .int (σ1 0 (3))), (17, .int (nI (0)))]) [2, 3, 4, 5, 6, 8, 9, 10, 1, 0] rfl ?_
                                    exact loop_715 (h + 1) 0 g1 e1 τw ((cc + 1000) + 1) ((ss + 11000) + 10) (by omega) (by omega) hk1 (by omega) (by omega)
                                  · exact absurd (lg_cmp_self _) c_699
                                · refine z_aload C dL_law_673 8 rfl ?_
                                  refine z_iload C dL_law_675 9 rfl ?_
                                  refine z_aload_n C dL_law_677 rfl 1 rfl ?_
                                  refine z_iload C dL_law_678 7 rfl ?_
                                  refine z_iload C dL_law_680 9 rfl ?_
                                  refine z_cV C (st' := [.int (fl_ofF n (fl_hours n (h) (fl_cpy σ1 τw)) (w)), .int (nI (w)), .ref (q_659)]) (B' := [(smS cB a n g1 σ1, zZ), (smG cE n g1 σ1 e1, zZ), (smP cI p1, zZ), (shT t fa ta, zZ), (shF fa cI cZ, σ1), (shF ta cI cZ, (fl_hours n (h) (fl_cpy σ1 τw))), ([(q_659, .inl (cI, 10))], (dueA (fl_ofF n (fl_hours n h σ1)) w))]) [false, false, false, true, true, true, false] rfl (c_X2_foresee l D cI cZ cB cE t fa ta σ1 τw n hA1.iv (h) (w) (by omega) (by omega) (by omega) (by omega)) wq_yX2_foresee wm_L_141 ⟨wn_yX2_foresee, wo_yX2_foresee⟩ ⟨rfl, rfl, Nat.le_of_ble_eq_true rfl, Nat.le_of_ble_eq_true rfl⟩ 3 rfl 0 rfl rfl rfl rfl (Nat.le_of_ble_eq_true rfl) dL_law_682 ⟨(by show _ ≤ 636910; omega), (by show _ ≤ 7190737; omega)⟩ rfl rfl ?_
                                  refine z_top (y := fl_ofF n (fl_hours n (h) σ1) (w)) (fore_eq hA1.iv τw (h) (w)) ?_
                                  generalize (fl_hours n (h) (fl_cpy σ1 τw)) = τ_13
                                  refine z_iast C (B' := [(smS cB a n g1 σ1, zZ), (smG cE n g1 σ1 e1, zZ), (smP cI p1, zZ), (shT t fa ta, zZ), (shF fa cI cZ, σ1), (shF ta cI cZ, τ_13), ([(q_659, .inl (cI, 10))], (zU (dueA (fl_ofF n (fl_hours n h σ1)) w) 0 (w) (fl_ofF n (fl_hours n (h) σ1) (w))))]) 6 rfl 0 0 rfl rfl dL_law_685 (by omega) (by omega) rfl ?_
                                  refine z_iinc C (L' := [(16, .int (nI (w + 1))), (0, .ref (b0)), (1, .ref (t)), (2, .ref (a 0)), (3, .int (nI (n))), (4, .int (nI (tm))), (6, .long (fl_dA n σ1 n)), (13, .int ((fl_unt n 0 (fl_cpy σ1 τρ)).1)), (14, .int (nI (h))), (15, .ref (q_659))]) dL_law_686 9 rfl (z_inc1 _) (by decide) rfl ?_
                                  refine z_goto C (tgt := 666) dL_law_689 (by decide) ?_
                                  refine z_cont (B' := [(smS cB a n g1 σ1, zZ), (smG cE n g1 σ1 e1, zZ), (smP cI p1, zZ), (shT t fa ta, zZ), (shF fa cI cZ, σ1), (shF ta cI cZ, τ_13), ([(q_659, .inl (cI, 10))], (dueA (fl_ofF n (fl_hours n h σ1)) (w + 1)))]) 6 rfl (dueA_1 _ hw3) rfl ?_
                                  refine z_sub (L' := [(0, .ref (b0)), (1, .ref (t)), (2, .ref (a 0)), (3, .int (nI (n))), (4, .int (nI (tm))), (6, .long (fl_dA n σ1 n)), (13, .int ((fl_unt n 0 (fl_cpy σ1 τρ)).1)), (14, .int (nI (h))), (15, .ref (q_659)), (16, .int (nI (w + 1)))]) [1, 2, 3, 4, 5, 6, 7, 8, 9, 0] rfl ?_
                                  exact ih_666 (w + 1) τ_13 (by omega) (by omega) (by omega)
                            refine z_sub (L' := [(0, .ref (b0)), (1, .ref (t)), (2, .ref (a 0)), (3, .int (nI (n))), (4, .int (nI (tm))), (6, .long (fl_dA n σ1 n)), (13, .int ((fl_unt n 0 (fl_cpy σ1 τρ)).1)), (14, .int (nI (h))), (15, .ref (q_659)), (16, .int (nI (3)))]) [4, 5, 6, 7, 8, 10, 3, 2, 1, 0] rfl ?_
                            exact loop_666 (10 + 1) 3 τ_2 (by omega) (by omega) (by omega)
                          refine z_aload_n C dL_law_597 rfl 1 rfl ?_
                          refine z_cV C (st' := [.int (fl_oI (fl_ldr σ1 n))]) (B' := [(smS cB a n g1 σ1, zZ), (smG cE n g1 σ1 e1, zZ), (smP cI p1, zZ), (shT t fa ta, zZ), (shF fa cI cZ, σ1), (shF ta cI cZ, τρ)]) [false, false, false, true, true, true] rfl (c_X2_leader l D cI cZ cB cE t fa ta σ1 τρ n hA1.iv  ) wq_yX2_leader wm_L_134 ⟨wn_yX2_leader, wo_yX2_leader⟩ ⟨rfl, rfl, Nat.le_of_ble_eq_true rfl, Nat.le_of_ble_eq_true rfl⟩ 3 rfl 0 rfl rfl rfl rfl (Nat.le_of_ble_eq_true rfl) dL_law_598 ⟨(by show _ ≤ 636910; omega), (by show _ ≤ 7190737; omega)⟩ rfl rfl ?_
                          refine z_if_ge C (tgt := 608) dL_law_601 (by decide) (fun c_601 => ?_) (fun c_601 => ?_)
                          · refine z_iconst C (v := nI (0)) (by decide) dL_law_608 ?_
                            refine z_iload C dL_law_609 10 rfl ?_
                            refine z_if_neN C (tgt := 618) dL_law_611 (by decide) (by omega) (fun c_611 => ?_) (fun c_611 => ?_)
                            · refine z_iconst C (v := nI (0)) (by decide) dL_law_618 ?_
                              refine z_icmp_neN C (tgt := 636) dL_law_619 (by decide) (by omega) (by omega) (fun c_619 => ?_) (fun c_619 => ?_)
                              · exact absurd rfl c_619
                              · refine z_aload_n C dL_law_622 rfl 1 rfl ?_
                                refine z_bipush C (v := nI (6)) (by decide) dL_law_623 ?_
                                refine z_cV C (st' := [.int (σ1 0 (3))]) (B' := [(smS cB a n g1 σ1, zZ), (smG cE n g1 σ1 e1, zZ), (smP cI p1, zZ), (shT t fa ta, zZ), (shF fa cI cZ, σ1), (shF ta cI cZ, τρ)]) [false, false, false, true, true, true] rfl (c_X2_count l D cI cZ cB cE t fa ta σ1 τρ n hA1.iv (6) (by omega)) wq_yX2_count wm_L_127 ⟨wn_yX2_count, wo_yX2_count⟩ ⟨rfl, rfl, Nat.le_of_ble_eq_true rfl, Nat.le_of_ble_eq_true rfl⟩ 3 rfl 0 rfl rfl rfl rfl (Nat.le_of_ble_eq_true rfl) dL_law_625 ⟨(by show _ ≤ 636910; omega), (by show _ ≤ 7190737; omega)⟩ rfl rfl ?_
                                refine z_aload_n C dL_law_628 rfl 1 rfl ?_
                                refine z_iconst C (v := nI (5)) (by decide) dL_law_629 ?_
                                refine z_cV C (st' := [.int (σ1 0 (2)), .int (σ1 0 (3))]) (B' := [(smS cB a n g1 σ1, zZ), (smG cE n g1 σ1 e1, zZ), (smP cI p1, zZ), (shT t fa ta, zZ), (shF fa cI cZ, σ1), (shF ta cI cZ, τρ)]) [false, false, false, true, true, true] rfl (c_X2_count l D cI cZ cB cE t fa ta σ1 τρ n hA1.iv (5) (by omega)) wq_yX2_count wm_L_127 ⟨wn_yX2_count, wo_yX2_count⟩ ⟨rfl, rfl, Nat.le_of_ble_eq_true rfl, Nat.le_of_ble_eq_true rfl⟩ 3 rfl 0 rfl rfl rfl rfl (Nat.le_of_ble_eq_true rfl) dL_law_630 ⟨(by show _ ≤ 636910; omega), (by show _ ≤ 7190737; omega)⟩ rfl rfl ?_
                                refine z_icmp_le C (tgt := 638) dL_law_633 (by decide) (fun c_633 => ?_) (fun c_633 => ?_)
                                · refine z_sub (L' := [(0, .ref (b0)), (1, .ref (t)), (2, .ref (a 0)), (3, .int (nI (n))), (4, .int (nI (tm))), (5, .int (v9)), (6, .long (fl_dA n σ1 n)), (8, .int (nI (most))), (9, .int (nI (least))), (10, .int (nI (fl_sm (fl_kn σ1) n))), (11, .int (nI (fl_ct (fl_lead σ1) n))), (12, .int (fl_max (σ1 3) n)), (13, .int (nI (n)))]) [0, 1, 2, 3, 4, 5, 6, 7, 8, 9, 10, 11, 12] rfl ?_
                                  exact K_638
                                · exact absurd (hA1.cnt (by omega)) c_633
                            · refine z_iconst C (v := nI (1)) (by decide) dL_law_614 ?_
                              refine z_goto C (tgt := 619) dL_law_615 (by decide) ?_
                              refine z_icmp_neN C (tgt := 636) dL_law_619 (by decide) (by omega) (by omega) (fun c_619 => ?_) (fun c_619 => ?_)
                              · (exact (lead_not c_601 (by omega) c_611).elim)
                              · exact absurd c_619 (by omega)
                          · refine z_iconst C (v := nI (1)) (by decide) dL_law_604 ?_
                            refine z_goto C (tgt := 609) dL_law_605 (by decide) ?_
                            refine z_iload C dL_law_609 10 rfl ?_
                            refine z_if_neN C (tgt := 618) dL_law_611 (by decide) (by omega) (fun c_611 => ?_) (fun c_611 => ?_)
                            · refine z_iconst C (v := nI (0)) (by decide) dL_law_618 ?_
                              refine z_icmp_neN C (tgt := 636) dL_law_619 (by decide) (by omega) (by omega) (fun c_619 => ?_) (fun c_619 => ?_)
                              · (exact (lead_is c_601 (by omega) c_611).elim)
                              · exact absurd c_619 (by omega)
                            · refine z_iconst C (v := nI (1)) (by decide) dL_law_614 ?_
                              refine z_goto C (tgt := 619) dL_law_615 (by decide) ?_
                              refine z_icmp_neN C (tgt := 636) dL_law_619 (by decide) (by omega) (by omega) (fun c_619 => ?_) (fun c_619 => ?_)
                              · exact absurd rfl c_619
                              · refine z_aload_n C dL_law_622 rfl 1 rfl ?_
                                refine z_bipush C (v := nI (6)) (by decide) dL_law_623 ?_
                                refine z_cV C (st' := [.int (σ1 0 (3))]) (B' := [(smS cB a n g1 σ1, zZ), (smG cE n g1 σ1 e1, zZ), (smP cI p1, zZ), (shT t fa ta, zZ), (shF fa cI cZ, σ1), (shF ta cI cZ, τρ)]) [false, false, false, true, true, true] rfl (c_X2_count l D cI cZ cB cE t fa ta σ1 τρ n hA1.iv (6) (by omega)) wq_yX2_count wm_L_127 ⟨wn_yX2_count, wo_yX2_count⟩ ⟨rfl, rfl, Nat.le_of_ble_eq_true rfl, Nat.le_of_ble_eq_true rfl⟩ 3 rfl 0 rfl rfl rfl rfl (Nat.le_of_ble_eq_true rfl) dL_law_625 ⟨(by show _ ≤ 636910; omega), (by show _ ≤ 7190737; omega)⟩ rfl rfl ?_
                                refine z_aload_n C dL_law_628 rfl 1 rfl ?_
                                refine z_iconst C (v := nI (5)) (by decide) dL_law_629 ?_
                                refine z_cV C (st' := [.int (σ1 0 (2)), .int (σ1 0 (3))]) (B' := [(smS cB a n g1 σ1, zZ), (smG cE n g1 σ1 e1, zZ), (smP cI p1, zZ), (shT t fa ta, zZ), (shF fa cI cZ, σ1), (shF ta cI cZ, τρ)]) [false, false, false, true, true, true] rfl (c_X2_count l D cI cZ cB cE t fa ta σ1 τρ n hA1.iv (5) (by omega)) wq_yX2_count wm_L_127 ⟨wn_yX2_count, wo_yX2_count⟩ ⟨rfl, rfl, Nat.le_of_ble_eq_true rfl, Nat.le_of_ble_eq_true rfl⟩ 3 rfl 0 rfl rfl rfl rfl (Nat.le_of_ble_eq_true rfl) dL_law_630 ⟨(by show _ ≤ 636910; omega), (by show _ ≤ 7190737; omega)⟩ rfl rfl ?_
                                refine z_icmp_le C (tgt := 638) dL_law_633 (by decide) (fun c_633 => ?_) (fun c_633 => ?_)
                                · refine z_sub (L' := [(0, .ref (b0)), (1, .ref (t)), (2, .ref (a 0)), (3, .int (nI (n))), (4, .int (nI (tm))), (5, .int (v9)), (6, .long (fl_dA n σ1 n)), (8, .int (nI (most))), (9, .int (nI (least))), (10, .int (nI (fl_sm (fl_kn σ1) n))), (11, .int (nI (fl_ct (fl_lead σ1) n))), (12, .int (fl_max (σ1 3) n)), (13, .int (nI (n)))]) [0, 1, 2, 3, 4, 5, 6, 7, 8, 9, 10, 11, 12] rfl ?_
                                  exact K_638
                                · exact absurd (hA1.cnt (by omega)) c_633
              · refine z_aload_n C dL_law_98 rfl 1 rfl ?_
                refine z_iload C dL_law_99 12 rfl ?_
                refine z_bipush C (v := nI (8)) (by decide) dL_law_101 ?_
                refine z_cV C (st' := [.int (σ1 9 (b))]) (B' := [(smS cB a n g1 σ1, zZ), (smG cE n g1 σ1 e1, zZ), (smP cI p1, zZ), (shT t fa ta, zZ), (shF fa cI cZ, σ1), (shF ta cI cZ, τρ)]) [false, false, false, true, true, true] rfl (c_X2_told l D cI cZ cB cE t fa ta σ1 τρ n hA1.iv (b) 8 (by omega) (by omega)) wq_yX2_told wm_L_105 ⟨wn_yX2_told, wo_yX2_told⟩ ⟨rfl, rfl, Nat.le_of_ble_eq_true rfl, Nat.le_of_ble_eq_true rfl⟩ 3 rfl 0 rfl rfl rfl rfl (Nat.le_of_ble_eq_true rfl) dL_law_103 ⟨(by show _ ≤ 636910; omega), (by show _ ≤ 7190737; omega)⟩ rfl rfl ?_
                refine z_top (y := nI (fl_kn σ1 (b))) (hA1.iv.kn (by omega)) ?_
                have hl_14 := hA1.iv.knT (i := b) (by omega)
                refine z_istore C (L' := [(14, .int (nI (fl_kn σ1 (b)))), (0, .ref (b0)), (1, .ref (t)), (2, .ref (a 0)), (3, .int (nI (n))), (4, .int (nI (tm))), (5, .int (v9)), (6, .long (fl_dA n σ1 n)), (8, .int (nI (most))), (9, .int (nI (least))), (10, .int (nI (fl_sm (fl_kn σ1) b))), (11, .int (nI (fl_ct (fl_lead σ1) b))), (12, .int (fl_max (σ1 3) b)), (13, .int (nI (b)))]) dL_law_106 (by decide) rfl ?_
                refine z_iload C dL_law_108 8 rfl ?_
                refine z_iload C dL_law_110 0 rfl ?_
                refine z_mmaxN C wm_L_108 ws_max wi_J9 wk_max ⟨Nat.le_of_ble_eq_true rfl, Nat.le_of_ble_eq_true rfl, (by show _ ≤ 636910; omega), (by show _ ≤ 7190737; omega)⟩ dL_law_112 (by omega) (by omega) ?_
                refine z_istore C (L' := [(8, .int (nI (max most (fl_kn σ1 (b))))), (14, .int (nI (fl_kn σ1 (b)))), (0, .ref (b0)), (1, .ref (t)), (2, .ref (a 0)), (3, .int (nI (n))), (4, .int (nI (tm))), (5, .int (v9)), (6, .long (fl_dA n σ1 n)), (9, .int (nI (least))), (10, .int (nI (fl_sm (fl_kn σ1) b))), (11, .int (nI (fl_ct (fl_lead σ1) b))), (12, .int (fl_max (σ1 3) b)), (13, .int (nI (b)))]) dL_law_115 (by decide) rfl ?_
                refine z_iload C dL_law_117 9 rfl ?_
                refine z_iload C dL_law_119 1 rfl ?_
                refine z_mminN C wm_L_113 ws_min wi_J9 wk_min ⟨Nat.le_of_ble_eq_true rfl, Nat.le_of_ble_eq_true rfl, (by show _ ≤ 636910; omega), (by show _ ≤ 7190737; omega)⟩ dL_law_121 (by omega) (by omega) ?_
                refine z_istore C (L' := [(9, .int (nI (min least (fl_kn σ1 (b))))), (8, .int (nI (max most (fl_kn σ1 (b))))), (14, .int (nI (fl_kn σ1 (b)))), (0, .ref (b0)), (1, .ref (t)), (2, .ref (a 0)), (3, .int (nI (n))), (4, .int (nI (tm))), (5, .int (v9)), (6, .long (fl_dA n σ1 n)), (10, .int (nI (fl_sm (fl_kn σ1) b))), (11, .int (nI (fl_ct (fl_lead σ1) b))), (12, .int (fl_max (σ1 3) b)), (13, .int (nI (b)))]) dL_law_124 (by decide) rfl ?_
                refine z_iload C dL_law_126 10 rfl ?_
                refine z_iload C dL_law_128 2 rfl ?_
                refine z_iaddN C dL_law_130 ?_
                refine z_istore C (L' := [(10, .int (nI ((fl_sm (fl_kn σ1) b) + (fl_kn σ1 (b))))), (9, .int (nI (min least (fl_kn σ1 (b))))), (8, .int (nI (max most (fl_kn σ1 (b))))), (14, .int (nI (fl_kn σ1 (b)))), (0, .ref (b0)), (1, .ref (t)), (2, .ref (a 0)), (3, .int (nI (n))), (4, .int (nI (tm))), (5, .int (v9)), (6, .long (fl_dA n σ1 n)), (11, .int (nI (fl_ct (fl_lead σ1) b))), (12, .int (fl_max (σ1 3) b)), (13, .int (nI (b)))]) dL_law_131 (by decide) rfl ?_
                refine z_iload C dL_law_133 12 rfl ?_
                refine z_aload_n C dL_law_135 rfl 5 rfl ?_
                refine z_iload C dL_law_136 13 rfl ?_
                refine z_iconst C (v := nI (0)) (by decide) dL_law_138 ?_
                refine z_cV C (st' := [.int (σ1 3 (b)), .int (fl_max (σ1 3) b)]) (B' := [(smS cB a n g1 σ1, zZ), (smG cE n g1 σ1 e1, zZ), (smP cI p1, zZ), (shT t fa ta, zZ), (shF fa cI cZ, σ1), (shF ta cI cZ, τρ)]) [false, false, false, true, true, true] rfl (c_X2_told l D cI cZ cB cE t fa ta σ1 τρ n hA1.iv (b) 0 (by omega) (by omega)) wq_yX2_told wm_L_105 ⟨wn_yX2_told, wo_yX2_told⟩ ⟨rfl, rfl, Nat.le_of_ble_eq_true rfl, Nat.le_of_ble_eq_true rfl⟩ 3 rfl 0 rfl rfl rfl rfl (Nat.le_of_ble_eq_true rfl) dL_law_139 ⟨(by show _ ≤ 636910; omega), (by show _ ≤ 7190737; omega)⟩ rfl rfl ?_
                refine z_mmax C wm_L_108 ws_max wi_J9 wk_max ⟨Nat.le_of_ble_eq_true rfl, Nat.le_of_ble_eq_true rfl, (by show _ ≤ 636910; omega), (by show _ ≤ 7190737; omega)⟩ dL_law_142 ?_
                refine z_istore C (L' := [(12, .int (if fl_max (σ1 3) b < σ1 3 (b) then σ1 3 (b) else fl_max (σ1 3) b)), (10, .int (nI ((fl_sm (fl_kn σ1) b) + (fl_kn σ1 (b))))), (9, .int (nI (min least (fl_kn σ1 (b))))), (8, .int (nI (max most (fl_kn σ1 (b))))), (14, .int (nI (fl_kn σ1 (b)))), (0, .ref (b0)), (1, .ref (t)), (2, .ref (a 0)), (3, .int (nI (n))), (4, .int (nI (tm))), (5, .int (v9)), (6, .long (fl_dA n σ1 n)), (11, .int (nI (fl_ct (fl_lead σ1) b))), (13, .int (nI (b)))]) dL_law_145 (by decide) rfl ?_
                have K_179 : zK p l e room_1 s m args below meth c D A 22 Q (cc + 1000) (ss + 11000) 179 [(12, .int (if fl_max (σ1 3) b < σ1 3 (b) then σ1 3 (b) else fl_max (σ1 3) b)), (10, .int (nI ((fl_sm (fl_kn σ1) b) + (fl_kn σ1 (b))))), (9, .int (nI (min least (fl_kn σ1 (b))))), (8, .int (nI (max most (fl_kn σ1 (b))))), (14, .int (nI (fl_kn σ1 (b)))), (0, .ref (b0)), (1, .ref (t)), (2, .ref (a 0)), (3, .int (nI (n))), (4, .int (nI (tm))), (5, .int (v9)), (6, .long (fl_dA n σ1 n)), (11, .int (nI (fl_ct (fl_lead σ1) (b + 1)))), (13, .int (nI (b)))] [] [(smS cB a n g1 σ1, zZ), (smG cE n g1 σ1 e1, zZ), (smP cI p1, zZ), (shT t fa ta, zZ), (shF fa cI cZ, σ1), (shF ta cI cZ, τρ)] := by
                  refine z_iload C dL_law_179 4 rfl ?_
                  have hkl := hA1.kl (b := b) (by omega)
                  have hvb := hA1.vb (b := b) (by omega)
                  have hlt9 : fl_last σ1 b ≤ σ1 3 b := by rw [Int32.le_iff_toInt_le]; exact (hA1.lastT (by omega) (by omega)).2.1
                  have hck : nI 1 ≤ σ1 2 b := by obtain ⟨c9, h1, h2, h3⟩ := hA1.clock (b := b) (by omega); rw [h3]; exact nI_le h1 (by omega)
                  have K_286 : zK p l e room_1 s m args below meth c D A 22 Q (cc + 1000) (ss + 11000) 286 [(12, .int (if fl_max (σ1 3) b < σ1 3 (b) then σ1 3 (b) else fl_max (σ1 3) b)), (10, .int (nI ((fl_sm (fl_kn σ1) b) + (fl_kn σ1 (b))))), (9, .int (nI (min least (fl_kn σ1 (b))))), (8, .int (nI (max most (fl_kn σ1 (b))))), (14, .int (nI (fl_kn σ1 (b)))), (0, .ref (b0)), (1, .ref (t)), (2, .ref (a 0)), (3, .int (nI (n))), (4, .int (nI (tm))), (5, .int (v9)), (6, .long (fl_dA n σ1 n)), (11, .int (nI (fl_ct (fl_lead σ1) (b + 1)))), (13, .int (nI (b)))] [] [(smS cB a n g1 σ1, zZ), (smG cE n g1 σ1 e1, zZ), (smP cI p1, zZ), (shT t fa ta, zZ), (shF fa cI cZ, σ1), (shF ta cI cZ, τρ)] := by
                    refine z_iconst C (v := nI (1)) (by decide) dL_law_286 ?_
                    refine z_istore C (L' := [(15, .int (nI (1))), (12, .int (if fl_max (σ1 3) b < σ1 3 (b) then σ1 3 (b) else fl_max (σ1 3) b)), (10, .int (nI ((fl_sm (fl_kn σ1) b) + (fl_kn σ1 (b))))), (9, .int (nI (min least (fl_kn σ1 (b))))), (8, .int (nI (max most (fl_kn σ1 (b))))), (14, .int (nI (fl_kn σ1 (b)))), (0, .ref (b0)), (1, .ref (t)), (2, .ref (a 0)), (3, .int (nI (n))), (4, .int (nI (tm))), (5, .int (v9)), (6, .long (fl_dA n σ1 n)), (11, .int (nI (fl_ct (fl_lead σ1) (b + 1)))), (13, .int (nI (b)))]) dL_law_287 (by decide) rfl ?_
                    have loop_289 : ∀ (k_289 k : Nat), 11 < k + k_289 → k ≤ 11 → (hk1 : 1 ≤ k) → zK p l e room_1 s m args below meth c D A 22 Q (cc + 1000) (ss + 11000) 289 [(12, .int (if fl_max (σ1 3) b < σ1 3 (b) then σ1 3 (b) else fl_max (σ1 3) b)), (10, .int (nI ((fl_sm (fl_kn σ1) b) + (fl_kn σ1 (b))))), (9, .int (nI (min least (fl_kn σ1 (b))))), (8, .int (nI (max most (fl_kn σ1 (b))))), (14, .int (nI (fl_kn σ1 (b)))), (0, .ref (b0)), (1, .ref (t)), (2, .ref (a 0)), (3, .int (nI (n))), (4, .int (nI (tm))), (5, .int (v9)), (6, .long (fl_dA n σ1 n)), (11, .int (nI (fl_ct (fl_lead σ1) (b + 1)))), (13, .int (nI (b))), (15, .int (nI (k)))] [] [(smS cB a n g1 σ1, zZ), (smG cE n g1 σ1 e1, zZ), (smP cI p1, zZ), (shT t fa ta, zZ), (shF fa cI cZ, σ1), (shF ta cI cZ, τρ)] := by
                      intro k_289
                      induction k_289 with
                      | zero => intro k  m1_289 m2_289; exact absurd m1_289 (by omega)
                      | succ k_289 ih_289 =>
                        intro k  m1_289 m2_289 hk1
                        refine z_iload C dL_law_289 14 rfl ?_
                        refine z_aload_n C dL_law_291 rfl 6 rfl ?_
                        refine z_iload C dL_law_292 13 rfl ?_
                        refine z_bipush C (v := nI (7)) (by decide) dL_law_294 ?_
                        refine z_cV C (st' := [.int (σ1 8 (b)), .int (nI (k))]) (B' := [(smS cB a n g1 σ1, zZ), (smG cE n g1 σ1 e1, zZ), (smP cI p1, zZ), (shT t fa ta, zZ), (shF fa cI cZ, σ1), (shF ta cI cZ, τρ)]) [false, false, false, true, true, true] rfl (c_X2_told l D cI cZ cB cE t fa ta σ1 τρ n hA1.iv (b) 7 (by omega) (by omega)) wq_yX2_told wm_L_105 ⟨wn_yX2_told, wo_yX2_told⟩ ⟨rfl, rfl, Nat.le_of_ble_eq_true rfl, Nat.le_of_ble_eq_true rfl⟩ 3 rfl 0 rfl rfl rfl rfl (Nat.le_of_ble_eq_true rfl) dL_law_296 ⟨(by show _ ≤ 636910; omega), (by show _ ≤ 7190737; omega)⟩ rfl rfl ?_
                        refine z_top (y := nI (fl_ln σ1 (b))) (hA1.iv.ln (by omega)) ?_
                        have hl_15 := hA1.iv.lnT (i := b) (by omega)
                        refine z_icmp_geN C (tgt := 356) dL_law_299 (by decide) (by omega) (by omega) (fun c_299 => ?_) (fun c_299 => ?_)
                        · refine z_iconst C (v := nI (0)) (by decide) dL_law_356 ?_
                          refine z_istore C (L' := [(15, .int (nI (0))), (12, .int (if fl_max (σ1 3) b < σ1 3 (b) then σ1 3 (b) else fl_max (σ1 3) b)), (10, .int (nI ((fl_sm (fl_kn σ1) b) + (fl_kn σ1 (b))))), (9, .int (nI (min least (fl_kn σ1 (b))))), (8, .int (nI (max most (fl_kn σ1 (b))))), (14, .int (nI (fl_kn σ1 (b)))), (0, .ref (b0)), (1, .ref (t)), (2, .ref (a 0)), (3, .int (nI (n))), (4, .int (nI (tm))), (5, .int (v9)), (6, .long (fl_dA n σ1 n)), (11, .int (nI (fl_ct (fl_lead σ1) (b + 1)))), (13, .int (nI (b)))]) dL_law_357 (by decide) rfl ?_
                          have loop_359 : ∀ (k_359 o : Nat), n < o + k_359 → o ≤ n → zK p l e room_1 s m args below meth c D A 22 Q (cc + 1000) (ss + 11000) 359 [(12, .int (if fl_max (σ1 3) b < σ1 3 (b) then σ1 3 (b) else fl_max (σ1 3) b)), (10, .int (nI ((fl_sm (fl_kn σ1) b) + (fl_kn σ1 (b))))), (9, .int (nI (min least (fl_kn σ1 (b))))), (8, .int (nI (max most (fl_kn σ1 (b))))), (14, .int (nI (fl_kn σ1 (b)))), (0, .ref (b0)), (1, .ref (t)), (2, .ref (a 0)), (3, .int (nI (n))), (4, .int (nI (tm))), (5, .int (v9)), (6, .long (fl_dA n σ1 n)), (11, .int (nI (fl_ct (fl_lead σ1) (b + 1)))), (13, .int (nI (b))), (15, .int (nI (o)))] [] [(smS cB a n g1 σ1, zZ), (smG cE n g1 σ1 e1, zZ), (smP cI p1, zZ), (shT t fa ta, zZ), (shF fa cI cZ, σ1), (shF ta cI cZ, τρ)] := by
                            intro k_359
                            induction k_359 with
                            | zero => intro o  m1_359 m2_359; exact absurd m1_359 (by omega)
                            | succ k_359 ih_359 =>
                              intro o  m1_359 m2_359 
                              refine z_iload C dL_law_359 14 rfl ?_
                              refine z_iload C dL_law_361 13 rfl ?_
                              refine z_icmp_geN C (tgt := 535) dL_law_363 (by decide) (by omega) (by omega) (fun c_363 => ?_) (fun c_363 => ?_)
                              · refine z_iinc C (L' := [(13, .int (nI (b + 1))), (12, .int (if fl_max (σ1 3) b < σ1 3 (b) then σ1 3 (b) else fl_max (σ1 3) b)), (10, .int (nI ((fl_sm (fl_kn σ1) b) + (fl_kn σ1 (b))))), (9, .int (nI (min least (fl_kn σ1 (b))))), (8, .int (nI (max most (fl_kn σ1 (b))))), (14, .int (nI (fl_kn σ1 (b)))), (0, .ref (b0)), (1, .ref (t)), (2, .ref (a 0)), (3, .int (nI (n))), (4, .int (nI (tm))), (5, .int (v9)), (6, .long (fl_dA n σ1 n)), (11, .int (nI (fl_ct (fl_lead σ1) (b + 1)))), (15, .int (nI (o)))]) dL_law_535 13 rfl (z_inc1 _) (by decide) rfl ?_
                                refine z_goto C (tgt := 92) dL_law_538 (by decide) ?_
                                refine z_sub (L' := [(0, .ref (b0)), (1, .ref (t)), (2, .ref (a 0)), (3, .int (nI (n))), (4, .int (nI (tm))), (5, .int (v9)), (6, .long (fl_dA n σ1 n)), (8, .int (nI (max most (fl_kn σ1 (b))))), (9, .int (nI (min least (fl_kn σ1 (b))))), (10, .int (nI ((fl_sm (fl_kn σ1) b) + (fl_kn σ1 (b))))), (11, .int (nI (fl_ct (fl_lead σ1) (b + 1)))), (12, .int (if fl_max (σ1 3) b < σ1 3 (b) then σ1 3 (b) else fl_max (σ1 3) b)), (13, .int (nI (b + 1)))]) [6, 7, 8, 9, 10, 11, 12, 4, 3, 2, 13, 1, 0] rfl ?_
                                exact ih_92 (b + 1) (max most (fl_kn σ1 b)) (min least (fl_kn σ1 b)) (by omega) (by omega) (max_kn hA1.iv (by omega) hm hm10) (by omega) (min_kn hA1.iv (by omega) hle hl99) (by omega)
                              · refine z_aload_n C dL_law_366 rfl 6 rfl ?_
                                refine z_iload C dL_law_367 13 rfl ?_
                                refine z_iload C dL_law_369 14 rfl ?_
                                refine z_cV C (st' := [.int (nI (fl_agr σ1 (b) (o)))]) (B' := [(smS cB a n g1 σ1, zZ), (smG cE n g1 σ1 e1, zZ), (smP cI p1, zZ), (shT t fa ta, zZ), (shF fa cI cZ, σ1), (shF ta cI cZ, τρ)]) [false, false, false, true, true, true] rfl (c_X2_agree l D cI cZ cB cE t fa ta σ1 τρ n hA1.iv (b) (o) (by omega) (by omega)) wq_yX2_agree wm_L_120 ⟨wn_yX2_agree, wo_yX2_agree⟩ ⟨rfl, rfl, Nat.le_of_ble_eq_true rfl, Nat.le_of_ble_eq_true rfl⟩ 3 rfl 0 rfl rfl rfl rfl (Nat.le_of_ble_eq_true rfl) dL_law_371 ⟨(by show _ ≤ 636910; omega), (by show _ ≤ 7190737; omega)⟩ rfl rfl ?_
                                have ha_16 := agr_le σ1 (b) (o)
                                have hb_16 := hA1.iv.lnT (i := b) (by omega)
                                have hc_16 := hA1.iv.lnT (i := o) (by omega)
                                refine z_istore C (L' := [(16, .int (nI (fl_agr σ1 (b) (o)))), (12, .int (if fl_max (σ1 3) b < σ1 3 (b) then σ1 3 (b) else fl_max (σ1 3) b)), (10, .int (nI ((fl_sm (fl_kn σ1) b) + (fl_kn σ1 (b))))), (9, .int (nI (min least (fl_kn σ1 (b))))), (8, .int (nI (max most (fl_kn σ1 (b))))), (14, .int (nI (fl_kn σ1 (b)))), (0, .ref (b0)), (1, .ref (t)), (2, .ref (a 0)), (3, .int (nI (n))), (4, .int (nI (tm))), (5, .int (v9)), (6, .long (fl_dA n σ1 n)), (11, .int (nI (fl_ct (fl_lead σ1) (b + 1)))), (13, .int (nI (b))), (15, .int (nI (o)))]) dL_law_374 (by decide) rfl ?_
                                have K_415 : zK p l e room_1 s m args below meth c D A 22 Q (cc + 1000) (ss + 11000) 415 [(16, .int (nI (fl_agr σ1 (b) (o)))), (12, .int (if fl_max (σ1 3) b < σ1 3 (b) then σ1 3 (b) else fl_max (σ1 3) b)), (10, .int (nI ((fl_sm (fl_kn σ1) b) + (fl_kn σ1 (b))))), (9, .int (nI (min least (fl_kn σ1 (b))))), (8, .int (nI (max most (fl_kn σ1 (b))))), (14, .int (nI (fl_kn σ1 (b)))), (0, .ref (b0)), (1, .ref (t)), (2, .ref (a 0)), (3, .int (nI (n))), (4, .int (nI (tm))), (5, .int (v9)), (6, .long (fl_dA n σ1 n)), (11, .int (nI (fl_ct (fl_lead σ1) (b + 1)))), (13, .int (nI (b))), (15, .int (nI (o)))] [] [(smS cB a n g1 σ1, zZ), (smG cE n g1 σ1 e1, zZ), (smP cI p1, zZ), (shT t fa ta, zZ), (shF fa cI cZ, σ1), (shF ta cI cZ, τρ)] := by
                                  refine z_iload C dL_law_415 0 rfl ?_
                                  refine z_iload C dL_law_417 5 rfl ?_
                                  refine z_aload_n C dL_law_419 rfl 7 rfl ?_
                                  refine z_iload C dL_law_420 15 rfl ?_
                                  refine z_bipush C (v := nI (8)) (by decide) dL_law_422 ?_
                                  refine z_cV C (st' := [.int (σ1 9 (o)), .int (nI (fl_kn σ1 (b))), .int (nI (fl_agr σ1 (b) (o)))]) (B' := [(smS cB a n g1 σ1, zZ), (smG cE n g1 σ1 e1, zZ), (smP cI p1, zZ), (shT t fa ta, zZ), (shF fa cI cZ, σ1), (shF ta cI cZ, τρ)]) [false, false, false, true, true, true] rfl (c_X2_told l D cI cZ cB cE t fa ta σ1 τρ n hA1.iv (o) 8 (by omega) (by omega)) wq_yX2_told wm_L_105 ⟨wn_yX2_told, wo_yX2_told⟩ ⟨rfl, rfl, Nat.le_of_ble_eq_true rfl, Nat.le_of_ble_eq_true rfl⟩ 3 rfl 0 rfl rfl rfl rfl (Nat.le_of_ble_eq_true rfl) dL_law_424 ⟨(by show _ ≤ 636910; omega), (by show _ ≤ 7190737; omega)⟩ rfl rfl ?_
                                  refine z_top (y := nI (fl_kn σ1 (o))) (hA1.iv.kn (by omega)) ?_
                                  have hl_17 := hA1.iv.knT (i := o) (by omega)
                                  refine z_mminN C wm_L_113 ws_min wi_J9 wk_min ⟨Nat.le_of_ble_eq_true rfl, Nat.le_of_ble_eq_true rfl, (by show _ ≤ 636910; omega), (by show _ ≤ 7190737; omega)⟩ dL_law_427 (by omega) (by omega) ?_
                                  refine z_icmp_ltN C (tgt := 468) dL_law_430 (by decide) (by omega) (by omega) (fun c_430 => ?_) (fun c_430 => ?_)
                                  · exact absurd c_430 (by have := hA1.agr (a := b) (b := o) (by omega) (by omega); omega)
                                  · refine z_iload C dL_law_433 0 rfl ?_
                                    refine z_aload_n C dL_law_435 rfl 7 rfl ?_
                                    refine z_iload C dL_law_436 15 rfl ?_
                                    refine z_iload C dL_law_438 14 rfl ?_
                                    refine z_cV C (st' := [.int (nI (fl_agr σ1 (o) (b))), .int (nI (fl_agr σ1 (b) (o)))]) (B' := [(smS cB a n g1 σ1, zZ), (smG cE n g1 σ1 e1, zZ), (smP cI p1, zZ), (shT t fa ta, zZ), (shF fa cI cZ, σ1), (shF ta cI cZ, τρ)]) [false, false, false, true, true, true] rfl (c_X2_agree l D cI cZ cB cE t fa ta σ1 τρ n hA1.iv (o) (b) (by omega) (by omega)) wq_yX2_agree wm_L_120 ⟨wn_yX2_agree, wo_yX2_agree⟩ ⟨rfl, rfl, Nat.le_of_ble_eq_true rfl, Nat.le_of_ble_eq_true rfl⟩ 3 rfl 0 rfl rfl rfl rfl (Nat.le_of_ble_eq_true rfl) dL_law_440 ⟨(by show _ ≤ 636910; omega), (by show _ ≤ 7190737; omega)⟩ rfl rfl ?_
                                    have ha_18 := agr_le σ1 (o) (b)
                                    have hb_18 := hA1.iv.lnT (i := o) (by omega)
                                    have hc_18 := hA1.iv.lnT (i := b) (by omega)
                                    refine z_icmp_neN C (tgt := 468) dL_law_443 (by decide) (by omega) (by omega) (fun c_443 => ?_) (fun c_443 => ?_)
                                    · exact absurd (agr_symm _ _ _) c_443
                                    · refine z_aload_n C dL_law_446 rfl 7 rfl ?_
                                      refine z_iload C dL_law_447 14 rfl ?_
                                      refine z_iload C dL_law_449 15 rfl ?_
                                      refine z_cV C (st' := [.int (zb (fl_nw σ1 b o))]) (B' := [(smS cB a n g1 σ1, zZ), (smG cE n g1 σ1 e1, zZ), (smP cI p1, zZ), (shT t fa ta, zZ), (shF fa cI cZ, σ1), (shF ta cI cZ, τρ)]) [false, false, false, true, true, true] rfl (c_X2_newer l D cI cZ cB cE t fa ta σ1 τρ n hA1.iv b o (by omega) (by omega)) wq_yX2_newer wm_L_123 ⟨wn_yX2_newer, wo_yX2_newer⟩ ⟨rfl, rfl, Nat.le_of_ble_eq_true rfl, Nat.le_of_ble_eq_true rfl⟩ 3 rfl 0 rfl rfl rfl rfl (Nat.le_of_ble_eq_true rfl) dL_law_451 ⟨(by show _ ≤ 636910; omega), (by show _ ≤ 7190737; omega)⟩ rfl rfl ?_
                                      refine z_if_neB C (tgt := 470) dL_law_454 (by decide) (fun c_454 => ?_) (fun c_454 => ?_)
                                      · refine z_iload C dL_law_470 0 rfl ?_
                                        refine z_istore C (L' := [(17, .int (nI (fl_agr σ1 (b) (o)))), (16, .int (nI (fl_agr σ1 (b) (o)))), (12, .int (if fl_max (σ1 3) b < σ1 3 (b) then σ1 3 (b) else fl_max (σ1 3) b)), (10, .int (nI ((fl_sm (fl_kn σ1) b) + (fl_kn σ1 (b))))), (9, .int (nI (min least (fl_kn σ1 (b))))), (8, .int (nI (max most (fl_kn σ1 (b))))), (14, .int (nI (fl_kn σ1 (b)))), (0, .ref (b0)), (1, .ref (t)), (2, .ref (a 0)), (3, .int (nI (n))), (4, .int (nI (tm))), (5, .int (v9)), (6, .long (fl_dA n σ1 n)), (11, .int (nI (fl_ct (fl_lead σ1) (b + 1)))), (13, .int (nI (b))), (15, .int (nI (o)))]) dL_law_472 (by decide) rfl ?_
                                        have loop_474 : ∀ (k_474 k : Nat), 11 < k + k_474 → k ≤ 11 → (hke : fl_agr σ1 b o ≤ k) → zK p l e room_1 s m args below meth c D A 22 Q (cc + 1000) (ss + 11000) 474 [(16, .int (nI (fl_agr σ1 (b) (o)))), (12, .int (if fl_max (σ1 3) b < σ1 3 (b) then σ1 3 (b) else fl_max (σ1 3) b)), (10, .int (nI ((fl_sm (fl_kn σ1) b) + (fl_kn σ1 (b))))), (9, .int (nI (min least (fl_kn σ1 (b))))), (8, .int (nI (max most (fl_kn σ1 (b))))), (14, .int (nI (fl_kn σ1 (b)))), (0, .ref (b0)), (1, .ref (t)), (2, .ref (a 0)), (3, .int (nI (n))), (4, .int (nI (tm))), (5, .int (v9)), (6, .long (fl_dA n σ1 n)), (11, .int (nI (fl_ct (fl_lead σ1) (b + 1)))), (13, .int (nI (b))), (15, .int (nI (o))), (17, .int (nI (k)))] [] [(smS cB a n g1 σ1, zZ), (smG cE n g1 σ1 e1, zZ), (smP cI p1, zZ), (shT t fa ta, zZ), (shF fa cI cZ, σ1), (shF ta cI cZ, τρ)] := by
                                          intro k_474
                                          induction k_474 with
                                          | zero => intro k  m1_474 m2_474; exact absurd m1_474 (by omega)
                                          | succ k_474 ih_474 =>
                                            intro k  m1_474 m2_474 hke
                                            refine z_iload C dL_law_474 16 rfl ?_
                                            refine z_aload_n C dL_law_476 rfl 7 rfl ?_
                                            refine z_iload C dL_law_477 14 rfl ?_
                                            refine z_bipush C (v := nI (7)) (by decide) dL_law_479 ?_
                                            refine z_cV C (st' := [.int (σ1 8 (b)), .int (nI (k))]) (B' := [(smS cB a n g1 σ1, zZ), (smG cE n g1 σ1 e1, zZ), (smP cI p1, zZ), (shT t fa ta, zZ), (shF fa cI cZ, σ1), (shF ta cI cZ, τρ)]) [false, false, false, true, true, true] rfl (c_X2_told l D cI cZ cB cE t fa ta σ1 τρ n hA1.iv (b) 7 (by omega) (by omega)) wq_yX2_told wm_L_105 ⟨wn_yX2_told, wo_yX2_told⟩ ⟨rfl, rfl, Nat.le_of_ble_eq_true rfl, Nat.le_of_ble_eq_true rfl⟩ 3 rfl 0 rfl rfl rfl rfl (Nat.le_of_ble_eq_true rfl) dL_law_481 ⟨(by show _ ≤ 636910; omega), (by show _ ≤ 7190737; omega)⟩ rfl rfl ?_
                                            refine z_top (y := nI (fl_ln σ1 (b))) (hA1.iv.ln (by omega)) ?_
                                            have hl_19 := hA1.iv.lnT (i := b) (by omega)
                                            refine z_icmp_geN C (tgt := 529) dL_law_484 (by decide) (by omega) (by omega) (fun c_484 => ?_) (fun c_484 => ?_)
                                            · refine z_iinc C (L' := [(15, .int (nI (o + 1))), (16, .int (nI (fl_agr σ1 (b) (o)))), (12, .int (if fl_max (σ1 3) b < σ1 3 (b) then σ1 3 (b) else fl_max (σ1 3) b)), (10, .int (nI ((fl_sm (fl_kn σ1) b) + (fl_kn σ1 (b))))), (9, .int (nI (min least (fl_kn σ1 (b))))), (8, .int (nI (max most (fl_kn σ1 (b))))), (14, .int (nI (fl_kn σ1 (b)))), (0, .ref (b0)), (1, .ref (t)), (2, .ref (a 0)), (3, .int (nI (n))), (4, .int (nI (tm))), (5, .int (v9)), (6, .long (fl_dA n σ1 n)), (11, .int (nI (fl_ct (fl_lead σ1) (b + 1)))), (13, .int (nI (b))), (17, .int (nI (k)))]) dL_law_529 15 rfl (z_inc1 _) (by decide) rfl ?_
                                              refine z_goto C (tgt := 359) dL_law_532 (by decide) ?_
                                              refine z_sub (L' := [(12, .int (if fl_max (σ1 3) b < σ1 3 (b) then σ1 3 (b) else fl_max (σ1 3) b)), (10, .int (nI ((fl_sm (fl_kn σ1) b) + (fl_kn σ1 (b))))), (9, .int (nI (min least (fl_kn σ1 (b))))), (8, .int (nI (max most (fl_kn σ1 (b))))), (14, .int (nI (fl_kn σ1 (b)))), (0, .ref (b0)), (1, .ref (t)), (2, .ref (a 0)), (3, .int (nI (n))), (4, .int (nI (tm))), (5, .int (v9)), (6, .long (fl_dA n σ1 n)), (11, .int (nI (fl_ct (fl_lead σ1) (b + 1)))), (13, .int (nI (b))), (15, .int (nI (o + 1)))]) [2, 3, 4, 5, 6, 7, 8, 9, 10, 11, 12, 13, 14, 15, 0] rfl ?_
                                              exact ih_359 (o + 1)  (by omega) (by omega) 
                                            · refine z_iload C dL_law_487 16 rfl ?_
                                              refine z_aload_n C dL_law_489 rfl 7 rfl ?_
                                              refine z_iload C dL_law_490 15 rfl ?_
                                              refine z_bipush C (v := nI (7)) (by decide) dL_law_492 ?_
                                              refine z_cV C (st' := [.int (σ1 8 (o)), .int (nI (k))]) (B' := [(smS cB a n g1 σ1, zZ), (smG cE n g1 σ1 e1, zZ), (smP cI p1, zZ), (shT t fa ta, zZ), (shF fa cI cZ, σ1), (shF ta cI cZ, τρ)]) [false, false, false, true, true, true] rfl (c_X2_told l D cI cZ cB cE t fa ta σ1 τρ n hA1.iv (o) 7 (by omega) (by omega)) wq_yX2_told wm_L_105 ⟨wn_yX2_told, wo_yX2_told⟩ ⟨rfl, rfl, Nat.le_of_ble_eq_true rfl, Nat.le_of_ble_eq_true rfl⟩ 3 rfl 0 rfl rfl rfl rfl (Nat.le_of_ble_eq_true rfl) dL_law_494 ⟨(by show _ ≤ 636910; omega), (by show _ ≤ 7190737; omega)⟩ rfl rfl ?_
                                              refine z_top (y := nI (fl_ln σ1 (o))) (hA1.iv.ln (by omega)) ?_
                                              have hl_20 := hA1.iv.lnT (i := o) (by omega)
                                              refine z_icmp_geN C (tgt := 529) dL_law_497 (by decide) (by omega) (by omega) (fun c_497 => ?_) (fun c_497 => ?_)
                                              · refine z_iinc C (L' := [(15, .int (nI (o + 1))), (16, .int (nI (fl_agr σ1 (b) (o)))), (12, .int (if fl_max (σ1 3) b < σ1 3 (b) then σ1 3 (b) else fl_max (σ1 3) b)), (10, .int (nI ((fl_sm (fl_kn σ1) b) + (fl_kn σ1 (b))))), (9, .int (nI (min least (fl_kn σ1 (b))))), (8, .int (nI (max most (fl_kn σ1 (b))))), (14, .int (nI (fl_kn σ1 (b)))), (0, .ref (b0)), (1, .ref (t)), (2, .ref (a 0)), (3, .int (nI (n))), (4, .int (nI (tm))), (5, .int (v9)), (6, .long (fl_dA n σ1 n)), (11, .int (nI (fl_ct (fl_lead σ1) (b + 1)))), (13, .int (nI (b))), (17, .int (nI (k)))]) dL_law_529 15 rfl (z_inc1 _) (by decide) rfl ?_
                                                refine z_goto C (tgt := 359) dL_law_532 (by decide) ?_
                                                refine z_sub (L' := [(12, .int (if fl_max (σ1 3) b < σ1 3 (b) then σ1 3 (b) else fl_max (σ1 3) b)), (10, .int (nI ((fl_sm (fl_kn σ1) b) + (fl_kn σ1 (b))))), (9, .int (nI (min least (fl_kn σ1 (b))))), (8, .int (nI (max most (fl_kn σ1 (b))))), (14, .int (nI (fl_kn σ1 (b)))), (0, .ref (b0)), (1, .ref (t)), (2, .ref (a 0)), (3, .int (nI (n))), (4, .int (nI (tm))), (5, .int (v9)), (6, .long (fl_dA n σ1 n)), (11, .int (nI (fl_ct (fl_lead σ1) (b + 1)))), (13, .int (nI (b))), (15, .int (nI (o + 1)))]) [2, 3, 4, 5, 6, 7, 8, 9, 10, 11, 12, 13, 14, 15, 0] rfl ?_
                                                exact ih_359 (o + 1)  (by omega) (by omega) 
                                              · refine z_aload_n C dL_law_500 rfl 7 rfl ?_
                                                refine z_iload C dL_law_501 14 rfl ?_
                                                refine z_iload C dL_law_503 16 rfl ?_
                                                refine z_iconst C (v := nI (0)) (by decide) dL_law_505 ?_
                                                refine z_cV C (st' := [.int (σ1 10 ((b) * 10 + (k)))]) (B' := [(smS cB a n g1 σ1, zZ), (smG cE n g1 σ1 e1, zZ), (smP cI p1, zZ), (shT t fa ta, zZ), (shF fa cI cZ, σ1), (shF ta cI cZ, τρ)]) [false, false, false, true, true, true] rfl (c_X2_entry l D cI cZ cB cE t fa ta σ1 τρ n hA1.iv (b) (k) 0 (by omega) (by omega) (by omega)) wq_yX2_entry wm_L_116 ⟨wn_yX2_entry, wo_yX2_entry⟩ ⟨rfl, rfl, Nat.le_of_ble_eq_true rfl, Nat.le_of_ble_eq_true rfl⟩ 3 rfl 0 rfl rfl rfl rfl (Nat.le_of_ble_eq_true rfl) dL_law_506 ⟨(by show _ ≤ 636910; omega), (by show _ ≤ 7190737; omega)⟩ rfl rfl ?_
                                                refine z_aload_n C dL_law_509 rfl 7 rfl ?_
                                                refine z_iload C dL_law_510 15 rfl ?_
                                                refine z_iload C dL_law_512 16 rfl ?_
                                                refine z_iconst C (v := nI (0)) (by decide) dL_law_514 ?_
                                                refine z_cV C (st' := [.int (σ1 10 ((o) * 10 + (k))), .int (σ1 10 ((b) * 10 + (k)))]) (B' := [(smS cB a n g1 σ1, zZ), (smG cE n g1 σ1 e1, zZ), (smP cI p1, zZ), (shT t fa ta, zZ), (shF fa cI cZ, σ1), (shF ta cI cZ, τρ)]) [false, false, false, true, true, true] rfl (c_X2_entry l D cI cZ cB cE t fa ta σ1 τρ n hA1.iv (o) (k) 0 (by omega) (by omega) (by omega)) wq_yX2_entry wm_L_116 ⟨wn_yX2_entry, wo_yX2_entry⟩ ⟨rfl, rfl, Nat.le_of_ble_eq_true rfl, Nat.le_of_ble_eq_true rfl⟩ 3 rfl 0 rfl rfl rfl rfl (Nat.le_of_ble_eq_true rfl) dL_law_515 ⟨(by show _ ≤ 636910; omega), (by show _ ≤ 7190737; omega)⟩ rfl rfl ?_
                                                refine z_icmp_ne C (tgt := 523) dL_law_518 (by decide) (fun c_518 => ?_) (fun c_518 => ?_)
                                                · refine z_iinc C (L' := [(17, .int (nI (k + 1))), (16, .int (nI (fl_agr σ1 (b) (o)))), (12, .int (if fl_max (σ1 3) b < σ1 3 (b) then σ1 3 (b) else fl_max (σ1 3) b)), (10, .int (nI ((fl_sm (fl_kn σ1) b) + (fl_kn σ1 (b))))), (9, .int (nI (min least (fl_kn σ1 (b))))), (8, .int (nI (max most (fl_kn σ1 (b))))), (14, .int (nI (fl_kn σ1 (b)))), (0, .ref (b0)), (1, .ref (t)), (2, .ref (a 0)), (3, .int (nI (n))), (4, .int (nI (tm))), (5, .int (v9)), (6, .long (fl_dA n σ1 n)), (11, .int (nI (fl_ct (fl_lead σ1) (b + 1)))), (13, .int (nI (b))), (15, .int (nI (o)))]) dL_law_523 16 rfl (z_inc1 _) (by decide) rfl ?_
                                                  refine z_goto C (tgt := 474) dL_law_526 (by decide) ?_
                                                  refine z_sub (L' := [(16, .int (nI (fl_agr σ1 (b) (o)))), (12, .int (if fl_max (σ1 3) b < σ1 3 (b) then σ1 3 (b) else fl_max (σ1 3) b)), (10, .int (nI ((fl_sm (fl_kn σ1) b) + (fl_kn σ1 (b))))), (9, .int (nI (min least (fl_kn σ1 (b))))), (8, .int (nI (max most (fl_kn σ1 (b))))), (14, .int (nI (fl_kn σ1 (b)))), (0, .ref (b0)), (1, .ref (t)), (2, .ref (a 0)), (3, .int (nI (n))), (4, .int (nI (tm))), (5, .int (v9)), (6, .long (fl_dA n σ1 n)), (11, .int (nI (fl_ct (fl_lead σ1) (b + 1)))), (13, .int (nI (b))), (15, .int (nI (o))), (17, .int (nI (k + 1)))]) [1, 2, 3, 4, 5, 6, 7, 8, 9, 10, 11, 12, 13, 14, 15, 16, 0] rfl ?_
                                                  exact ih_474 (k + 1)  (by omega) (by omega) (by omega)
                                                · exact absurd c_518 (hA1.diff (by omega) (by omega) hke (by omega) (by omega))
                                        refine z_sub (L' := [(16, .int (nI (fl_agr σ1 (b) (o)))), (12, .int (if fl_max (σ1 3) b < σ1 3 (b) then σ1 3 (b) else fl_max (σ1 3) b)), (10, .int (nI ((fl_sm (fl_kn σ1) b) + (fl_kn σ1 (b))))), (9, .int (nI (min least (fl_kn σ1 (b))))), (8, .int (nI (max most (fl_kn σ1 (b))))), (14, .int (nI (fl_kn σ1 (b)))), (0, .ref (b0)), (1, .ref (t)), (2, .ref (a 0)), (3, .int (nI (n))), (4, .int (nI (tm))), (5, .int (v9)), (6, .long (fl_dA n σ1 n)), (11, .int (nI (fl_ct (fl_lead σ1) (b + 1)))), (13, .int (nI (b))), (15, .int (nI (o))), (17, .int (nI (fl_agr σ1 (b) (o))))]) [1, 2, 3, 4, 5, 6, 7, 8, 9, 10, 11, 12, 13, 14, 15, 16, 0] rfl ?_
                                        exact loop_474 (11 + 1) (fl_agr σ1 b o)  (by omega) (by omega) (Nat.le_refl _)
                                      · refine z_aload_n C dL_law_457 rfl 7 rfl ?_
                                        refine z_iload C dL_law_458 15 rfl ?_
                                        refine z_iload C dL_law_460 14 rfl ?_
                                        refine z_cV C (st' := [.int (zb (fl_nw σ1 o b))]) (B' := [(smS cB a n g1 σ1, zZ), (smG cE n g1 σ1 e1, zZ), (smP cI p1, zZ), (shT t fa ta, zZ), (shF fa cI cZ, σ1), (shF ta cI cZ, τρ)]) [false, false, false, true, true, true] rfl (c_X2_newer l D cI cZ cB cE t fa ta σ1 τρ n hA1.iv o b (by omega) (by omega)) wq_yX2_newer wm_L_123 ⟨wn_yX2_newer, wo_yX2_newer⟩ ⟨rfl, rfl, Nat.le_of_ble_eq_true rfl, Nat.le_of_ble_eq_true rfl⟩ 3 rfl 0 rfl rfl rfl rfl (Nat.le_of_ble_eq_true rfl) dL_law_462 ⟨(by show _ ≤ 636910; omega), (by show _ ≤ 7190737; omega)⟩ rfl rfl ?_
                                        refine z_if_neB C (tgt := 470) dL_law_465 (by decide) (fun c_465 => ?_) (fun c_465 => ?_)
                                        · refine z_iload C dL_law_470 0 rfl ?_
                                          refine z_istore C (L' := [(17, .int (nI (fl_agr σ1 (b) (o)))), (16, .int (nI (fl_agr σ1 (b) (o)))), (12, .int (if fl_max (σ1 3) b < σ1 3 (b) then σ1 3 (b) else fl_max (σ1 3) b)), (10, .int (nI ((fl_sm (fl_kn σ1) b) + (fl_kn σ1 (b))))), (9, .int (nI (min least (fl_kn σ1 (b))))), (8, .int (nI (max most (fl_kn σ1 (b))))), (14, .int (nI (fl_kn σ1 (b)))), (0, .ref (b0)), (1, .ref (t)), (2, .ref (a 0)), (3, .int (nI (n))), (4, .int (nI (tm))), (5, .int (v9)), (6, .long (fl_dA n σ1 n)), (11, .int (nI (fl_ct (fl_lead σ1) (b + 1)))), (13, .int (nI (b))), (15, .int (nI (o)))]) dL_law_472 (by decide) rfl ?_
                                          have loop_474 : ∀ (k_474 k : Nat), 11 < k + k_474 → k ≤ 11 → (hke : fl_agr σ1 b o ≤ k) → zK p l e room_1 s m args below meth c D A 22 Q (cc + 1000) (ss + 11000) 474 [(16, .int (nI (fl_agr σ1 (b) (o)))), (12, .int (if fl_max (σ1 3) b < σ1 3 (b) then σ1 3 (b) else fl_max (σ1 3) b)), (10, .int (nI ((fl_sm (fl_kn σ1) b) + (fl_kn σ1 (b))))), (9, .int (nI (min least (fl_kn σ1 (b))))), (8, .int (nI (max most (fl_kn σ1 (b))))), (14, .int (nI (fl_kn σ1 (b)))), (0, .ref (b0)), (1, .ref (t)), (2, .ref (a 0)), (3, .int (nI (n))), (4, .int (nI (tm))), (5, .int (v9)), (6, .long (fl_dA n σ1 n)), (11, .int (nI (fl_ct (fl_lead σ1) (b + 1)))), (13, .int (nI (b))), (15, .int (nI (o))), (17, .int (nI (k)))] [] [(smS cB a n g1 σ1, zZ), (smG cE n g1 σ1 e1, zZ), (smP cI p1, zZ), (shT t fa ta, zZ), (shF fa cI cZ, σ1), (shF ta cI cZ, τρ)] := by
                                            intro k_474
                                            induction k_474 with
                                            | zero => intro k  m1_474 m2_474; exact absurd m1_474 (by omega)
                                            | succ k_474 ih_474 =>
                                              intro k  m1_474 m2_474 hke
                                              refine z_iload C dL_law_474 16 rfl ?_
                                              refine z_aload_n C dL_law_476 rfl 7 rfl ?_
                                              refine z_iload C dL_law_477 14 rfl ?_
                                              refine z_bipush C (v := nI (7)) (by decide) dL_law_479 ?_
                                              refine z_cV C (st' := [.int (σ1 8 (b)), .int (nI (k))]) (B' := [(smS cB a n g1 σ1, zZ), (smG cE n g1 σ1 e1, zZ), (smP cI p1, zZ), (shT t fa ta, zZ), (shF fa cI cZ, σ1), (shF ta cI cZ, τρ)]) [false, false, false, true, true, true] rfl (c_X2_told l D cI cZ cB cE t fa ta σ1 τρ n hA1.iv (b) 7 (by omega) (by omega)) wq_yX2_told wm_L_105 ⟨wn_yX2_told, wo_yX2_told⟩ ⟨rfl, rfl, Nat.le_of_ble_eq_true rfl, Nat.le_of_ble_eq_true rfl⟩ 3 rfl 0 rfl rfl rfl rfl (Nat.le_of_ble_eq_true rfl) dL_law_481 ⟨(by show _ ≤ 636910; omega), (by show _ ≤ 7190737; omega)⟩ rfl rfl ?_
                                              refine z_top (y := nI (fl_ln σ1 (b))) (hA1.iv.ln (by omega)) ?_
                                              have hl_21 := hA1.iv.lnT (i := b) (by omega)
                                              refine z_icmp_geN C (tgt := 529) dL_law_484 (by decide) (by omega) (by omega) (fun c_484 => ?_) (fun c_484 => ?_)
                                              · refine z_iinc C (L' := [(15, .int (nI (o + 1))), (16, .int (nI (fl_agr σ1 (b) (o)))), (12, .int (if fl_max (σ1 3) b < σ1 3 (b) then σ1 3 (b) else fl_max (σ1 3) b)), (10, .int (nI ((fl_sm (fl_kn σ1) b) + (fl_kn σ1 (b))))), (9, .int (nI (min least (fl_kn σ1 (b))))), (8, .int (nI (max most (fl_kn σ1 (b))))), (14, .int (nI (fl_kn σ1 (b)))), (0, .ref (b0)), (1, .ref (t)), (2, .ref (a 0)), (3, .int (nI (n))), (4, .int (nI (tm))), (5, .int (v9)), (6, .long (fl_dA n σ1 n)), (11, .int (nI (fl_ct (fl_lead σ1) (b + 1)))), (13, .int (nI (b))), (17, .int (nI (k)))]) dL_law_529 15 rfl (z_inc1 _) (by decide) rfl ?_
                                                refine z_goto C (tgt := 359) dL_law_532 (by decide) ?_
                                                refine z_sub (L' := [(12, .int (if fl_max (σ1 3) b < σ1 3 (b) then σ1 3 (b) else fl_max (σ1 3) b)), (10, .int (nI ((fl_sm (fl_kn σ1) b) + (fl_kn σ1 (b))))), (9, .int (nI (min least (fl_kn σ1 (b))))), (8, .int (nI (max most (fl_kn σ1 (b))))), (14, .int (nI (fl_kn σ1 (b)))), (0, .ref (b0)), (1, .ref (t)), (2, .ref (a 0)), (3, .int (nI (n))), (4, .int (nI (tm))), (5, .int (v9)), (6, .long (fl_dA n σ1 n)), (11, .int (nI (fl_ct (fl_lead σ1) (b + 1)))), (13, .int (nI (b))), (15, .int (nI (o + 1)))]) [2, 3, 4, 5, 6, 7, 8, 9, 10, 11, 12, 13, 14, 15, 0] rfl ?_
                                                exact ih_359 (o + 1)  (by omega) (by omega) 
                                              · refine z_iload C dL_law_487 16 rfl ?_
                                                refine z_aload_n C dL_law_489 rfl 7 rfl ?_
                                                refine z_iload C dL_law_490 15 rfl ?_
                                                refine z_bipush C (v := nI (7)) (by decide) dL_law_492 ?_
                                                refine z_cV C (st' := [.int (σ1 8 (o)), .int (nI (k))]) (B' := [(smS cB a n g1 σ1, zZ), (smG cE n g1 σ1 e1, zZ), (smP cI p1, zZ), (shT t fa ta, zZ), (shF fa cI cZ, σ1), (shF ta cI cZ, τρ)]) [false, false, false, true, true, true] rfl (c_X2_told l D cI cZ cB cE t fa ta σ1 τρ n hA1.iv (o) 7 (by omega) (by omega)) wq_yX2_told wm_L_105 ⟨wn_yX2_told, wo_yX2_told⟩ ⟨rfl, rfl, Nat.le_of_ble_eq_true rfl, Nat.le_of_ble_eq_true rfl⟩ 3 rfl 0 rfl rfl rfl rfl (Nat.le_of_ble_eq_true rfl) dL_law_494 ⟨(by show _ ≤ 636910; omega), (by show _ ≤ 7190737; omega)⟩ rfl rfl ?_
                                                refine z_top (y := nI (fl_ln σ1 (o))) (hA1.iv.ln (by omega)) ?_
                                                have hl_22 := hA1.iv.lnT (i := o) (by omega)
                                                refine z_icmp_geN C (tgt := 529) dL_law_497 (by decide) (by omega) (by omega) (fun c_497 => ?_) (fun c_497 => ?_)
                                                · refine z_iinc C (L' := [(15, .int (nI (o + 1))), (16, .int (nI (fl_agr σ1 (b) (o)))), (12, .int (if fl_max (σ1 3) b < σ1 3 (b) then σ1 3 (b) else fl_max (σ1 3) b)), (10, .int (nI ((fl_sm (fl_kn σ1) b) + (fl_kn σ1 (b))))), (9, .int (nI (min least (fl_kn σ1 (b))))), (8, .int (nI (max most (fl_kn σ1 (b))))), (14, .int (nI (fl_kn σ1 (b)))), (0, .ref (b0)), (1, .ref (t)), (2, .ref (a 0)), (3, .int (nI (n))), (4, .int (nI (tm))), (5, .int (v9)), (6, .long (fl_dA n σ1 n)), (11, .int (nI (fl_ct (fl_lead σ1) (b + 1)))), (13, .int (nI (b))), (17, .int (nI (k)))]) dL_law_529 15 rfl (z_inc1 _) (by decide) rfl ?_
                                                  refine z_goto C (tgt := 359) dL_law_532 (by decide) ?_
                                                  refine z_sub (L' := [(12, .int (if fl_max (σ1 3) b < σ1 3 (b) then σ1 3 (b) else fl_max (σ1 3) b)), (10, .int (nI ((fl_sm (fl_kn σ1) b) + (fl_kn σ1 (b))))), (9, .int (nI (min least (fl_kn σ1 (b))))), (8, .int (nI (max most (fl_kn σ1 (b))))), (14, .int (nI (fl_kn σ1 (b)))), (0, .ref (b0)), (1, .ref (t)), (2, .ref (a 0)), (3, .int (nI (n))), (4, .int (nI (tm))), (5, .int (v9)), (6, .long (fl_dA n σ1 n)), (11, .int (nI (fl_ct (fl_lead σ1) (b + 1)))), (13, .int (nI (b))), (15, .int (nI (o + 1)))]) [2, 3, 4, 5, 6, 7, 8, 9, 10, 11, 12, 13, 14, 15, 0] rfl ?_
                                                  exact ih_359 (o + 1)  (by omega) (by omega) 
                                                · refine z_aload_n C dL_law_500 rfl 7 rfl ?_
                                                  refine z_iload C dL_law_501 14 rfl ?_
                                                  refine z_iload C dL_law_503 16 rfl ?_
                                                  refine z_iconst C (v := nI (0)) (by decide) dL_law_505 ?_
                                                  refine z_cV C (st' := [.int (σ1 10 ((b) * 10 + (k)))]) (B' := [(smS cB a n g1 σ1, zZ), (smG cE n g1 σ1 e1, zZ), (smP cI p1, zZ), (shT t fa ta, zZ), (shF fa cI cZ, σ1), (shF ta cI cZ, τρ)]) [false, false, false, true, true, true] rfl (c_X2_entry l D cI cZ cB cE t fa ta σ1 τρ n hA1.iv (b) (k) 0 (by omega) (by omega) (by omega)) wq_yX2_entry wm_L_116 ⟨wn_yX2_entry, wo_yX2_entry⟩ ⟨rfl, rfl, Nat.le_of_ble_eq_true rfl, Nat.le_of_ble_eq_true rfl⟩ 3 rfl 0 rfl rfl rfl rfl (Nat.le_of_ble_eq_true rfl) dL_law_506 ⟨(by show _ ≤ 636910; omega), (by show _ ≤ 7190737; omega)⟩ rfl rfl ?_
                                                  refine z_aload_n C dL_law_509 rfl 7 rfl ?_
                                                  refine z_iload C dL_law_510 15 rfl ?_
                                                  refine z_iload C dL_law_512 16 rfl ?_
                                                  refine z_iconst C (v := nI (0)) (by decide) dL_law_514 ?_
                                                  refine z_cV C (st' := [.int (σ1 10 ((o) * 10 + (k))), .int (σ1 10 ((b) * 10 + (k)))]) (B' := [(smS cB a n g1 σ1, zZ), (smG cE n g1 σ1 e1, zZ), (smP cI p1, zZ), (shT t fa ta, zZ), (shF fa cI cZ, σ1), (shF ta cI cZ, τρ)]) [false, false, false, true, true, true] rfl (c_X2_entry l D cI cZ cB cE t fa ta σ1 τρ n hA1.iv (o) (k) 0 (by omega) (by omega) (by omega)) wq_yX2_entry wm_L_116 ⟨wn_yX2_entry, wo_yX2_entry⟩ ⟨rfl, rfl, Nat.le_of_ble_eq_true rfl, Nat.le_of_ble_eq_true rfl⟩ 3 rfl 0 rfl rfl rfl rfl (Nat.le_of_ble_eq_true rfl) dL_law_515 ⟨(by show _ ≤ 636910; omega), (by show _ ≤ 7190737; omega)⟩ rfl rfl ?_
                                                  refine z_icmp_ne C (tgt := 523) dL_law_518 (by decide) (fun c_518 => ?_) (fun c_518 => ?_)
                                                  · refine z_iinc C (L' := [(17, .int (nI (k + 1))), (16, .int (nI (fl_agr σ1 (b) (o)))), (12, .int (if fl_max (σ1 3) b < σ1 3 (b) then σ1 3 (b) else fl_max (σ1 3) b)), (10, .int (nI ((fl_sm (fl_kn σ1) b) + (fl_kn σ1 (b))))), (9, .int (nI (min least (fl_kn σ1 (b))))), (8, .int (nI (max most (fl_kn σ1 (b))))), (14, .int (nI (fl_kn σ1 (b)))), (0, .ref (b0)), (1, .ref (t)), (2, .ref (a 0)), (3, .int (nI (n))), (4, .int (nI (tm))), (5, .int (v9)), (6, .long (fl_dA n σ1 n)), (11, .int (nI (fl_ct (fl_lead σ1) (b + 1)))), (13, .int (nI (b))), (15, .int (nI (o)))]) dL_law_523 16 rfl (z_inc1 _) (by decide) rfl ?_
                                                    refine z_goto C (tgt := 474) dL_law_526 (by decide) ?_
                                                    refine z_sub (L' := [(16, .int (nI (fl_agr σ1 (b) (o)))), (12, .int (if fl_max (σ1 3) b < σ1 3 (b) then σ1 3 (b) else fl_max (σ1 3) b)), (10, .int (nI ((fl_sm (fl_kn σ1) b) + (fl_kn σ1 (b))))), (9, .int (nI (min least (fl_kn σ1 (b))))), (8, .int (nI (max most (fl_kn σ1 (b))))), (14, .int (nI (fl_kn σ1 (b)))), (0, .ref (b0)), (1, .ref (t)), (2, .ref (a 0)), (3, .int (nI (n))), (4, .int (nI (tm))), (5, .int (v9)), (6, .long (fl_dA n σ1 n)), (11, .int (nI (fl_ct (fl_lead σ1) (b + 1)))), (13, .int (nI (b))), (15, .int (nI (o))), (17, .int (nI (k + 1)))]) [1, 2, 3, 4, 5, 6, 7, 8, 9, 10, 11, 12, 13, 14, 15, 16, 0] rfl ?_
                                                    exact ih_474 (k + 1)  (by omega) (by omega) (by omega)
                                                  · exact absurd c_518 (hA1.diff (by omega) (by omega) hke (by omega) (by omega))
                                          refine z_sub (L' := [(16, .int (nI (fl_agr σ1 (b) (o)))), (12, .int (if fl_max (σ1 3) b < σ1 3 (b) then σ1 3 (b) else fl_max (σ1 3) b)), (10, .int (nI ((fl_sm (fl_kn σ1) b) + (fl_kn σ1 (b))))), (9, .int (nI (min least (fl_kn σ1 (b))))), (8, .int (nI (max most (fl_kn σ1 (b))))), (14, .int (nI (fl_kn σ1 (b)))), (0, .ref (b0)), (1, .ref (t)), (2, .ref (a 0)), (3, .int (nI (n))), (4, .int (nI (tm))), (5, .int (v9)), (6, .long (fl_dA n σ1 n)), (11, .int (nI (fl_ct (fl_lead σ1) (b + 1)))), (13, .int (nI (b))), (15, .int (nI (o))), (17, .int (nI (fl_agr σ1 (b) (o))))]) [1, 2, 3, 4, 5, 6, 7, 8, 9, 10, 11, 12, 13, 14, 15, 16, 0] rfl ?_
                                          exact loop_474 (11 + 1) (fl_agr σ1 b o)  (by omega) (by omega) (Nat.le_refl _)
                                        · exact absurd (nw_or _ _ _ c_454) (by rw [c_465]; decide)
                                refine z_aload_n C dL_law_376 rfl 7 rfl ?_
                                refine z_iload C dL_law_377 14 rfl ?_
                                refine z_iconst C (v := nI (2)) (by decide) dL_law_379 ?_
                                refine z_cV C (st' := [.int (σ1 5 (b))]) (B' := [(smS cB a n g1 σ1, zZ), (smG cE n g1 σ1 e1, zZ), (smP cI p1, zZ), (shT t fa ta, zZ), (shF fa cI cZ, σ1), (shF ta cI cZ, τρ)]) [false, false, false, true, true, true] rfl (c_X2_told l D cI cZ cB cE t fa ta σ1 τρ n hA1.iv (b) 2 (by omega) (by omega)) wq_yX2_told wm_L_105 ⟨wn_yX2_told, wo_yX2_told⟩ ⟨rfl, rfl, Nat.le_of_ble_eq_true rfl, Nat.le_of_ble_eq_true rfl⟩ 3 rfl 0 rfl rfl rfl rfl (Nat.le_of_ble_eq_true rfl) dL_law_380 ⟨(by show _ ≤ 636910; omega), (by show _ ≤ 7190737; omega)⟩ rfl rfl ?_
                                refine z_iconst C (v := nI (2)) (by decide) dL_law_383 ?_
                                refine z_icmp_ne C (tgt := 415) dL_law_384 (by decide) (fun c_384 => ?_) (fun c_384 => ?_)
                                · refine z_sub (L' := [(16, .int (nI (fl_agr σ1 (b) (o)))), (12, .int (if fl_max (σ1 3) b < σ1 3 (b) then σ1 3 (b) else fl_max (σ1 3) b)), (10, .int (nI ((fl_sm (fl_kn σ1) b) + (fl_kn σ1 (b))))), (9, .int (nI (min least (fl_kn σ1 (b))))), (8, .int (nI (max most (fl_kn σ1 (b))))), (14, .int (nI (fl_kn σ1 (b)))), (0, .ref (b0)), (1, .ref (t)), (2, .ref (a 0)), (3, .int (nI (n))), (4, .int (nI (tm))), (5, .int (v9)), (6, .long (fl_dA n σ1 n)), (11, .int (nI (fl_ct (fl_lead σ1) (b + 1)))), (13, .int (nI (b))), (15, .int (nI (o)))]) [0, 1, 2, 3, 4, 5, 6, 7, 8, 9, 10, 11, 12, 13, 14, 15] rfl ?_
                                  exact K_415
                                · refine z_aload_n C dL_law_387 rfl 7 rfl ?_
                                  refine z_iload C dL_law_388 15 rfl ?_
                                  refine z_iconst C (v := nI (2)) (by decide) dL_law_390 ?_
                                  refine z_cV C (st' := [.int (σ1 5 (o))]) (B' := [(smS cB a n g1 σ1, zZ), (smG cE n g1 σ1 e1, zZ), (smP cI p1, zZ), (shT t fa ta, zZ), (shF fa cI cZ, σ1), (shF ta cI cZ, τρ)]) [false, false, false, true, true, true] rfl (c_X2_told l D cI cZ cB cE t fa ta σ1 τρ n hA1.iv (o) 2 (by omega) (by omega)) wq_yX2_told wm_L_105 ⟨wn_yX2_told, wo_yX2_told⟩ ⟨rfl, rfl, Nat.le_of_ble_eq_true rfl, Nat.le_of_ble_eq_true rfl⟩ 3 rfl 0 rfl rfl rfl rfl (Nat.le_of_ble_eq_true rfl) dL_law_391 ⟨(by show _ ≤ 636910; omega), (by show _ ≤ 7190737; omega)⟩ rfl rfl ?_
                                  refine z_iconst C (v := nI (2)) (by decide) dL_law_394 ?_
                                  refine z_icmp_ne C (tgt := 415) dL_law_395 (by decide) (fun c_395 => ?_) (fun c_395 => ?_)
                                  · refine z_sub (L' := [(16, .int (nI (fl_agr σ1 (b) (o)))), (12, .int (if fl_max (σ1 3) b < σ1 3 (b) then σ1 3 (b) else fl_max (σ1 3) b)), (10, .int (nI ((fl_sm (fl_kn σ1) b) + (fl_kn σ1 (b))))), (9, .int (nI (min least (fl_kn σ1 (b))))), (8, .int (nI (max most (fl_kn σ1 (b))))), (14, .int (nI (fl_kn σ1 (b)))), (0, .ref (b0)), (1, .ref (t)), (2, .ref (a 0)), (3, .int (nI (n))), (4, .int (nI (tm))), (5, .int (v9)), (6, .long (fl_dA n σ1 n)), (11, .int (nI (fl_ct (fl_lead σ1) (b + 1)))), (13, .int (nI (b))), (15, .int (nI (o)))]) [0, 1, 2, 3, 4, 5, 6, 7, 8, 9, 10, 11, 12, 13, 14, 15] rfl ?_
                                    exact K_415
                                  · refine z_aload_n C dL_law_398 rfl 7 rfl ?_
                                    refine z_iload C dL_law_399 14 rfl ?_
                                    refine z_iconst C (v := nI (0)) (by decide) dL_law_401 ?_
                                    refine z_cV C (st' := [.int (σ1 3 (b))]) (B' := [(smS cB a n g1 σ1, zZ), (smG cE n g1 σ1 e1, zZ), (smP cI p1, zZ), (shT t fa ta, zZ), (shF fa cI cZ, σ1), (shF ta cI cZ, τρ)]) [false, false, false, true, true, true] rfl (c_X2_told l D cI cZ cB cE t fa ta σ1 τρ n hA1.iv (b) 0 (by omega) (by omega)) wq_yX2_told wm_L_105 ⟨wn_yX2_told, wo_yX2_told⟩ ⟨rfl, rfl, Nat.le_of_ble_eq_true rfl, Nat.le_of_ble_eq_true rfl⟩ 3 rfl 0 rfl rfl rfl rfl (Nat.le_of_ble_eq_true rfl) dL_law_402 ⟨(by show _ ≤ 636910; omega), (by show _ ≤ 7190737; omega)⟩ rfl rfl ?_
                                    refine z_aload_n C dL_law_405 rfl 7 rfl ?_
                                    refine z_iload C dL_law_406 15 rfl ?_
                                    refine z_iconst C (v := nI (0)) (by decide) dL_law_408 ?_
                                    refine z_cV C (st' := [.int (σ1 3 (o)), .int (σ1 3 (b))]) (B' := [(smS cB a n g1 σ1, zZ), (smG cE n g1 σ1 e1, zZ), (smP cI p1, zZ), (shT t fa ta, zZ), (shF fa cI cZ, σ1), (shF ta cI cZ, τρ)]) [false, false, false, true, true, true] rfl (c_X2_told l D cI cZ cB cE t fa ta σ1 τρ n hA1.iv (o) 0 (by omega) (by omega)) wq_yX2_told wm_L_105 ⟨wn_yX2_told, wo_yX2_told⟩ ⟨rfl, rfl, Nat.le_of_ble_eq_true rfl, Nat.le_of_ble_eq_true rfl⟩ 3 rfl 0 rfl rfl rfl rfl (Nat.le_of_ble_eq_true rfl) dL_law_409 ⟨(by show _ ≤ 636910; omega), (by show _ ≤ 7190737; omega)⟩ rfl rfl ?_
                                    refine z_icmp_eq C (tgt := 468) dL_law_412 (by decide) (fun c_412 => ?_) (fun c_412 => ?_)
                                    · exact absurd c_412 (hA1.one (by omega) (by omega) (by omega) c_384 c_395)
                                    · refine z_sub (L' := [(16, .int (nI (fl_agr σ1 (b) (o)))), (12, .int (if fl_max (σ1 3) b < σ1 3 (b) then σ1 3 (b) else fl_max (σ1 3) b)), (10, .int (nI ((fl_sm (fl_kn σ1) b) + (fl_kn σ1 (b))))), (9, .int (nI (min least (fl_kn σ1 (b))))), (8, .int (nI (max most (fl_kn σ1 (b))))), (14, .int (nI (fl_kn σ1 (b)))), (0, .ref (b0)), (1, .ref (t)), (2, .ref (a 0)), (3, .int (nI (n))), (4, .int (nI (tm))), (5, .int (v9)), (6, .long (fl_dA n σ1 n)), (11, .int (nI (fl_ct (fl_lead σ1) (b + 1)))), (13, .int (nI (b))), (15, .int (nI (o)))]) [0, 1, 2, 3, 4, 5, 6, 7, 8, 9, 10, 11, 12, 13, 14, 15] rfl ?_
                                      exact K_415
                          refine z_sub (L' := [(12, .int (if fl_max (σ1 3) b < σ1 3 (b) then σ1 3 (b) else fl_max (σ1 3) b)), (10, .int (nI ((fl_sm (fl_kn σ1) b) + (fl_kn σ1 (b))))), (9, .int (nI (min least (fl_kn σ1 (b))))), (8, .int (nI (max most (fl_kn σ1 (b))))), (14, .int (nI (fl_kn σ1 (b)))), (0, .ref (b0)), (1, .ref (t)), (2, .ref (a 0)), (3, .int (nI (n))), (4, .int (nI (tm))), (5, .int (v9)), (6, .long (fl_dA n σ1 n)), (11, .int (nI (fl_ct (fl_lead σ1) (b + 1)))), (13, .int (nI (b))), (15, .int (nI (0)))]) [1, 2, 3, 4, 5, 6, 7, 8, 9, 10, 11, 12, 13, 14, 0] rfl ?_
                          exact loop_359 (n + 1) 0  (by omega) (by omega) 
                        · refine z_aload_n C dL_law_302 rfl 6 rfl ?_
                          refine z_iload C dL_law_303 13 rfl ?_
                          refine z_iload C dL_law_305 14 rfl ?_
                          refine z_iconst C (v := nI (0)) (by decide) dL_law_307 ?_
                          refine z_cV C (st' := [.int (σ1 10 ((b) * 10 + (k)))]) (B' := [(smS cB a n g1 σ1, zZ), (smG cE n g1 σ1 e1, zZ), (smP cI p1, zZ), (shT t fa ta, zZ), (shF fa cI cZ, σ1), (shF ta cI cZ, τρ)]) [false, false, false, true, true, true] rfl (c_X2_entry l D cI cZ cB cE t fa ta σ1 τρ n hA1.iv (b) (k) 0 (by omega) (by omega) (by omega)) wq_yX2_entry wm_L_116 ⟨wn_yX2_entry, wo_yX2_entry⟩ ⟨rfl, rfl, Nat.le_of_ble_eq_true rfl, Nat.le_of_ble_eq_true rfl⟩ 3 rfl 0 rfl rfl rfl rfl (Nat.le_of_ble_eq_true rfl) dL_law_308 ⟨(by show _ ≤ 636910; omega), (by show _ ≤ 7190737; omega)⟩ rfl rfl ?_
                          refine z_aload_n C dL_law_311 rfl 6 rfl ?_
                          refine z_iload C dL_law_312 13 rfl ?_
                          refine z_iload C dL_law_314 14 rfl ?_
                          refine z_iconst C (v := nI (1)) (by decide) dL_law_316 ?_
                          refine z_isubN C dL_law_317 (by omega) ?_
                          refine z_iconst C (v := nI (0)) (by decide) dL_law_318 ?_
                          refine z_cV C (st' := [.int (σ1 10 ((b) * 10 + (k - 1))), .int (σ1 10 ((b) * 10 + (k)))]) (B' := [(smS cB a n g1 σ1, zZ), (smG cE n g1 σ1 e1, zZ), (smP cI p1, zZ), (shT t fa ta, zZ), (shF fa cI cZ, σ1), (shF ta cI cZ, τρ)]) [false, false, false, true, true, true] rfl (c_X2_entry l D cI cZ cB cE t fa ta σ1 τρ n hA1.iv (b) (k - 1) 0 (by omega) (by omega) (by omega)) wq_yX2_entry wm_L_116 ⟨wn_yX2_entry, wo_yX2_entry⟩ ⟨rfl, rfl, Nat.le_of_ble_eq_true rfl, Nat.le_of_ble_eq_true rfl⟩ 3 rfl 0 rfl rfl rfl rfl (Nat.le_of_ble_eq_true rfl) dL_law_319 ⟨(by show _ ≤ 636910; omega), (by show _ ≤ 7190737; omega)⟩ rfl rfl ?_
                          refine z_icmp_lt C (tgt := 348) dL_law_322 (by decide) (fun c_322 => ?_) (fun c_322 => ?_)
                          · exact absurd c_322 (Int32.not_lt.mpr (hA1.sort (by omega) hk1 (by omega)))
                          · refine z_aload_n C dL_law_325 rfl 6 rfl ?_
                            refine z_iload C dL_law_326 13 rfl ?_
                            refine z_iload C dL_law_328 14 rfl ?_
                            refine z_iconst C (v := nI (2)) (by decide) dL_law_330 ?_
                            refine z_cV C (st' := [.int (nI (fl_ct (fun o => decide ((k) + 1 ≤ fl_agr σ1 (b) o)) n))]) (B' := [(smS cB a n g1 σ1, zZ), (smG cE n g1 σ1 e1, zZ), (smP cI p1, zZ), (shT t fa ta, zZ), (shF fa cI cZ, σ1), (shF ta cI cZ, τρ)]) [false, false, false, true, true, true] rfl (c_X2_entry l D cI cZ cB cE t fa ta σ1 τρ n hA1.iv (b) (k) 2 (by omega) (by omega) (by omega)) wq_yX2_entry wm_L_116 ⟨wn_yX2_entry, wo_yX2_entry⟩ ⟨rfl, rfl, Nat.le_of_ble_eq_true rfl, Nat.le_of_ble_eq_true rfl⟩ 3 rfl 0 rfl rfl rfl rfl (Nat.le_of_ble_eq_true rfl) dL_law_331 ⟨(by show _ ≤ 636910; omega), (by show _ ≤ 7190737; omega)⟩ rfl rfl ?_
                            have he_23 := fl_ct_le (fun o => decide ((k) + 1 ≤ fl_agr σ1 (b) o)) n
                            refine z_aload_n C dL_law_334 rfl 6 rfl ?_
                            refine z_iload C dL_law_335 13 rfl ?_
                            refine z_iload C dL_law_337 14 rfl ?_
                            refine z_iconst C (v := nI (1)) (by decide) dL_law_339 ?_
                            refine z_isubN C dL_law_340 (by omega) ?_
                            refine z_iconst C (v := nI (2)) (by decide) dL_law_341 ?_
                            refine z_cV C (st' := [.int (nI (fl_ct (fun o => decide ((k - 1) + 1 ≤ fl_agr σ1 (b) o)) n)), .int (nI (fl_ct (fun o => decide ((k) + 1 ≤ fl_agr σ1 (b) o)) n))]) (B' := [(smS cB a n g1 σ1, zZ), (smG cE n g1 σ1 e1, zZ), (smP cI p1, zZ), (shT t fa ta, zZ), (shF fa cI cZ, σ1), (shF ta cI cZ, τρ)]) [false, false, false, true, true, true] rfl (c_X2_entry l D cI cZ cB cE t fa ta σ1 τρ n hA1.iv (b) (k - 1) 2 (by omega) (by omega) (by omega)) wq_yX2_entry wm_L_116 ⟨wn_yX2_entry, wo_yX2_entry⟩ ⟨rfl, rfl, Nat.le_of_ble_eq_true rfl, Nat.le_of_ble_eq_true rfl⟩ 3 rfl 0 rfl rfl rfl rfl (Nat.le_of_ble_eq_true rfl) dL_law_342 ⟨(by show _ ≤ 636910; omega), (by show _ ≤ 7190737; omega)⟩ rfl rfl ?_
                            have he_24 := fl_ct_le (fun o => decide ((k - 1) + 1 ≤ fl_agr σ1 (b) o)) n
                            have hcl := ct_less (n := n) (σ := σ1) (b := b) hk1
                            refine z_icmp_leN C (tgt := 350) dL_law_345 (by decide) (by omega) (by omega) (fun c_345 => ?_) (fun c_345 => ?_)
                            · refine z_iinc C (L' := [(15, .int (nI (k + 1))), (12, .int (if fl_max (σ1 3) b < σ1 3 (b) then σ1 3 (b) else fl_max (σ1 3) b)), (10, .int (nI ((fl_sm (fl_kn σ1) b) + (fl_kn σ1 (b))))), (9, .int (nI (min least (fl_kn σ1 (b))))), (8, .int (nI (max most (fl_kn σ1 (b))))), (14, .int (nI (fl_kn σ1 (b)))), (0, .ref (b0)), (1, .ref (t)), (2, .ref (a 0)), (3, .int (nI (n))), (4, .int (nI (tm))), (5, .int (v9)), (6, .long (fl_dA n σ1 n)), (11, .int (nI (fl_ct (fl_lead σ1) (b + 1)))), (13, .int (nI (b)))]) dL_law_350 14 rfl (z_inc1 _) (by decide) rfl ?_
                              refine z_goto C (tgt := 289) dL_law_353 (by decide) ?_
                              refine z_sub (L' := [(12, .int (if fl_max (σ1 3) b < σ1 3 (b) then σ1 3 (b) else fl_max (σ1 3) b)), (10, .int (nI ((fl_sm (fl_kn σ1) b) + (fl_kn σ1 (b))))), (9, .int (nI (min least (fl_kn σ1 (b))))), (8, .int (nI (max most (fl_kn σ1 (b))))), (14, .int (nI (fl_kn σ1 (b)))), (0, .ref (b0)), (1, .ref (t)), (2, .ref (a 0)), (3, .int (nI (n))), (4, .int (nI (tm))), (5, .int (v9)), (6, .long (fl_dA n σ1 n)), (11, .int (nI (fl_ct (fl_lead σ1) (b + 1)))), (13, .int (nI (b))), (15, .int (nI (k + 1)))]) [1, 2, 3, 4, 5, 6, 7, 8, 9, 10, 11, 12, 13, 14, 0] rfl ?_
                              exact ih_289 (k + 1)  (by omega) (by omega) (by omega)
                            · exact absurd c_345 (by omega)
                    refine z_sub (L' := [(12, .int (if fl_max (σ1 3) b < σ1 3 (b) then σ1 3 (b) else fl_max (σ1 3) b)), (10, .int (nI ((fl_sm (fl_kn σ1) b) + (fl_kn σ1 (b))))), (9, .int (nI (min least (fl_kn σ1 (b))))), (8, .int (nI (max most (fl_kn σ1 (b))))), (14, .int (nI (fl_kn σ1 (b)))), (0, .ref (b0)), (1, .ref (t)), (2, .ref (a 0)), (3, .int (nI (n))), (4, .int (nI (tm))), (5, .int (v9)), (6, .long (fl_dA n σ1 n)), (11, .int (nI (fl_ct (fl_lead σ1) (b + 1)))), (13, .int (nI (b))), (15, .int (nI (1)))]) [1, 2, 3, 4, 5, 6, 7, 8, 9, 10, 11, 12, 13, 14, 0] rfl ?_
                    exact loop_289 (11 + 1) 1  (by omega) (by omega) (by omega)
                  refine z_if_ltN C (tgt := 284) dL_law_181 (by decide) (by omega) ?_
                  refine z_iload C dL_law_184 4 rfl ?_
                  refine z_aload_n C dL_law_186 rfl 6 rfl ?_
                  refine z_iload C dL_law_187 13 rfl ?_
                  refine z_bipush C (v := nI (7)) (by decide) dL_law_189 ?_
                  refine z_cV C (st' := [.int (σ1 8 (b)), .int (nI (fl_kn σ1 (b)))]) (B' := [(smS cB a n g1 σ1, zZ), (smG cE n g1 σ1 e1, zZ), (smP cI p1, zZ), (shT t fa ta, zZ), (shF fa cI cZ, σ1), (shF ta cI cZ, τρ)]) [false, false, false, true, true, true] rfl (c_X2_told l D cI cZ cB cE t fa ta σ1 τρ n hA1.iv (b) 7 (by omega) (by omega)) wq_yX2_told wm_L_105 ⟨wn_yX2_told, wo_yX2_told⟩ ⟨rfl, rfl, Nat.le_of_ble_eq_true rfl, Nat.le_of_ble_eq_true rfl⟩ 3 rfl 0 rfl rfl rfl rfl (Nat.le_of_ble_eq_true rfl) dL_law_191 ⟨(by show _ ≤ 636910; omega), (by show _ ≤ 7190737; omega)⟩ rfl rfl ?_
                  refine z_top (y := nI (fl_ln σ1 (b))) (hA1.iv.ln (by omega)) ?_
                  have hl_25 := hA1.iv.lnT (i := b) (by omega)
                  refine z_icmp_gtN C (tgt := 284) dL_law_194 (by decide) (by omega) (by omega) (fun c_194 => ?_) (fun c_194 => ?_)
                  · exact absurd c_194 (by omega)
                  · refine z_aload_n C dL_law_197 rfl 6 rfl ?_
                    refine z_iload C dL_law_198 13 rfl ?_
                    refine z_bipush C (v := nI (7)) (by decide) dL_law_200 ?_
                    refine z_cV C (st' := [.int (σ1 8 (b))]) (B' := [(smS cB a n g1 σ1, zZ), (smG cE n g1 σ1 e1, zZ), (smP cI p1, zZ), (shT t fa ta, zZ), (shF fa cI cZ, σ1), (shF ta cI cZ, τρ)]) [false, false, false, true, true, true] rfl (c_X2_told l D cI cZ cB cE t fa ta σ1 τρ n hA1.iv (b) 7 (by omega) (by omega)) wq_yX2_told wm_L_105 ⟨wn_yX2_told, wo_yX2_told⟩ ⟨rfl, rfl, Nat.le_of_ble_eq_true rfl, Nat.le_of_ble_eq_true rfl⟩ 3 rfl 0 rfl rfl rfl rfl (Nat.le_of_ble_eq_true rfl) dL_law_202 ⟨(by show _ ≤ 636910; omega), (by show _ ≤ 7190737; omega)⟩ rfl rfl ?_
                    refine z_top (y := nI (fl_ln σ1 (b))) (hA1.iv.ln (by omega)) ?_
                    have hl_26 := hA1.iv.lnT (i := b) (by omega)
                    refine z_bipush C (v := nI (10)) (by decide) dL_law_205 ?_
                    refine z_icmp_gtN C (tgt := 284) dL_law_207 (by decide) (by omega) (by omega) (fun c_207 => ?_) (fun c_207 => ?_)
                    · exact absurd c_207 (by omega)
                    · refine z_aload_n C dL_law_210 rfl 6 rfl ?_
                      refine z_iload C dL_law_211 13 rfl ?_
                      refine z_bipush C (v := nI (9)) (by decide) dL_law_213 ?_
                      refine z_cV C (st' := [.int (fl_last σ1 (b))]) (B' := [(smS cB a n g1 σ1, zZ), (smG cE n g1 σ1 e1, zZ), (smP cI p1, zZ), (shT t fa ta, zZ), (shF fa cI cZ, σ1), (shF ta cI cZ, τρ)]) [false, false, false, true, true, true] rfl (c_X2_told l D cI cZ cB cE t fa ta σ1 τρ n hA1.iv (b) 9 (by omega) (by omega)) wq_yX2_told wm_L_105 ⟨wn_yX2_told, wo_yX2_told⟩ ⟨rfl, rfl, Nat.le_of_ble_eq_true rfl, Nat.le_of_ble_eq_true rfl⟩ 3 rfl 0 rfl rfl rfl rfl (Nat.le_of_ble_eq_true rfl) dL_law_215 ⟨(by show _ ≤ 636910; omega), (by show _ ≤ 7190737; omega)⟩ rfl rfl ?_
                      refine z_aload_n C dL_law_218 rfl 6 rfl ?_
                      refine z_iload C dL_law_219 13 rfl ?_
                      refine z_iconst C (v := nI (0)) (by decide) dL_law_221 ?_
                      refine z_cV C (st' := [.int (σ1 3 (b)), .int (fl_last σ1 (b))]) (B' := [(smS cB a n g1 σ1, zZ), (smG cE n g1 σ1 e1, zZ), (smP cI p1, zZ), (shT t fa ta, zZ), (shF fa cI cZ, σ1), (shF ta cI cZ, τρ)]) [false, false, false, true, true, true] rfl (c_X2_told l D cI cZ cB cE t fa ta σ1 τρ n hA1.iv (b) 0 (by omega) (by omega)) wq_yX2_told wm_L_105 ⟨wn_yX2_told, wo_yX2_told⟩ ⟨rfl, rfl, Nat.le_of_ble_eq_true rfl, Nat.le_of_ble_eq_true rfl⟩ 3 rfl 0 rfl rfl rfl rfl (Nat.le_of_ble_eq_true rfl) dL_law_222 ⟨(by show _ ≤ 636910; omega), (by show _ ≤ 7190737; omega)⟩ rfl rfl ?_
                      refine z_icmp_gt C (tgt := 284) dL_law_225 (by decide) (fun c_225 => ?_) (fun c_225 => ?_)
                      · exact absurd c_225 (Int32.not_lt.mpr hlt9)
                      · refine z_aload_n C dL_law_228 rfl 6 rfl ?_
                        refine z_iload C dL_law_229 13 rfl ?_
                        refine z_iconst C (v := nI (2)) (by decide) dL_law_231 ?_
                        refine z_cV C (st' := [.int (σ1 5 (b))]) (B' := [(smS cB a n g1 σ1, zZ), (smG cE n g1 σ1 e1, zZ), (smP cI p1, zZ), (shT t fa ta, zZ), (shF fa cI cZ, σ1), (shF ta cI cZ, τρ)]) [false, false, false, true, true, true] rfl (c_X2_told l D cI cZ cB cE t fa ta σ1 τρ n hA1.iv (b) 2 (by omega) (by omega)) wq_yX2_told wm_L_105 ⟨wn_yX2_told, wo_yX2_told⟩ ⟨rfl, rfl, Nat.le_of_ble_eq_true rfl, Nat.le_of_ble_eq_true rfl⟩ 3 rfl 0 rfl rfl rfl rfl (Nat.le_of_ble_eq_true rfl) dL_law_232 ⟨(by show _ ≤ 636910; omega), (by show _ ≤ 7190737; omega)⟩ rfl rfl ?_
                        refine z_if_le C (tgt := 250) dL_law_235 (by decide) (fun c_235 => ?_) (fun c_235 => ?_)
                        · refine z_aload_n C dL_law_250 rfl 6 rfl ?_
                          refine z_iload C dL_law_251 13 rfl ?_
                          refine z_iconst C (v := nI (4)) (by decide) dL_law_253 ?_
                          refine z_cV C (st' := [.int (zb (decide (¬ σ1 7 (b) = 0)))]) (B' := [(smS cB a n g1 σ1, zZ), (smG cE n g1 σ1 e1, zZ), (smP cI p1, zZ), (shT t fa ta, zZ), (shF fa cI cZ, σ1), (shF ta cI cZ, τρ)]) [false, false, false, true, true, true] rfl (c_X2_told l D cI cZ cB cE t fa ta σ1 τρ n hA1.iv (b) 4 (by omega) (by omega)) wq_yX2_told wm_L_105 ⟨wn_yX2_told, wo_yX2_told⟩ ⟨rfl, rfl, Nat.le_of_ble_eq_true rfl, Nat.le_of_ble_eq_true rfl⟩ 3 rfl 0 rfl rfl rfl rfl (Nat.le_of_ble_eq_true rfl) dL_law_254 ⟨(by show _ ≤ 636910; omega), (by show _ ≤ 7190737; omega)⟩ rfl rfl ?_
                          refine z_iconst C (v := nI (1)) (by decide) dL_law_257 ?_
                          refine z_icmp_ne C (tgt := 286) dL_law_258 (by decide) (fun c_258 => ?_) (fun c_258 => ?_)
                          · refine z_sub (L' := [(12, .int (if fl_max (σ1 3) b < σ1 3 (b) then σ1 3 (b) else fl_max (σ1 3) b)), (10, .int (nI ((fl_sm (fl_kn σ1) b) + (fl_kn σ1 (b))))), (9, .int (nI (min least (fl_kn σ1 (b))))), (8, .int (nI (max most (fl_kn σ1 (b))))), (14, .int (nI (fl_kn σ1 (b)))), (0, .ref (b0)), (1, .ref (t)), (2, .ref (a 0)), (3, .int (nI (n))), (4, .int (nI (tm))), (5, .int (v9)), (6, .long (fl_dA n σ1 n)), (11, .int (nI (fl_ct (fl_lead σ1) (b + 1)))), (13, .int (nI (b)))]) [0, 1, 2, 3, 4, 5, 6, 7, 8, 9, 10, 11, 12, 13] rfl ?_
                            exact K_286
                          · refine z_aload_n C dL_law_261 rfl 6 rfl ?_
                            refine z_iload C dL_law_262 13 rfl ?_
                            refine z_iconst C (v := nI (2)) (by decide) dL_law_264 ?_
                            refine z_cV C (st' := [.int (σ1 5 (b))]) (B' := [(smS cB a n g1 σ1, zZ), (smG cE n g1 σ1 e1, zZ), (smP cI p1, zZ), (shT t fa ta, zZ), (shF fa cI cZ, σ1), (shF ta cI cZ, τρ)]) [false, false, false, true, true, true] rfl (c_X2_told l D cI cZ cB cE t fa ta σ1 τρ n hA1.iv (b) 2 (by omega) (by omega)) wq_yX2_told wm_L_105 ⟨wn_yX2_told, wo_yX2_told⟩ ⟨rfl, rfl, Nat.le_of_ble_eq_true rfl, Nat.le_of_ble_eq_true rfl⟩ 3 rfl 0 rfl rfl rfl rfl (Nat.le_of_ble_eq_true rfl) dL_law_265 ⟨(by show _ ≤ 636910; omega), (by show _ ≤ 7190737; omega)⟩ rfl rfl ?_
                            refine z_iconst C (v := nI (2)) (by decide) dL_law_268 ?_
                            refine z_icmp_ge C (tgt := 286) dL_law_269 (by decide) (fun c_269 => ?_) (fun c_269 => ?_)
                            · refine z_sub (L' := [(12, .int (if fl_max (σ1 3) b < σ1 3 (b) then σ1 3 (b) else fl_max (σ1 3) b)), (10, .int (nI ((fl_sm (fl_kn σ1) b) + (fl_kn σ1 (b))))), (9, .int (nI (min least (fl_kn σ1 (b))))), (8, .int (nI (max most (fl_kn σ1 (b))))), (14, .int (nI (fl_kn σ1 (b)))), (0, .ref (b0)), (1, .ref (t)), (2, .ref (a 0)), (3, .int (nI (n))), (4, .int (nI (tm))), (5, .int (v9)), (6, .long (fl_dA n σ1 n)), (11, .int (nI (fl_ct (fl_lead σ1) (b + 1)))), (13, .int (nI (b)))]) [0, 1, 2, 3, 4, 5, 6, 7, 8, 9, 10, 11, 12, 13] rfl ?_
                              exact K_286
                            · refine z_aload_n C dL_law_272 rfl 6 rfl ?_
                              refine z_iload C dL_law_273 13 rfl ?_
                              refine z_bipush C (v := nI (6)) (by decide) dL_law_275 ?_
                              refine z_cV C (st' := [.int (σ1 2 (b))]) (B' := [(smS cB a n g1 σ1, zZ), (smG cE n g1 σ1 e1, zZ), (smP cI p1, zZ), (shT t fa ta, zZ), (shF fa cI cZ, σ1), (shF ta cI cZ, τρ)]) [false, false, false, true, true, true] rfl (c_X2_told l D cI cZ cB cE t fa ta σ1 τρ n hA1.iv (b) 6 (by omega) (by omega)) wq_yX2_told wm_L_105 ⟨wn_yX2_told, wo_yX2_told⟩ ⟨rfl, rfl, Nat.le_of_ble_eq_true rfl, Nat.le_of_ble_eq_true rfl⟩ 3 rfl 0 rfl rfl rfl rfl (Nat.le_of_ble_eq_true rfl) dL_law_277 ⟨(by show _ ≤ 636910; omega), (by show _ ≤ 7190737; omega)⟩ rfl rfl ?_
                              refine z_iconst C (v := nI (1)) (by decide) dL_law_280 ?_
                              refine z_icmp_ge C (tgt := 286) dL_law_281 (by decide) (fun c_281 => ?_) (fun c_281 => ?_)
                              · refine z_sub (L' := [(12, .int (if fl_max (σ1 3) b < σ1 3 (b) then σ1 3 (b) else fl_max (σ1 3) b)), (10, .int (nI ((fl_sm (fl_kn σ1) b) + (fl_kn σ1 (b))))), (9, .int (nI (min least (fl_kn σ1 (b))))), (8, .int (nI (max most (fl_kn σ1 (b))))), (14, .int (nI (fl_kn σ1 (b)))), (0, .ref (b0)), (1, .ref (t)), (2, .ref (a 0)), (3, .int (nI (n))), (4, .int (nI (tm))), (5, .int (v9)), (6, .long (fl_dA n σ1 n)), (11, .int (nI (fl_ct (fl_lead σ1) (b + 1)))), (13, .int (nI (b)))]) [0, 1, 2, 3, 4, 5, 6, 7, 8, 9, 10, 11, 12, 13] rfl ?_
                                exact K_286
                              · exact absurd hck c_281
                        · refine z_aload_n C dL_law_238 rfl 6 rfl ?_
                          refine z_iload C dL_law_239 13 rfl ?_
                          refine z_iconst C (v := nI (1)) (by decide) dL_law_241 ?_
                          refine z_cV C (st' := [.int (σ1 4 (b))]) (B' := [(smS cB a n g1 σ1, zZ), (smG cE n g1 σ1 e1, zZ), (smP cI p1, zZ), (shT t fa ta, zZ), (shF fa cI cZ, σ1), (shF ta cI cZ, τρ)]) [false, false, false, true, true, true] rfl (c_X2_told l D cI cZ cB cE t fa ta σ1 τρ n hA1.iv (b) 1 (by omega) (by omega)) wq_yX2_told wm_L_105 ⟨wn_yX2_told, wo_yX2_told⟩ ⟨rfl, rfl, Nat.le_of_ble_eq_true rfl, Nat.le_of_ble_eq_true rfl⟩ 3 rfl 0 rfl rfl rfl rfl (Nat.le_of_ble_eq_true rfl) dL_law_242 ⟨(by show _ ≤ 636910; omega), (by show _ ≤ 7190737; omega)⟩ rfl rfl ?_
                          refine z_iload C dL_law_245 13 rfl ?_
                          refine z_icmp_ne C (tgt := 284) dL_law_247 (by decide) (fun c_247 => ?_) (fun c_247 => ?_)
                          · exact absurd (hvb.2.1 (fun z => c_235 (by rw [z]; exact Int32.le_refl _))) c_247
                          · refine z_aload_n C dL_law_250 rfl 6 rfl ?_
                            refine z_iload C dL_law_251 13 rfl ?_
                            refine z_iconst C (v := nI (4)) (by decide) dL_law_253 ?_
                            refine z_cV C (st' := [.int (zb (decide (¬ σ1 7 (b) = 0)))]) (B' := [(smS cB a n g1 σ1, zZ), (smG cE n g1 σ1 e1, zZ), (smP cI p1, zZ), (shT t fa ta, zZ), (shF fa cI cZ, σ1), (shF ta cI cZ, τρ)]) [false, false, false, true, true, true] rfl (c_X2_told l D cI cZ cB cE t fa ta σ1 τρ n hA1.iv (b) 4 (by omega) (by omega)) wq_yX2_told wm_L_105 ⟨wn_yX2_told, wo_yX2_told⟩ ⟨rfl, rfl, Nat.le_of_ble_eq_true rfl, Nat.le_of_ble_eq_true rfl⟩ 3 rfl 0 rfl rfl rfl rfl (Nat.le_of_ble_eq_true rfl) dL_law_254 ⟨(by show _ ≤ 636910; omega), (by show _ ≤ 7190737; omega)⟩ rfl rfl ?_
                            refine z_iconst C (v := nI (1)) (by decide) dL_law_257 ?_
                            refine z_icmp_ne C (tgt := 286) dL_law_258 (by decide) (fun c_258 => ?_) (fun c_258 => ?_)
                            · refine z_sub (L' := [(12, .int (if fl_max (σ1 3) b < σ1 3 (b) then σ1 3 (b) else fl_max (σ1 3) b)), (10, .int (nI ((fl_sm (fl_kn σ1) b) + (fl_kn σ1 (b))))), (9, .int (nI (min least (fl_kn σ1 (b))))), (8, .int (nI (max most (fl_kn σ1 (b))))), (14, .int (nI (fl_kn σ1 (b)))), (0, .ref (b0)), (1, .ref (t)), (2, .ref (a 0)), (3, .int (nI (n))), (4, .int (nI (tm))), (5, .int (v9)), (6, .long (fl_dA n σ1 n)), (11, .int (nI (fl_ct (fl_lead σ1) (b + 1)))), (13, .int (nI (b)))]) [0, 1, 2, 3, 4, 5, 6, 7, 8, 9, 10, 11, 12, 13] rfl ?_
                              exact K_286
                            · refine z_aload_n C dL_law_261 rfl 6 rfl ?_
                              refine z_iload C dL_law_262 13 rfl ?_
                              refine z_iconst C (v := nI (2)) (by decide) dL_law_264 ?_
                              refine z_cV C (st' := [.int (σ1 5 (b))]) (B' := [(smS cB a n g1 σ1, zZ), (smG cE n g1 σ1 e1, zZ), (smP cI p1, zZ), (shT t fa ta, zZ), (shF fa cI cZ, σ1), (shF ta cI cZ, τρ)]) [false, false, false, true, true, true] rfl (c_X2_told l D cI cZ cB cE t fa ta σ1 τρ n hA1.iv (b) 2 (by omega) (by omega)) wq_yX2_told wm_L_105 ⟨wn_yX2_told, wo_yX2_told⟩ ⟨rfl, rfl, Nat.le_of_ble_eq_true rfl, Nat.le_of_ble_eq_true rfl⟩ 3 rfl 0 rfl rfl rfl rfl (Nat.le_of_ble_eq_true rfl) dL_law_265 ⟨(by show _ ≤ 636910; omega), (by show _ ≤ 7190737; omega)⟩ rfl rfl ?_
                              refine z_iconst C (v := nI (2)) (by decide) dL_law_268 ?_
                              refine z_icmp_ge C (tgt := 286) dL_law_269 (by decide) (fun c_269 => ?_) (fun c_269 => ?_)
                              · refine z_sub (L' := [(12, .int (if fl_max (σ1 3) b < σ1 3 (b) then σ1 3 (b) else fl_max (σ1 3) b)), (10, .int (nI ((fl_sm (fl_kn σ1) b) + (fl_kn σ1 (b))))), (9, .int (nI (min least (fl_kn σ1 (b))))), (8, .int (nI (max most (fl_kn σ1 (b))))), (14, .int (nI (fl_kn σ1 (b)))), (0, .ref (b0)), (1, .ref (t)), (2, .ref (a 0)), (3, .int (nI (n))), (4, .int (nI (tm))), (5, .int (v9)), (6, .long (fl_dA n σ1 n)), (11, .int (nI (fl_ct (fl_lead σ1) (b + 1)))), (13, .int (nI (b)))]) [0, 1, 2, 3, 4, 5, 6, 7, 8, 9, 10, 11, 12, 13] rfl ?_
                                exact K_286
                              · refine z_aload_n C dL_law_272 rfl 6 rfl ?_
                                refine z_iload C dL_law_273 13 rfl ?_
                                refine z_bipush C (v := nI (6)) (by decide) dL_law_275 ?_
                                refine z_cV C (st' := [.int (σ1 2 (b))]) (B' := [(smS cB a n g1 σ1, zZ), (smG cE n g1 σ1 e1, zZ), (smP cI p1, zZ), (shT t fa ta, zZ), (shF fa cI cZ, σ1), (shF ta cI cZ, τρ)]) [false, false, false, true, true, true] rfl (c_X2_told l D cI cZ cB cE t fa ta σ1 τρ n hA1.iv (b) 6 (by omega) (by omega)) wq_yX2_told wm_L_105 ⟨wn_yX2_told, wo_yX2_told⟩ ⟨rfl, rfl, Nat.le_of_ble_eq_true rfl, Nat.le_of_ble_eq_true rfl⟩ 3 rfl 0 rfl rfl rfl rfl (Nat.le_of_ble_eq_true rfl) dL_law_277 ⟨(by show _ ≤ 636910; omega), (by show _ ≤ 7190737; omega)⟩ rfl rfl ?_
                                refine z_iconst C (v := nI (1)) (by decide) dL_law_280 ?_
                                refine z_icmp_ge C (tgt := 286) dL_law_281 (by decide) (fun c_281 => ?_) (fun c_281 => ?_)
                                · refine z_sub (L' := [(12, .int (if fl_max (σ1 3) b < σ1 3 (b) then σ1 3 (b) else fl_max (σ1 3) b)), (10, .int (nI ((fl_sm (fl_kn σ1) b) + (fl_kn σ1 (b))))), (9, .int (nI (min least (fl_kn σ1 (b))))), (8, .int (nI (max most (fl_kn σ1 (b))))), (14, .int (nI (fl_kn σ1 (b)))), (0, .ref (b0)), (1, .ref (t)), (2, .ref (a 0)), (3, .int (nI (n))), (4, .int (nI (tm))), (5, .int (v9)), (6, .long (fl_dA n σ1 n)), (11, .int (nI (fl_ct (fl_lead σ1) (b + 1)))), (13, .int (nI (b)))]) [0, 1, 2, 3, 4, 5, 6, 7, 8, 9, 10, 11, 12, 13] rfl ?_
                                  exact K_286
                                · exact absurd hck c_281
                refine z_iload C dL_law_147 12 rfl ?_
                refine z_aload_n C dL_law_149 rfl 6 rfl ?_
                refine z_iload C dL_law_150 13 rfl ?_
                refine z_iconst C (v := nI (4)) (by decide) dL_law_152 ?_
                refine z_cV C (st' := [.int (zb (decide (¬ σ1 7 (b) = 0))), .int (nI (fl_ct (fl_lead σ1) b))]) (B' := [(smS cB a n g1 σ1, zZ), (smG cE n g1 σ1 e1, zZ), (smP cI p1, zZ), (shT t fa ta, zZ), (shF fa cI cZ, σ1), (shF ta cI cZ, τρ)]) [false, false, false, true, true, true] rfl (c_X2_told l D cI cZ cB cE t fa ta σ1 τρ n hA1.iv (b) 4 (by omega) (by omega)) wq_yX2_told wm_L_105 ⟨wn_yX2_told, wo_yX2_told⟩ ⟨rfl, rfl, Nat.le_of_ble_eq_true rfl, Nat.le_of_ble_eq_true rfl⟩ 3 rfl 0 rfl rfl rfl rfl (Nat.le_of_ble_eq_true rfl) dL_law_153 ⟨(by show _ ≤ 636910; omega), (by show _ ≤ 7190737; omega)⟩ rfl rfl ?_
                refine z_iconst C (v := nI (1)) (by decide) dL_law_156 ?_
                refine z_icmp_ne C (tgt := 175) dL_law_157 (by decide) (fun c_157 => ?_) (fun c_157 => ?_)
                · refine z_iconst C (v := nI (0)) (by decide) dL_law_175 ?_
                  refine z_iaddN C dL_law_176 ?_
                  refine z_istore C (L' := [(11, .int (nI ((fl_ct (fl_lead σ1) b) + 0))), (12, .int (if fl_max (σ1 3) b < σ1 3 (b) then σ1 3 (b) else fl_max (σ1 3) b)), (10, .int (nI ((fl_sm (fl_kn σ1) b) + (fl_kn σ1 (b))))), (9, .int (nI (min least (fl_kn σ1 (b))))), (8, .int (nI (max most (fl_kn σ1 (b))))), (14, .int (nI (fl_kn σ1 (b)))), (0, .ref (b0)), (1, .ref (t)), (2, .ref (a 0)), (3, .int (nI (n))), (4, .int (nI (tm))), (5, .int (v9)), (6, .long (fl_dA n σ1 n)), (13, .int (nI (b)))]) dL_law_177 (by decide) rfl ?_
                  refine z_sub (L' := [(12, .int (if fl_max (σ1 3) b < σ1 3 (b) then σ1 3 (b) else fl_max (σ1 3) b)), (10, .int (nI ((fl_sm (fl_kn σ1) b) + (fl_kn σ1 (b))))), (9, .int (nI (min least (fl_kn σ1 (b))))), (8, .int (nI (max most (fl_kn σ1 (b))))), (14, .int (nI (fl_kn σ1 (b)))), (0, .ref (b0)), (1, .ref (t)), (2, .ref (a 0)), (3, .int (nI (n))), (4, .int (nI (tm))), (5, .int (v9)), (6, .long (fl_dA n σ1 n)), (11, .int (nI ((fl_ct (fl_lead σ1) b) + 0))), (13, .int (nI (b)))]) [1, 2, 3, 4, 5, 6, 7, 8, 9, 10, 11, 12, 0, 13] rfl ?_
                  rw [show (fl_ct (fl_lead σ1) b) + 0 = fl_ct (fl_lead σ1) (b + 1) from (fl_ct_n (Bool.eq_false_iff.mpr (fun z => c_157 (zb_1.mpr (decide_eq_true (lead_iff.mp z).1))))).symm]
                  exact K_179
                · refine z_aload_n C dL_law_160 rfl 6 rfl ?_
                  refine z_iload C dL_law_161 13 rfl ?_
                  refine z_iconst C (v := nI (2)) (by decide) dL_law_163 ?_
                  refine z_cV C (st' := [.int (σ1 5 (b)), .int (nI (fl_ct (fl_lead σ1) b))]) (B' := [(smS cB a n g1 σ1, zZ), (smG cE n g1 σ1 e1, zZ), (smP cI p1, zZ), (shT t fa ta, zZ), (shF fa cI cZ, σ1), (shF ta cI cZ, τρ)]) [false, false, false, true, true, true] rfl (c_X2_told l D cI cZ cB cE t fa ta σ1 τρ n hA1.iv (b) 2 (by omega) (by omega)) wq_yX2_told wm_L_105 ⟨wn_yX2_told, wo_yX2_told⟩ ⟨rfl, rfl, Nat.le_of_ble_eq_true rfl, Nat.le_of_ble_eq_true rfl⟩ 3 rfl 0 rfl rfl rfl rfl (Nat.le_of_ble_eq_true rfl) dL_law_164 ⟨(by show _ ≤ 636910; omega), (by show _ ≤ 7190737; omega)⟩ rfl rfl ?_
                  refine z_iconst C (v := nI (2)) (by decide) dL_law_167 ?_
                  refine z_icmp_ne C (tgt := 175) dL_law_168 (by decide) (fun c_168 => ?_) (fun c_168 => ?_)
                  · refine z_iconst C (v := nI (0)) (by decide) dL_law_175 ?_
                    refine z_iaddN C dL_law_176 ?_
                    refine z_istore C (L' := [(11, .int (nI ((fl_ct (fl_lead σ1) b) + 0))), (12, .int (if fl_max (σ1 3) b < σ1 3 (b) then σ1 3 (b) else fl_max (σ1 3) b)), (10, .int (nI ((fl_sm (fl_kn σ1) b) + (fl_kn σ1 (b))))), (9, .int (nI (min least (fl_kn σ1 (b))))), (8, .int (nI (max most (fl_kn σ1 (b))))), (14, .int (nI (fl_kn σ1 (b)))), (0, .ref (b0)), (1, .ref (t)), (2, .ref (a 0)), (3, .int (nI (n))), (4, .int (nI (tm))), (5, .int (v9)), (6, .long (fl_dA n σ1 n)), (13, .int (nI (b)))]) dL_law_177 (by decide) rfl ?_
                    refine z_sub (L' := [(12, .int (if fl_max (σ1 3) b < σ1 3 (b) then σ1 3 (b) else fl_max (σ1 3) b)), (10, .int (nI ((fl_sm (fl_kn σ1) b) + (fl_kn σ1 (b))))), (9, .int (nI (min least (fl_kn σ1 (b))))), (8, .int (nI (max most (fl_kn σ1 (b))))), (14, .int (nI (fl_kn σ1 (b)))), (0, .ref (b0)), (1, .ref (t)), (2, .ref (a 0)), (3, .int (nI (n))), (4, .int (nI (tm))), (5, .int (v9)), (6, .long (fl_dA n σ1 n)), (11, .int (nI ((fl_ct (fl_lead σ1) b) + 0))), (13, .int (nI (b)))]) [1, 2, 3, 4, 5, 6, 7, 8, 9, 10, 11, 12, 0, 13] rfl ?_
                    rw [show (fl_ct (fl_lead σ1) b) + 0 = fl_ct (fl_lead σ1) (b + 1) from (fl_ct_n (Bool.eq_false_iff.mpr (fun z => c_168 (lead_iff.mp z).2))).symm]
                    exact K_179
                  · refine z_iconst C (v := nI (1)) (by decide) dL_law_171 ?_
                    refine z_goto C (tgt := 176) dL_law_172 (by decide) ?_
                    refine z_iaddN C dL_law_176 ?_
                    refine z_istore C (L' := [(11, .int (nI ((fl_ct (fl_lead σ1) b) + 1))), (12, .int (if fl_max (σ1 3) b < σ1 3 (b) then σ1 3 (b) else fl_max (σ1 3) b)), (10, .int (nI ((fl_sm (fl_kn σ1) b) + (fl_kn σ1 (b))))), (9, .int (nI (min least (fl_kn σ1 (b))))), (8, .int (nI (max most (fl_kn σ1 (b))))), (14, .int (nI (fl_kn σ1 (b)))), (0, .ref (b0)), (1, .ref (t)), (2, .ref (a 0)), (3, .int (nI (n))), (4, .int (nI (tm))), (5, .int (v9)), (6, .long (fl_dA n σ1 n)), (13, .int (nI (b)))]) dL_law_177 (by decide) rfl ?_
                    refine z_sub (L' := [(12, .int (if fl_max (σ1 3) b < σ1 3 (b) then σ1 3 (b) else fl_max (σ1 3) b)), (10, .int (nI ((fl_sm (fl_kn σ1) b) + (fl_kn σ1 (b))))), (9, .int (nI (min least (fl_kn σ1 (b))))), (8, .int (nI (max most (fl_kn σ1 (b))))), (14, .int (nI (fl_kn σ1 (b)))), (0, .ref (b0)), (1, .ref (t)), (2, .ref (a 0)), (3, .int (nI (n))), (4, .int (nI (tm))), (5, .int (v9)), (6, .long (fl_dA n σ1 n)), (11, .int (nI ((fl_ct (fl_lead σ1) b) + 1))), (13, .int (nI (b)))]) [1, 2, 3, 4, 5, 6, 7, 8, 9, 10, 11, 12, 0, 13] rfl ?_
                    rw [show (fl_ct (fl_lead σ1) b) + 1 = fl_ct (fl_lead σ1) (b + 1) from (fl_ct_y (lead_iff.mpr ⟨of_decide_eq_true (zb_1.mp c_157), c_168⟩)).symm]
                    exact K_179
          refine z_sub (L' := [(0, .ref (b0)), (1, .ref (t)), (2, .ref (a 0)), (3, .int (nI (n))), (4, .int (nI (tm))), (5, .int (v9)), (6, .long (fl_dA n σ1 n)), (8, .int (nI (0))), (9, .int (nI (99))), (10, .int (nI (0))), (11, .int (nI (0))), (12, .int (nI (0))), (13, .int (nI (0)))]) [8, 9, 10, 11, 12, 7, 6, 5, 4, 3, 2, 1, 0] rfl ?_
          exact loop_92 (n + 1) 0 0 99 (by omega) (by omega) rfl (by omega) (if_pos rfl).symm (by omega)
        · exact absurd c_62 (by omega)
  refine z_sub (L' := [(0, .ref (b0)), (1, .ref (t)), (2, .ref (a 0)), (3, .int (nI (n))), (4, .int (nI (0)))]) [4, 3, 2, 1, 0] rfl ?_
  exact loop_29 (14 + 1) 0 σ g en ps zZ (0 + 1 + 26 + 16017) (0 + 2 + 440 + 176075) (by omega) (by omega) hA hk (by omega) (by omega)
end LAWMAIN
