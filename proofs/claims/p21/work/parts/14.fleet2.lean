def fl_raise (σ : zF) (b : Nat) : zF := zU (zU (zU (zU σ 7 b (nI 1)) 5 b (nI 0)) 2 b (σ 1 b)) 9 b (nI 0)
theorem fl_raise_Iv {n : Nat} {σ : zF} (h : fl_Iv n σ) (b : Nat) : fl_Iv n (fl_raise σ b) := (((h.U7 b (Or.inr rfl)).P 5 b _ (by omega)).P 2 b _ (by omega)).U9 b 0 (by omega)
theorem fl_any_no {p : Nat → Bool} {i : Nat} (h : fl_any p i = false) (hp : p i = false) : fl_any p (i + 1) = false := by rw [fl_any, h, hp]; rfl
theorem fl_com_0 (n : Nat) (σ : zF) (b k : Nat) (h : k ≤ fl_kn σ b) : fl_comL n σ b k = σ := by
  cases k with
  | zero => rfl
  | succ k => rw [fl_comL, if_neg (by omega)]
set_option maxHeartbeats 4000000 in
set_option maxRecDepth 100000 in
theorem c_X0_raise (l : Launch) (D : va_G) (cI cZ cB cE : ClassId) (a : Nat → Nat) (σ : zF) (n : Nat) (hI : fl_Iv n σ) (b : Nat) (hb : b < n) : zM l D (tyL cI cZ cB cE) yX0_raise cX0_raise 2 none (zR 0 0) [.ref (a 0), .int (nI (b))] [(shF a cI cZ, σ)] 0 0 (fun r u => r = none ∧ u = [(shF a cI cZ, (fl_raise σ b))]) := by
  have hn3 := hI.n3
  have hn7 := hI.n7
  refine z_of (by decide) (Nat.le_of_ble_eq_true rfl) rfl ?_
  intro p e s m args below meth c A C hr hin
  obtain ⟨Q, hQ⟩ : ∃ Q, Q = MQ below (zQ (fun r u => r = none ∧ u = [(shF a cI cZ, (fl_raise σ b))]) D (tyL cI cZ cB cE) A) args s 0 0 A := ⟨_, rfl⟩
  rw [← hQ]
  refine z_aload_n C dX0_raise_0 rfl 0 rfl ?_
  refine z_getR C wu_X0 0 rfl 0 rfl rfl 11 (by decide) rfl wf_X0_30 dX0_raise_1 ?_
  refine z_iload_n C dX0_raise_4 rfl 1 rfl ?_
  refine z_iconst C (v := nI (1)) (by decide) dX0_raise_5 ?_
  refine z_zast C (B' := [(shF a cI cZ, (zU σ 7 (b) (nI (1))))]) 0 rfl 7 1 rfl rfl dX0_raise_6 (by omega) (by decide) (by decide) rfl ?_
  refine z_aload_n C dX0_raise_7 rfl 0 rfl ?_
  refine z_getR C wu_X0 0 rfl 0 rfl rfl 9 (by decide) rfl wf_X0_24 dX0_raise_8 ?_
  refine z_iload_n C dX0_raise_11 rfl 1 rfl ?_
  refine z_iconst C (v := nI (0)) (by decide) dX0_raise_12 ?_
  refine z_iast C (B' := [(shF a cI cZ, (zU (zU σ 7 (b) (nI (1))) 5 (b) (nI (0))))]) 0 rfl 5 0 rfl rfl dX0_raise_13 (by omega) (by decide) rfl ?_
  refine z_aload_n C dX0_raise_14 rfl 0 rfl ?_
  refine z_getR C wu_X0 0 rfl 0 rfl rfl 6 (by decide) rfl wf_X0_15 dX0_raise_15 ?_
  refine z_iload_n C dX0_raise_18 rfl 1 rfl ?_
  refine z_aload_n C dX0_raise_19 rfl 0 rfl ?_
  refine z_getR C wu_X0 0 rfl 0 rfl rfl 5 (by decide) rfl wf_X0_9 dX0_raise_20 ?_
  refine z_iload_n C dX0_raise_23 rfl 1 rfl ?_
  refine z_iald C 0 rfl 1 0 rfl rfl dX0_raise_24 (by omega) (by decide) ?_
  refine z_top (y := σ 1 (b)) rfl ?_
  refine z_iast C (B' := [(shF a cI cZ, (zU (zU (zU σ 7 (b) (nI (1))) 5 (b) (nI (0))) 2 (b) (σ 1 (b))))]) 0 rfl 2 0 rfl rfl dX0_raise_25 (by omega) (by decide) rfl ?_
  refine z_aload_n C dX0_raise_26 rfl 0 rfl ?_
  refine z_getR C wu_X0 0 rfl 0 rfl rfl 12 (by decide) rfl wf_X0_37 dX0_raise_27 ?_
  refine z_getR C wu_X1 0 rfl 12 rfl rfl 1 (by decide) rfl wf_X0_74 dX0_raise_30 ?_
  refine z_iload_n C dX0_raise_33 rfl 1 rfl ?_
  refine z_iconst C (v := nI (0)) (by decide) dX0_raise_34 ?_
  refine z_iast C (B' := [(shF a cI cZ, (zU (zU (zU (zU σ 7 (b) (nI (1))) 5 (b) (nI (0))) 2 (b) (σ 1 (b))) 9 (b) (nI (0))))]) 0 rfl 9 0 rfl rfl dX0_raise_35 (by omega) (by decide) rfl ?_
  rw [hQ]; exact z_vret C hr dX0_raise_36 ⟨rfl, congrArg (fun x => [(shF a cI cZ, x)]) (by rfl)⟩
set_option maxHeartbeats 4000000 in
set_option maxRecDepth 100000 in
theorem c_X0_commit (l : Launch) (D : va_G) (cI cZ cB cE : ClassId) (a : Nat → Nat) (σ : zF) (n : Nat) (hI : fl_Iv n σ) (b : Nat) (hb : b < n) : zM l D (tyL cI cZ cB cE) yX0_commit cX0_commit 3 none (zR 3 71) [.ref (a 0), .int (nI (b))] [(shF a cI cZ, σ)] 0 0 (fun r u => r = none ∧ u = [(shF a cI cZ, (fl_com n σ b))]) := by
  have hn3 := hI.n3
  have hn7 := hI.n7
  refine z_of (by decide) (Nat.le_of_ble_eq_true rfl) rfl ?_
  intro p e s m args below meth c A C hr hin
  obtain ⟨Q, hQ⟩ : ∃ Q, Q = MQ below (zQ (fun r u => r = none ∧ u = [(shF a cI cZ, (fl_com n σ b))]) D (tyL cI cZ cB cE) A) args s 0 0 A := ⟨_, rfl⟩
  rw [← hQ]
  refine z_aload_n C dX0_commit_0 rfl 0 rfl ?_
  refine z_getR C wu_X0 0 rfl 0 rfl rfl 12 (by decide) rfl wf_X0_37 dX0_commit_1 ?_
  refine z_getR C wu_X1 0 rfl 12 rfl rfl 0 (by decide) rfl wf_X0_128 dX0_commit_4 ?_
  refine z_iload_n C dX0_commit_7 rfl 1 rfl ?_
  refine z_iald C 0 rfl 8 0 rfl rfl dX0_commit_8 (by omega) (by decide) ?_
  refine z_top (y := nI (fl_ln σ b)) (hI.ln (by omega)) ?_
  have hb_1 := hI.lnT (i := b) (by omega)
  refine z_istore_n C (L' := [(2, .int (nI (fl_ln σ b))), (0, .ref (a 0)), (1, .int (nI (b)))]) dX0_commit_9 rfl (by decide) rfl ?_
  have loop_10 : ∀ (k : Nat), (hk : k ≤ 10) → (hres : fl_comL n σ b k = fl_com n σ b) → zK p l e (zR 3 71) s m args below meth c D A 3 Q 0 0 10 [(2, .int (nI (k))), (1, .int (nI (b))), (0, .ref (a 0))] [] [(shF a cI cZ, σ)] := by
    intro k
    induction k with
    | zero =>
      intro  hk hres
      refine z_iload_n C dX0_commit_10 rfl 0 rfl ?_
      refine z_aload_n C dX0_commit_11 rfl 2 rfl ?_
      refine z_getR C wu_X0 0 rfl 0 rfl rfl 12 (by decide) rfl wf_X0_37 dX0_commit_12 ?_
      refine z_getR C wu_X1 0 rfl 12 rfl rfl 1 (by decide) rfl wf_X0_74 dX0_commit_15 ?_
      refine z_iload_n C dX0_commit_18 rfl 1 rfl ?_
      refine z_iald C 0 rfl 9 0 rfl rfl dX0_commit_19 (by omega) (by decide) ?_
      refine z_top (y := nI (fl_kn σ b)) (hI.kn (by omega)) ?_
      have hb_2 := hI.knT (i := b) (by omega)
      refine z_icmp_leN C (tgt := 73) dX0_commit_20 (by decide) (by omega) (by omega) (fun c_20 => ?_) (fun c_20 => ?_)
      · rw [hQ]; exact z_vret C hr dX0_commit_73 ⟨rfl, congrArg (fun x => [(shF a cI cZ, x)]) (by refine Eq.trans ?_ hres; first | exact (fl_com_0 _ _ _ _ (by omega)).symm | (rw [fl_comL, if_pos c_20]; exact (if_pos ⟨c_40, of_decide_eq_true c_53⟩).symm))⟩
      · exact absurd c_20 (by omega)
    | succ k ih_10 =>
      intro  hk hres
      refine z_iload_n C dX0_commit_10 rfl 0 rfl ?_
      refine z_aload_n C dX0_commit_11 rfl 2 rfl ?_
      refine z_getR C wu_X0 0 rfl 0 rfl rfl 12 (by decide) rfl wf_X0_37 dX0_commit_12 ?_
      refine z_getR C wu_X1 0 rfl 12 rfl rfl 1 (by decide) rfl wf_X0_74 dX0_commit_15 ?_
      refine z_iload_n C dX0_commit_18 rfl 1 rfl ?_
      refine z_iald C 0 rfl 9 0 rfl rfl dX0_commit_19 (by omega) (by decide) ?_
      refine z_top (y := nI (fl_kn σ b)) (hI.kn (by omega)) ?_
      have hb_3 := hI.knT (i := b) (by omega)
      refine z_icmp_leN C (tgt := 73) dX0_commit_20 (by decide) (by omega) (by omega) (fun c_20 => ?_) (fun c_20 => ?_)
      · rw [hQ]; exact z_vret C hr dX0_commit_73 ⟨rfl, congrArg (fun x => [(shF a cI cZ, x)]) (by refine Eq.trans ?_ hres; first | exact (fl_com_0 _ _ _ _ (by omega)).symm | (rw [fl_comL, if_pos c_20]; exact (if_pos ⟨c_40, of_decide_eq_true c_53⟩).symm))⟩
      · refine z_aload_n C dX0_commit_23 rfl 2 rfl ?_
        refine z_getR C wu_X0 0 rfl 0 rfl rfl 12 (by decide) rfl wf_X0_37 dX0_commit_24 ?_
        refine z_iload_n C dX0_commit_27 rfl 1 rfl ?_
        refine z_iload_n C dX0_commit_28 rfl 0 rfl ?_
        refine z_iconst C (v := nI (1)) (by decide) dX0_commit_29 ?_
        refine z_isubN C dX0_commit_30 (by omega) ?_
        refine z_cV C (st' := [.int (σ 10 ((b * 10) + ((k + 1) - 1)))]) (B' := [(shF a cI cZ, σ)]) [true] rfl (c_X1_termAt l D cI cZ cB cE a σ n hI b ((k + 1) - 1) (by omega) (by omega)) wq_yX1_termAt wm_X0_131 ⟨wn_yX1_termAt, wo_yX1_termAt⟩ ⟨rfl, rfl, Nat.le_of_ble_eq_true rfl, Nat.le_of_ble_eq_true rfl⟩ 0 rfl 12 rfl rfl rfl rfl (Nat.le_of_ble_eq_true rfl) dX0_commit_31 ⟨Nat.le_of_ble_eq_true rfl, Nat.le_of_ble_eq_true rfl⟩ rfl rfl ?_
        refine z_aload_n C dX0_commit_34 rfl 2 rfl ?_
        refine z_getR C wu_X0 0 rfl 0 rfl rfl 7 (by decide) rfl wf_X0_18 dX0_commit_35 ?_
        refine z_iload_n C dX0_commit_38 rfl 1 rfl ?_
        refine z_iald C 0 rfl 3 0 rfl rfl dX0_commit_39 (by omega) (by decide) ?_
        refine z_icmp_ne C (tgt := 67) dX0_commit_40 (by decide) (fun c_40 => ?_) (fun c_40 => ?_)
        · refine z_iinc C (L' := [(2, .int (nI (k + 1 - 1))), (1, .int (nI (b))), (0, .ref (a 0))]) dX0_commit_67 0 rfl (z_dec1 (by omega)) (by decide) rfl ?_
          refine z_goto C (tgt := 10) dX0_commit_70 (by decide) ?_
          refine z_sub (L' := [(2, .int (nI (k + 1 - 1))), (1, .int (nI (b))), (0, .ref (a 0))]) [0, 1, 2] rfl ?_
          exact ih_10  (by omega) (Eq.trans (by rw [fl_comL, if_pos c_20]; simp at c_40; simp [c_40]) hres)
        · refine z_aload_n C dX0_commit_43 rfl 2 rfl ?_
          refine z_aload_n C dX0_commit_44 rfl 2 rfl ?_
          refine z_iload_n C dX0_commit_45 rfl 1 rfl ?_
          refine z_iload_n C dX0_commit_46 rfl 0 rfl ?_
          have hf_4 : fl_cnt n σ b (k + 1) ≤ n  :=  fl_ct_le _ n
          refine z_cV C (st' := [.int (nI (fl_cnt n σ b (k + 1))), .ref (a 0)]) (B' := [(shF a cI cZ, σ)]) [true] rfl (c_X0_hearersThatAgree l D cI cZ cB cE a σ n hI b (k + 1) (by omega) (by omega)) wq_yX0_hearersThatAgree wm_X0_134 ⟨wn_yX0_hearersThatAgree, wo_yX0_hearersThatAgree⟩ ⟨rfl, rfl, Nat.le_of_ble_eq_true rfl, Nat.le_of_ble_eq_true rfl⟩ 0 rfl 0 rfl rfl rfl rfl (Nat.le_of_ble_eq_true rfl) dX0_commit_47 ⟨Nat.le_of_ble_eq_true rfl, Nat.le_of_ble_eq_true rfl⟩ rfl rfl ?_
          refine z_cV C (st' := [.int (zb (decide (n / 2 < (fl_cnt n σ b (k + 1)))))]) (B' := [(shF a cI cZ, σ)]) [true] rfl (c_X0_isMoreThanHalf l D cI cZ cB cE a σ n hI (fl_cnt n σ b (k + 1)) (by omega)) wq_yX0_isMoreThanHalf wm_X0_106 ⟨wn_yX0_isMoreThanHalf, wo_yX0_isMoreThanHalf⟩ ⟨rfl, rfl, Nat.le_of_ble_eq_true rfl, Nat.le_of_ble_eq_true rfl⟩ 0 rfl 0 rfl rfl rfl rfl (Nat.le_of_ble_eq_true rfl) dX0_commit_50 ⟨Nat.le_of_ble_eq_true rfl, Nat.le_of_ble_eq_true rfl⟩ rfl rfl ?_
          refine z_if_eqB C (tgt := 67) dX0_commit_53 (by decide) (fun c_53 => ?_) (fun c_53 => ?_)
          · refine z_iinc C (L' := [(2, .int (nI (k + 1 - 1))), (1, .int (nI (b))), (0, .ref (a 0))]) dX0_commit_67 0 rfl (z_dec1 (by omega)) (by decide) rfl ?_
            refine z_goto C (tgt := 10) dX0_commit_70 (by decide) ?_
            refine z_sub (L' := [(2, .int (nI (k + 1 - 1))), (1, .int (nI (b))), (0, .ref (a 0))]) [0, 1, 2] rfl ?_
            exact ih_10  (by omega) (Eq.trans (by rw [fl_comL, if_pos c_20, if_neg (fun q => absurd q.2 (of_decide_eq_false c_53))]) hres)
          · refine z_aload_n C dX0_commit_56 rfl 2 rfl ?_
            refine z_getR C wu_X0 0 rfl 0 rfl rfl 12 (by decide) rfl wf_X0_37 dX0_commit_57 ?_
            refine z_getR C wu_X1 0 rfl 12 rfl rfl 1 (by decide) rfl wf_X0_74 dX0_commit_60 ?_
            refine z_iload_n C dX0_commit_63 rfl 1 rfl ?_
            refine z_iload_n C dX0_commit_64 rfl 0 rfl ?_
            refine z_iast C (B' := [(shF a cI cZ, (zU σ 9 (b) (nI (k + 1))))]) 0 rfl 9 0 rfl rfl dX0_commit_65 (by omega) (by decide) rfl ?_
            rw [hQ]; exact z_vret C hr dX0_commit_66 ⟨rfl, congrArg (fun x => [(shF a cI cZ, x)]) (by refine Eq.trans ?_ hres; first | exact (fl_com_0 _ _ _ _ (by omega)).symm | (rw [fl_comL, if_pos c_20]; exact (if_pos ⟨c_40, of_decide_eq_true c_53⟩).symm))⟩
  refine z_sub (L' := [(2, .int (nI (fl_ln σ b))), (1, .int (nI (b))), (0, .ref (a 0))]) [0, 2, 1] rfl ?_
  exact loop_10 _  (hI.lnT hb) rfl
set_option maxHeartbeats 4000000 in
set_option maxRecDepth 100000 in
theorem c_X0_runClocks (l : Launch) (D : va_G) (cI cZ cB cE : ClassId) (a : Nat → Nat) (σ : zF) (n : Nat) (hI : fl_Iv n σ) : zM l D (tyL cI cZ cB cE) yX0_runClocks cX0_runClocks 2 none (zR 4 91) [.ref (a 0)] [(shF a cI cZ, σ)] 0 0 (fun r u => r = none ∧ u = [(shF a cI cZ, (fl_fold (fl_clk1 n) n σ))]) := by
  have hn3 := hI.n3
  have hn7 := hI.n7
  refine z_of (by decide) (Nat.le_of_ble_eq_true rfl) rfl ?_
  intro p e s m args below meth c A C hr hin
  obtain ⟨Q, hQ⟩ : ∃ Q, Q = MQ below (zQ (fun r u => r = none ∧ u = [(shF a cI cZ, (fl_fold (fl_clk1 n) n σ))]) D (tyL cI cZ cB cE) A) args s 0 0 A := ⟨_, rfl⟩
  rw [← hQ]
  refine z_iconst C (v := nI (0)) (by decide) dX0_runClocks_0 ?_
  refine z_istore_n C (L' := [(1, .int (nI (0))), (0, .ref (a 0))]) dX0_runClocks_1 rfl (by decide) rfl ?_
  have loop_2 : ∀ (k_2 o : Nat) (τ : zF), n < o + k_2 → o ≤ n → (hres : τ = fl_fold (fl_clk1 n) o σ) → (hτ : fl_Iv n τ) → zK p l e (zR 4 91) s m args below meth c D A 2 Q 0 0 2 [(1, .int (nI (o))), (0, .ref (a 0))] [] [(shF a cI cZ, τ)] := by
    intro k_2
    induction k_2 with
    | zero => intro o τ m1_2 m2_2; exact absurd m1_2 (by omega)
    | succ k_2 ih_2 =>
      intro o τ m1_2 m2_2 hres hτ
      refine z_iload_n C dX0_runClocks_2 rfl 0 rfl ?_
      refine z_aload_n C dX0_runClocks_3 rfl 1 rfl ?_
      refine z_getI C wu_X0 0 rfl 0 rfl rfl 0 (by decide) rfl wf_X0_50 dX0_runClocks_4 ?_
      refine z_top (hτ.n0 : _ = nI n) ?_
      refine z_icmp_geN C (tgt := 59) dX0_runClocks_7 (by decide) (by omega) (by omega) (fun c_7 => ?_) (fun c_7 => ?_)
      · rw [hQ]; exact z_vret C hr dX0_runClocks_59 ⟨rfl, congrArg (fun x => [(shF a cI cZ, x)]) (by rw [hres, show o = n by omega])⟩
      · refine z_aload_n C dX0_runClocks_10 rfl 1 rfl ?_
        refine z_getR C wu_X0 0 rfl 0 rfl rfl 11 (by decide) rfl wf_X0_30 dX0_runClocks_11 ?_
        refine z_iload_n C dX0_runClocks_14 rfl 0 rfl ?_
        refine z_zald C 0 rfl 7 1 rfl rfl dX0_runClocks_15 (by omega) (by decide) ?_
        refine z_if_eq C (tgt := 53) dX0_runClocks_16 (by decide) (fun c_16 => ?_) (fun c_16 => ?_)
        · refine z_iinc C (L' := [(1, .int (nI (o + 1))), (0, .ref (a 0))]) dX0_runClocks_53 0 rfl (z_inc1 _) (by decide) rfl ?_
          refine z_goto C (tgt := 2) dX0_runClocks_56 (by decide) ?_
          refine z_sub (L' := [(1, .int (nI (o + 1))), (0, .ref (a 0))]) [0, 1] rfl ?_
          exact ih_2 (o + 1) _ (by omega) (by omega) (by rw [fl_fold, ← hres, fl_clk1]; simp [c_16]) hτ
        · refine z_aload_n C dX0_runClocks_19 rfl 1 rfl ?_
          refine z_getR C wu_X0 0 rfl 0 rfl rfl 9 (by decide) rfl wf_X0_24 dX0_runClocks_20 ?_
          refine z_iload_n C dX0_runClocks_23 rfl 0 rfl ?_
          refine z_iald C 0 rfl 5 0 rfl rfl dX0_runClocks_24 (by omega) (by decide) ?_
          refine z_iconst C (v := nI (2)) (by decide) dX0_runClocks_25 ?_
          refine z_icmp_eq C (tgt := 53) dX0_runClocks_26 (by decide) (fun c_26 => ?_) (fun c_26 => ?_)
          · refine z_iinc C (L' := [(1, .int (nI (o + 1))), (0, .ref (a 0))]) dX0_runClocks_53 0 rfl (z_inc1 _) (by decide) rfl ?_
            refine z_goto C (tgt := 2) dX0_runClocks_56 (by decide) ?_
            refine z_sub (L' := [(1, .int (nI (o + 1))), (0, .ref (a 0))]) [0, 1] rfl ?_
            exact ih_2 (o + 1) _ (by omega) (by omega) (by rw [fl_fold, ← hres, fl_clk1]; simp [c_16, c_26]) hτ
          · refine z_aload_n C dX0_runClocks_29 rfl 1 rfl ?_
            refine z_getR C wu_X0 0 rfl 0 rfl rfl 6 (by decide) rfl wf_X0_15 dX0_runClocks_30 ?_
            refine z_iload_n C dX0_runClocks_33 rfl 0 rfl ?_
            refine z_dup2 C rfl rfl dX0_runClocks_34 ?_
            refine z_iald C 0 rfl 2 0 rfl rfl dX0_runClocks_35 (by omega) (by decide) ?_
            refine z_iconst C (v := nI (1)) (by decide) dX0_runClocks_36 ?_
            refine z_isub C dX0_runClocks_37 ?_
            refine z_iast C (B' := [(shF a cI cZ, (zU τ 2 (o) (τ 2 (o) - nI (1))))]) 0 rfl 2 0 rfl rfl dX0_runClocks_38 (by omega) (by decide) rfl ?_
            refine z_aload_n C dX0_runClocks_39 rfl 1 rfl ?_
            refine z_getR C wu_X0 0 rfl 0 rfl rfl 6 (by decide) rfl wf_X0_15 dX0_runClocks_40 ?_
            refine z_iload_n C dX0_runClocks_43 rfl 0 rfl ?_
            refine z_iald C 0 rfl 2 0 rfl rfl dX0_runClocks_44 (by omega) (by decide) ?_
            refine z_top (y := τ 2 (o) - nI (1)) (zU_self _ _ _ _) ?_
            refine z_if_ne C (tgt := 53) dX0_runClocks_45 (by decide) (fun c_45 => ?_) (fun c_45 => ?_)
            · refine z_iinc C (L' := [(1, .int (nI (o + 1))), (0, .ref (a 0))]) dX0_runClocks_53 0 rfl (z_inc1 _) (by decide) rfl ?_
              refine z_goto C (tgt := 2) dX0_runClocks_56 (by decide) ?_
              refine z_sub (L' := [(1, .int (nI (o + 1))), (0, .ref (a 0))]) [0, 1] rfl ?_
              exact ih_2 (o + 1) _ (by omega) (by omega) (by rw [fl_fold, ← hres, fl_clk1]; simp [c_16, c_26, c_45]) (hτ.U 2 (o) (τ 2 (o) - nI (1)) (by decide) (by decide) (by decide) (by decide))
            · refine z_aload_n C dX0_runClocks_48 rfl 1 rfl ?_
              refine z_iload_n C dX0_runClocks_49 rfl 0 rfl ?_
              have hi_1 : fl_Iv n (zU τ 2 (o) (τ 2 (o) - nI (1))) := (hτ.U 2 (o) (τ 2 (o) - nI (1)) (by decide) (by decide) (by decide) (by decide))
              have hi_2 : fl_Iv n (fl_stand n ((zU τ 2 (o) (τ 2 (o) - nI (1)))) o) := fl_stand_Iv hi_1 _
              refine z_cV C (st' := []) (B' := [(shF a cI cZ, (fl_stand n ((zU τ 2 (o) (τ 2 (o) - nI (1)))) o))]) [true] rfl (c_X0_stand l D cI cZ cB cE a ((zU τ 2 (o) (τ 2 (o) - nI (1)))) n hi_1 o (by omega)) wq_yX0_stand wm_X0_86 ⟨wn_yX0_stand, wo_yX0_stand⟩ ⟨rfl, rfl, Nat.le_of_ble_eq_true rfl, Nat.le_of_ble_eq_true rfl⟩ 0 rfl 0 rfl rfl rfl rfl (Nat.le_of_ble_eq_true rfl) dX0_runClocks_50 ⟨Nat.le_of_ble_eq_true rfl, Nat.le_of_ble_eq_true rfl⟩ rfl rfl ?_
              refine z_iinc C (L' := [(1, .int (nI (o + 1))), (0, .ref (a 0))]) dX0_runClocks_53 0 rfl (z_inc1 _) (by decide) rfl ?_
              refine z_goto C (tgt := 2) dX0_runClocks_56 (by decide) ?_
              refine z_sub (L' := [(1, .int (nI (o + 1))), (0, .ref (a 0))]) [0, 1] rfl ?_
              exact ih_2 (o + 1) _ (by omega) (by omega) (by rw [fl_fold, ← hres, fl_clk1]; simp [c_16, c_26, c_45]) hi_2
  refine z_sub (L' := [(1, .int (nI (0))), (0, .ref (a 0))]) [0, 1] rfl ?_
  exact loop_2 (n + 1) 0 _ (by omega) (by omega) rfl hI
set_option maxHeartbeats 4000000 in
set_option maxRecDepth 100000 in
theorem c_X0_tellAll (l : Launch) (D : va_G) (cI cZ cB cE : ClassId) (a : Nat → Nat) (σ : zF) (n : Nat) (hI : fl_Iv n σ) : zM l D (tyL cI cZ cB cE) yX0_tellAll cX0_tellAll 2 none (zR 5 114) [.ref (a 0)] [(shF a cI cZ, σ)] 0 0 (fun r u => r = none ∧ u = [(shF a cI cZ, (fl_fold (fl_tls1 n) n σ))]) := by
  have hn3 := hI.n3
  have hn7 := hI.n7
  refine z_of (by decide) (Nat.le_of_ble_eq_true rfl) rfl ?_
  intro p e s m args below meth c A C hr hin
  obtain ⟨Q, hQ⟩ : ∃ Q, Q = MQ below (zQ (fun r u => r = none ∧ u = [(shF a cI cZ, (fl_fold (fl_tls1 n) n σ))]) D (tyL cI cZ cB cE) A) args s 0 0 A := ⟨_, rfl⟩
  rw [← hQ]
  refine z_iconst C (v := nI (0)) (by decide) dX0_tellAll_0 ?_
  refine z_istore_n C (L' := [(1, .int (nI (0))), (0, .ref (a 0))]) dX0_tellAll_1 rfl (by decide) rfl ?_
  have loop_2 : ∀ (k_2 o : Nat) (τ : zF), n < o + k_2 → o ≤ n → (hres : τ = fl_fold (fl_tls1 n) o σ) → (hτ : fl_Iv n τ) → zK p l e (zR 5 114) s m args below meth c D A 2 Q 0 0 2 [(1, .int (nI (o))), (0, .ref (a 0))] [] [(shF a cI cZ, τ)] := by
    intro k_2
    induction k_2 with
    | zero => intro o τ m1_2 m2_2; exact absurd m1_2 (by omega)
    | succ k_2 ih_2 =>
      intro o τ m1_2 m2_2 hres hτ
      refine z_iload_n C dX0_tellAll_2 rfl 0 rfl ?_
      refine z_aload_n C dX0_tellAll_3 rfl 1 rfl ?_
      refine z_getI C wu_X0 0 rfl 0 rfl rfl 0 (by decide) rfl wf_X0_50 dX0_tellAll_4 ?_
      refine z_top (hτ.n0 : _ = nI n) ?_
      refine z_icmp_geN C (tgt := 29) dX0_tellAll_7 (by decide) (by omega) (by omega) (fun c_7 => ?_) (fun c_7 => ?_)
      · rw [hQ]; exact z_vret C hr dX0_tellAll_29 ⟨rfl, congrArg (fun x => [(shF a cI cZ, x)]) (by rw [hres, show o = n by omega])⟩
      · refine z_aload_n C dX0_tellAll_10 rfl 1 rfl ?_
        refine z_iload_n C dX0_tellAll_11 rfl 0 rfl ?_
        refine z_cV C (st' := [.int (zb (fl_lead τ o))]) (B' := [(shF a cI cZ, τ)]) [true] rfl (c_X0_leadsNow l D cI cZ cB cE a τ n hτ o (by omega)) wq_yX0_leadsNow wm_X0_89 ⟨wn_yX0_leadsNow, wo_yX0_leadsNow⟩ ⟨rfl, rfl, Nat.le_of_ble_eq_true rfl, Nat.le_of_ble_eq_true rfl⟩ 0 rfl 0 rfl rfl rfl rfl (Nat.le_of_ble_eq_true rfl) dX0_tellAll_12 ⟨Nat.le_of_ble_eq_true rfl, Nat.le_of_ble_eq_true rfl⟩ rfl rfl ?_
        refine z_if_eqB C (tgt := 23) dX0_tellAll_15 (by decide) (fun c_15 => ?_) (fun c_15 => ?_)
        · refine z_iinc C (L' := [(1, .int (nI (o + 1))), (0, .ref (a 0))]) dX0_tellAll_23 0 rfl (z_inc1 _) (by decide) rfl ?_
          refine z_goto C (tgt := 2) dX0_tellAll_26 (by decide) ?_
          refine z_sub (L' := [(1, .int (nI (o + 1))), (0, .ref (a 0))]) [0, 1] rfl ?_
          exact ih_2 (o + 1) _ (by omega) (by omega) (by rw [fl_fold, ← hres, fl_tls1]; simp [c_15]) hτ
        · refine z_aload_n C dX0_tellAll_18 rfl 1 rfl ?_
          refine z_iload_n C dX0_tellAll_19 rfl 0 rfl ?_
          have hi_1 : fl_Iv n (fl_tells n o 0 τ) := fl_tells_Iv hτ (by omega)
          refine z_cV C (st' := []) (B' := [(shF a cI cZ, (fl_tells n o 0 τ))]) [true] rfl (c_X0_tellOthers l D cI cZ cB cE a τ n hτ o (by omega)) wq_yX0_tellOthers wm_X0_93 ⟨wn_yX0_tellOthers, wo_yX0_tellOthers⟩ ⟨rfl, rfl, Nat.le_of_ble_eq_true rfl, Nat.le_of_ble_eq_true rfl⟩ 0 rfl 0 rfl rfl rfl rfl (Nat.le_of_ble_eq_true rfl) dX0_tellAll_20 ⟨Nat.le_of_ble_eq_true rfl, Nat.le_of_ble_eq_true rfl⟩ rfl rfl ?_
          refine z_iinc C (L' := [(1, .int (nI (o + 1))), (0, .ref (a 0))]) dX0_tellAll_23 0 rfl (z_inc1 _) (by decide) rfl ?_
          refine z_goto C (tgt := 2) dX0_tellAll_26 (by decide) ?_
          refine z_sub (L' := [(1, .int (nI (o + 1))), (0, .ref (a 0))]) [0, 1] rfl ?_
          exact ih_2 (o + 1) _ (by omega) (by omega) (by rw [fl_fold, ← hres, fl_tls1]; simp [c_15]) hi_1
  refine z_sub (L' := [(1, .int (nI (0))), (0, .ref (a 0))]) [0, 1] rfl ?_
  exact loop_2 (n + 1) 0 _ (by omega) (by omega) rfl hI
set_option maxHeartbeats 4000000 in
set_option maxRecDepth 100000 in
theorem c_X0_commitAll (l : Launch) (D : va_G) (cI cZ cB cE : ClassId) (a : Nat → Nat) (σ : zF) (n : Nat) (hI : fl_Iv n σ) : zM l D (tyL cI cZ cB cE) yX0_commitAll cX0_commitAll 2 none (zR 4 93) [.ref (a 0)] [(shF a cI cZ, σ)] 0 0 (fun r u => r = none ∧ u = [(shF a cI cZ, (fl_fold (fl_coms1 n) n σ))]) := by
  have hn3 := hI.n3
  have hn7 := hI.n7
  refine z_of (by decide) (Nat.le_of_ble_eq_true rfl) rfl ?_
  intro p e s m args below meth c A C hr hin
  obtain ⟨Q, hQ⟩ : ∃ Q, Q = MQ below (zQ (fun r u => r = none ∧ u = [(shF a cI cZ, (fl_fold (fl_coms1 n) n σ))]) D (tyL cI cZ cB cE) A) args s 0 0 A := ⟨_, rfl⟩
  rw [← hQ]
  refine z_iconst C (v := nI (0)) (by decide) dX0_commitAll_0 ?_
  refine z_istore_n C (L' := [(1, .int (nI (0))), (0, .ref (a 0))]) dX0_commitAll_1 rfl (by decide) rfl ?_
  have loop_2 : ∀ (k_2 o : Nat) (τ : zF), n < o + k_2 → o ≤ n → (hres : τ = fl_fold (fl_coms1 n) o σ) → (hτ : fl_Iv n τ) → zK p l e (zR 4 93) s m args below meth c D A 2 Q 0 0 2 [(1, .int (nI (o))), (0, .ref (a 0))] [] [(shF a cI cZ, τ)] := by
    intro k_2
    induction k_2 with
    | zero => intro o τ m1_2 m2_2; exact absurd m1_2 (by omega)
    | succ k_2 ih_2 =>
      intro o τ m1_2 m2_2 hres hτ
      refine z_iload_n C dX0_commitAll_2 rfl 0 rfl ?_
      refine z_aload_n C dX0_commitAll_3 rfl 1 rfl ?_
      refine z_getI C wu_X0 0 rfl 0 rfl rfl 0 (by decide) rfl wf_X0_50 dX0_commitAll_4 ?_
      refine z_top (hτ.n0 : _ = nI n) ?_
      refine z_icmp_geN C (tgt := 29) dX0_commitAll_7 (by decide) (by omega) (by omega) (fun c_7 => ?_) (fun c_7 => ?_)
      · rw [hQ]; exact z_vret C hr dX0_commitAll_29 ⟨rfl, congrArg (fun x => [(shF a cI cZ, x)]) (by rw [hres, show o = n by omega])⟩
      · refine z_aload_n C dX0_commitAll_10 rfl 1 rfl ?_
        refine z_iload_n C dX0_commitAll_11 rfl 0 rfl ?_
        refine z_cV C (st' := [.int (zb (fl_lead τ o))]) (B' := [(shF a cI cZ, τ)]) [true] rfl (c_X0_leadsNow l D cI cZ cB cE a τ n hτ o (by omega)) wq_yX0_leadsNow wm_X0_89 ⟨wn_yX0_leadsNow, wo_yX0_leadsNow⟩ ⟨rfl, rfl, Nat.le_of_ble_eq_true rfl, Nat.le_of_ble_eq_true rfl⟩ 0 rfl 0 rfl rfl rfl rfl (Nat.le_of_ble_eq_true rfl) dX0_commitAll_12 ⟨Nat.le_of_ble_eq_true rfl, Nat.le_of_ble_eq_true rfl⟩ rfl rfl ?_
        refine z_if_eqB C (tgt := 23) dX0_commitAll_15 (by decide) (fun c_15 => ?_) (fun c_15 => ?_)
        · refine z_iinc C (L' := [(1, .int (nI (o + 1))), (0, .ref (a 0))]) dX0_commitAll_23 0 rfl (z_inc1 _) (by decide) rfl ?_
          refine z_goto C (tgt := 2) dX0_commitAll_26 (by decide) ?_
          refine z_sub (L' := [(1, .int (nI (o + 1))), (0, .ref (a 0))]) [0, 1] rfl ?_
          exact ih_2 (o + 1) _ (by omega) (by omega) (by rw [fl_fold, ← hres, fl_coms1]; simp [c_15]) hτ
        · refine z_aload_n C dX0_commitAll_18 rfl 1 rfl ?_
          refine z_iload_n C dX0_commitAll_19 rfl 0 rfl ?_
          have hi_1 : fl_Iv n (fl_com n τ o) := fl_com_Iv hτ (by omega)
          refine z_cV C (st' := []) (B' := [(shF a cI cZ, (fl_com n τ o))]) [true] rfl (c_X0_commit l D cI cZ cB cE a τ n hτ o (by omega)) wq_yX0_commit wm_X0_96 ⟨wn_yX0_commit, wo_yX0_commit⟩ ⟨rfl, rfl, Nat.le_of_ble_eq_true rfl, Nat.le_of_ble_eq_true rfl⟩ 0 rfl 0 rfl rfl rfl rfl (Nat.le_of_ble_eq_true rfl) dX0_commitAll_20 ⟨Nat.le_of_ble_eq_true rfl, Nat.le_of_ble_eq_true rfl⟩ rfl rfl ?_
          refine z_iinc C (L' := [(1, .int (nI (o + 1))), (0, .ref (a 0))]) dX0_commitAll_23 0 rfl (z_inc1 _) (by decide) rfl ?_
          refine z_goto C (tgt := 2) dX0_commitAll_26 (by decide) ?_
          refine z_sub (L' := [(1, .int (nI (o + 1))), (0, .ref (a 0))]) [0, 1] rfl ?_
          exact ih_2 (o + 1) _ (by omega) (by omega) (by rw [fl_fold, ← hres, fl_coms1]; simp [c_15]) hi_1
  refine z_sub (L' := [(1, .int (nI (0))), (0, .ref (a 0))]) [0, 1] rfl ?_
  exact loop_2 (n + 1) 0 _ (by omega) (by omega) rfl hI
set_option maxHeartbeats 4000000 in
set_option maxRecDepth 100000 in
theorem c_X0_passHours (l : Launch) (D : va_G) (cI cZ cB cE : ClassId) (a : Nat → Nat) (σ : zF) (n : Nat) (hI : fl_Iv n σ) (h : Nat) (hh : h < 2 ^ 31) : zM l D (tyL cI cZ cB cE) yX0_passHours cX0_passHours 3 none (zR 6 135) [.ref (a 0), .int (nI (h))] [(shF a cI cZ, σ)] 0 0 (fun r u => r = none ∧ u = [(shF a cI cZ, (fl_hours n h σ))]) := by
  have hn3 := hI.n3
  have hn7 := hI.n7
  refine z_of (by decide) (Nat.le_of_ble_eq_true rfl) rfl ?_
  intro p e s m args below meth c A C hr hin
  obtain ⟨Q, hQ⟩ : ∃ Q, Q = MQ below (zQ (fun r u => r = none ∧ u = [(shF a cI cZ, (fl_hours n h σ))]) D (tyL cI cZ cB cE) A) args s 0 0 A := ⟨_, rfl⟩
  rw [← hQ]
  refine z_iconst C (v := nI (0)) (by decide) dX0_passHours_0 ?_
  refine z_istore_n C (L' := [(2, .int (nI (0))), (0, .ref (a 0)), (1, .int (nI (h)))]) dX0_passHours_1 rfl (by decide) rfl ?_
  have loop_2 : ∀ (k_2 o : Nat) (τ : zF), h < o + k_2 → o ≤ h → (hres : τ = fl_hours n o σ) → (hτ : fl_Iv n τ) → zK p l e (zR 6 135) s m args below meth c D A 3 Q 0 0 2 [(2, .int (nI (o))), (1, .int (nI (h))), (0, .ref (a 0))] [] [(shF a cI cZ, τ)] := by
    intro k_2
    induction k_2 with
    | zero => intro o τ m1_2 m2_2; exact absurd m1_2 (by omega)
    | succ k_2 ih_2 =>
      intro o τ m1_2 m2_2 hres hτ
      refine z_iload_n C dX0_passHours_2 rfl 0 rfl ?_
      refine z_iload_n C dX0_passHours_3 rfl 1 rfl ?_
      refine z_icmp_geN C (tgt := 35) dX0_passHours_4 (by decide) (by omega) (by omega) (fun c_4 => ?_) (fun c_4 => ?_)
      · rw [hQ]; exact z_vret C hr dX0_passHours_35 ⟨rfl, congrArg (fun x => [(shF a cI cZ, x)]) (by rw [hres, show o = h by omega])⟩
      · refine z_aload_n C dX0_passHours_7 rfl 2 rfl ?_
        have hi_1 : fl_Iv n (fl_fold (fl_clk1 n) n τ) := fl_clk_Iv hτ
        refine z_cV C (st' := []) (B' := [(shF a cI cZ, (fl_fold (fl_clk1 n) n τ))]) [true] rfl (c_X0_runClocks l D cI cZ cB cE a τ n hτ  ) wq_yX0_runClocks wm_X0_77 ⟨wn_yX0_runClocks, wo_yX0_runClocks⟩ ⟨rfl, rfl, Nat.le_of_ble_eq_true rfl, Nat.le_of_ble_eq_true rfl⟩ 0 rfl 0 rfl rfl rfl rfl (Nat.le_of_ble_eq_true rfl) dX0_passHours_8 ⟨Nat.le_of_ble_eq_true rfl, Nat.le_of_ble_eq_true rfl⟩ rfl rfl ?_
        refine z_aload_n C dX0_passHours_11 rfl 2 rfl ?_
        have hi_2 : fl_Iv n (fl_fold (fl_tls1 n) n ((fl_fold (fl_clk1 n) n τ))) := fl_tls_Iv hi_1
        refine z_cV C (st' := []) (B' := [(shF a cI cZ, (fl_fold (fl_tls1 n) n ((fl_fold (fl_clk1 n) n τ))))]) [true] rfl (c_X0_tellAll l D cI cZ cB cE a ((fl_fold (fl_clk1 n) n τ)) n hi_1  ) wq_yX0_tellAll wm_X0_80 ⟨wn_yX0_tellAll, wo_yX0_tellAll⟩ ⟨rfl, rfl, Nat.le_of_ble_eq_true rfl, Nat.le_of_ble_eq_true rfl⟩ 0 rfl 0 rfl rfl rfl rfl (Nat.le_of_ble_eq_true rfl) dX0_passHours_12 ⟨Nat.le_of_ble_eq_true rfl, Nat.le_of_ble_eq_true rfl⟩ rfl rfl ?_
        refine z_aload_n C dX0_passHours_15 rfl 2 rfl ?_
        have hi_3 : fl_Iv n (fl_fold (fl_coms1 n) n ((fl_fold (fl_tls1 n) n ((fl_fold (fl_clk1 n) n τ))))) := fl_coms_Iv hi_2
        refine z_cV C (st' := []) (B' := [(shF a cI cZ, (fl_fold (fl_coms1 n) n ((fl_fold (fl_tls1 n) n ((fl_fold (fl_clk1 n) n τ))))))]) [true] rfl (c_X0_commitAll l D cI cZ cB cE a ((fl_fold (fl_tls1 n) n ((fl_fold (fl_clk1 n) n τ)))) n hi_2  ) wq_yX0_commitAll wm_X0_83 ⟨wn_yX0_commitAll, wo_yX0_commitAll⟩ ⟨rfl, rfl, Nat.le_of_ble_eq_true rfl, Nat.le_of_ble_eq_true rfl⟩ 0 rfl 0 rfl rfl rfl rfl (Nat.le_of_ble_eq_true rfl) dX0_passHours_16 ⟨Nat.le_of_ble_eq_true rfl, Nat.le_of_ble_eq_true rfl⟩ rfl rfl ?_
        refine z_aload_n C dX0_passHours_19 rfl 2 rfl ?_
        refine z_dup C rfl dX0_passHours_20 ?_
        refine z_getI C wu_X0 0 rfl 0 rfl rfl 1 (by decide) rfl wf_X0_54 dX0_passHours_21 ?_
        refine z_iconst C (v := nI (1)) (by decide) dX0_passHours_24 ?_
        refine z_iadd C dX0_passHours_25 ?_
        refine z_putI C (B' := [(shF a cI cZ, (zU (fl_fold (fl_coms1 n) n ((fl_fold (fl_tls1 n) n ((fl_fold (fl_clk1 n) n τ))))) 0 (1) ((fl_fold (fl_coms1 n) n ((fl_fold (fl_tls1 n) n ((fl_fold (fl_clk1 n) n τ))))) 0 (1) + nI (1))))]) wu_X0 tyX0_ok nmX0 0 rfl 0 rfl rfl 1 (by decide) rfl wf_X0_54 rfl (by decide +kernel) dX0_passHours_26 rfl ?_
        refine z_iinc C (L' := [(2, .int (nI (o + 1))), (1, .int (nI (h))), (0, .ref (a 0))]) dX0_passHours_29 0 rfl (z_inc1 _) (by decide) rfl ?_
        refine z_goto C (tgt := 2) dX0_passHours_32 (by decide) ?_
        refine z_sub (L' := [(2, .int (nI (o + 1))), (1, .int (nI (h))), (0, .ref (a 0))]) [0, 1, 2] rfl ?_
        exact ih_2 (o + 1) _ (by omega) (by omega) (by rw [fl_hours, ← hres]; rfl) (fl_hour_Iv hτ)
  refine z_sub (L' := [(2, .int (nI (0))), (1, .int (nI (h))), (0, .ref (a 0))]) [0, 2, 1] rfl ?_
  exact loop_2 (h + 1) 0 _ (by omega) (by omega) rfl hI
set_option maxHeartbeats 4000000 in
set_option maxRecDepth 100000 in
theorem c_X0_isLed (l : Launch) (D : va_G) (cI cZ cB cE : ClassId) (a : Nat → Nat) (σ : zF) (n : Nat) (hI : fl_Iv n σ) : zM l D (tyL cI cZ cB cE) yX0_isLed cX0_isLed 2 (some .boolean) (zR 1 23) [.ref (a 0)] [(shF a cI cZ, σ)] 0 0 (fun r u => r = some (.int (zb (fl_led n σ))) ∧ u = [(shF a cI cZ, σ)]) := by
  have hn3 := hI.n3
  have hn7 := hI.n7
  refine z_of (by decide) (Nat.le_of_ble_eq_true rfl) rfl ?_
  intro p e s m args below meth c A C hr hin
  obtain ⟨Q, hQ⟩ : ∃ Q, Q = MQ below (zQ (fun r u => r = some (.int (zb (fl_led n σ))) ∧ u = [(shF a cI cZ, σ)]) D (tyL cI cZ cB cE) A) args s 0 0 A := ⟨_, rfl⟩
  rw [← hQ]
  refine z_iconst C (v := nI (0)) (by decide) dX0_isLed_0 ?_
  refine z_istore_n C (L' := [(1, .int (nI (0))), (0, .ref (a 0))]) dX0_isLed_1 rfl (by decide) rfl ?_
  have loop_2 : ∀ (k_2 o : Nat), n < o + k_2 → o ≤ n → (hv : fl_any (fl_led1 n σ) o = false) → zK p l e (zR 1 23) s m args below meth c D A 2 Q 0 0 2 [(1, .int (nI (o))), (0, .ref (a 0))] [] [(shF a cI cZ, σ)] := by
    intro k_2
    induction k_2 with
    | zero => intro o  m1_2 m2_2; exact absurd m1_2 (by omega)
    | succ k_2 ih_2 =>
      intro o  m1_2 m2_2 hv
      refine z_iload_n C dX0_isLed_2 rfl 0 rfl ?_
      refine z_aload_n C dX0_isLed_3 rfl 1 rfl ?_
      refine z_getI C wu_X0 0 rfl 0 rfl rfl 0 (by decide) rfl wf_X0_50 dX0_isLed_4 ?_
      refine z_top (hI.n0 : _ = nI n) ?_
      refine z_icmp_geN C (tgt := 43) dX0_isLed_7 (by decide) (by omega) (by omega) (fun c_7 => ?_) (fun c_7 => ?_)
      · refine z_iconst C (v := nI (0)) (by decide) dX0_isLed_43 ?_
        rw [hQ]; exact z_zret C hr (by decide) dX0_isLed_44 ⟨z_b0 (by first | (exact fl_any_of (i := o) (by simp only [fl_led1, c_15, c_32]; rfl) n (by omega)) | (rw [show n = o by omega] at hv ⊢; exact hv) | (rw [fl_led, show n = o by omega]; rw [show n = o by omega] at hv; exact hv)), rfl⟩
      · refine z_aload_n C dX0_isLed_10 rfl 1 rfl ?_
        refine z_iload_n C dX0_isLed_11 rfl 0 rfl ?_
        refine z_cV C (st' := [.int (zb (fl_lead σ o))]) (B' := [(shF a cI cZ, σ)]) [true] rfl (c_X0_leadsNow l D cI cZ cB cE a σ n hI o (by omega)) wq_yX0_leadsNow wm_X0_89 ⟨wn_yX0_leadsNow, wo_yX0_leadsNow⟩ ⟨rfl, rfl, Nat.le_of_ble_eq_true rfl, Nat.le_of_ble_eq_true rfl⟩ 0 rfl 0 rfl rfl rfl rfl (Nat.le_of_ble_eq_true rfl) dX0_isLed_12 ⟨Nat.le_of_ble_eq_true rfl, Nat.le_of_ble_eq_true rfl⟩ rfl rfl ?_
        refine z_if_eqB C (tgt := 37) dX0_isLed_15 (by decide) (fun c_15 => ?_) (fun c_15 => ?_)
        · refine z_iinc C (L' := [(1, .int (nI (o + 1))), (0, .ref (a 0))]) dX0_isLed_37 0 rfl (z_inc1 _) (by decide) rfl ?_
          refine z_goto C (tgt := 2) dX0_isLed_40 (by decide) ?_
          refine z_sub (L' := [(1, .int (nI (o + 1))), (0, .ref (a 0))]) [0, 1] rfl ?_
          exact ih_2 (o + 1)  (by omega) (by omega) (fl_any_no hv (by simp [fl_led1, c_15]))
        · refine z_aload_n C dX0_isLed_18 rfl 1 rfl ?_
          refine z_aload_n C dX0_isLed_19 rfl 1 rfl ?_
          refine z_aload_n C dX0_isLed_20 rfl 1 rfl ?_
          refine z_getR C wu_X0 0 rfl 0 rfl rfl 10 (by decide) rfl wf_X0_27 dX0_isLed_21 ?_
          refine z_iload_n C dX0_isLed_24 rfl 0 rfl ?_
          refine z_iald C 0 rfl 6 0 rfl rfl dX0_isLed_25 (by omega) (by decide) ?_
          have hf_1 : fl_upIn n σ (σ 6 (o)) ≤ n  :=  fl_ct_le _ n
          refine z_cV C (st' := [.int (nI (fl_upIn n σ (σ 6 (o)))), .ref (a 0)]) (B' := [(shF a cI cZ, σ)]) [true] rfl (c_X0_upIn l D cI cZ cB cE a σ n hI (σ 6 (o)) ) wq_yX0_upIn wm_X0_140 ⟨wn_yX0_upIn, wo_yX0_upIn⟩ ⟨rfl, rfl, Nat.le_of_ble_eq_true rfl, Nat.le_of_ble_eq_true rfl⟩ 0 rfl 0 rfl rfl rfl rfl (Nat.le_of_ble_eq_true rfl) dX0_isLed_26 ⟨Nat.le_of_ble_eq_true rfl, Nat.le_of_ble_eq_true rfl⟩ rfl rfl ?_
          refine z_cV C (st' := [.int (zb (decide (n / 2 < (fl_upIn n σ (σ 6 (o))))))]) (B' := [(shF a cI cZ, σ)]) [true] rfl (c_X0_isMoreThanHalf l D cI cZ cB cE a σ n hI (fl_upIn n σ (σ 6 (o))) (by omega)) wq_yX0_isMoreThanHalf wm_X0_106 ⟨wn_yX0_isMoreThanHalf, wo_yX0_isMoreThanHalf⟩ ⟨rfl, rfl, Nat.le_of_ble_eq_true rfl, Nat.le_of_ble_eq_true rfl⟩ 0 rfl 0 rfl rfl rfl rfl (Nat.le_of_ble_eq_true rfl) dX0_isLed_29 ⟨Nat.le_of_ble_eq_true rfl, Nat.le_of_ble_eq_true rfl⟩ rfl rfl ?_
          refine z_if_eqB C (tgt := 37) dX0_isLed_32 (by decide) (fun c_32 => ?_) (fun c_32 => ?_)
          · refine z_iinc C (L' := [(1, .int (nI (o + 1))), (0, .ref (a 0))]) dX0_isLed_37 0 rfl (z_inc1 _) (by decide) rfl ?_
            refine z_goto C (tgt := 2) dX0_isLed_40 (by decide) ?_
            refine z_sub (L' := [(1, .int (nI (o + 1))), (0, .ref (a 0))]) [0, 1] rfl ?_
            exact ih_2 (o + 1)  (by omega) (by omega) (fl_any_no hv (by simp [fl_led1, c_15, c_32]))
          · refine z_iconst C (v := nI (1)) (by decide) dX0_isLed_35 ?_
            rw [hQ]; exact z_zret C hr (by decide) dX0_isLed_36 ⟨z_b1 (by first | (exact fl_any_of (i := o) (by simp only [fl_led1, c_15, c_32]; rfl) n (by omega)) | (rw [show n = o by omega] at hv ⊢; exact hv) | (rw [fl_led, show n = o by omega]; rw [show n = o by omega] at hv; exact hv)), rfl⟩
  refine z_sub (L' := [(1, .int (nI (0))), (0, .ref (a 0))]) [0, 1] rfl ?_
  exact loop_2 (n + 1) 0  (by omega) (by omega) rfl
set_option maxHeartbeats 4000000 in
set_option maxRecDepth 100000 in
theorem c_X0_newestIn (l : Launch) (D : va_G) (cI cZ cB cE : ClassId) (a : Nat → Nat) (σ : zF) (n : Nat) (hI : fl_Iv n σ) (h : Int32) : zM l D (tyL cI cZ cB cE) yX0_newestIn cX0_newestIn 4 (some .int) (zR 2 45) [.ref (a 0), .int (h)] [(shF a cI cZ, σ)] 0 0 (fun r u => r = some (.int (fl_oI (fl_nwst σ h n))) ∧ u = [(shF a cI cZ, σ)]) := by
  have hn3 := hI.n3
  have hn7 := hI.n7
  refine z_of (by decide) (Nat.le_of_ble_eq_true rfl) rfl ?_
  intro p e s m args below meth c A C hr hin
  obtain ⟨Q, hQ⟩ : ∃ Q, Q = MQ below (zQ (fun r u => r = some (.int (fl_oI (fl_nwst σ h n))) ∧ u = [(shF a cI cZ, σ)]) D (tyL cI cZ cB cE) A) args s 0 0 A := ⟨_, rfl⟩
  rw [← hQ]
  refine z_iconst C (v := -1) (by decide) dX0_newestIn_0 ?_
  refine z_istore_n C (L' := [(2, .int (-1)), (0, .ref (a 0)), (1, .int (h))]) dX0_newestIn_1 rfl (by decide) rfl ?_
  refine z_iconst C (v := nI (0)) (by decide) dX0_newestIn_2 ?_
  refine z_istore_n C (L' := [(3, .int (nI (0))), (2, .int (-1)), (0, .ref (a 0)), (1, .int (h))]) dX0_newestIn_3 rfl (by decide) rfl ?_
  have loop_4 : ∀ (k_4 o : Nat) (r : Option Nat), n < o + k_4 → o ≤ n → (hbs : r = fl_nwst σ h o) → zK p l e (zR 2 45) s m args below meth c D A 4 Q 0 0 4 [(3, .int (nI (o))), (2, .int (fl_oI r)), (1, .int (h)), (0, .ref (a 0))] [] [(shF a cI cZ, σ)] := by
    intro k_4
    induction k_4 with
    | zero => intro o r m1_4 m2_4; exact absurd m1_4 (by omega)
    | succ k_4 ih_4 =>
      intro o r m1_4 m2_4 hbs
      refine z_iload_n C dX0_newestIn_4 rfl 0 rfl ?_
      refine z_aload_n C dX0_newestIn_5 rfl 3 rfl ?_
      refine z_getI C wu_X0 0 rfl 0 rfl rfl 0 (by decide) rfl wf_X0_50 dX0_newestIn_6 ?_
      refine z_top (hI.n0 : _ = nI n) ?_
      refine z_icmp_geN C (tgt := 56) dX0_newestIn_9 (by decide) (by omega) (by omega) (fun c_9 => ?_) (fun c_9 => ?_)
      · refine z_iload_n C dX0_newestIn_56 rfl 1 rfl ?_
        rw [hQ]; exact z_iret C hr dX0_newestIn_57 ⟨congrArg (fun x => some (Value.int x)) (by rw [hbs, show o = n by omega]), rfl⟩
      · refine z_aload_n C dX0_newestIn_12 rfl 3 rfl ?_
        refine z_getR C wu_X0 0 rfl 0 rfl rfl 11 (by decide) rfl wf_X0_30 dX0_newestIn_13 ?_
        refine z_iload_n C dX0_newestIn_16 rfl 0 rfl ?_
        refine z_zald C 0 rfl 7 1 rfl rfl dX0_newestIn_17 (by omega) (by decide) ?_
        refine z_if_eq C (tgt := 50) dX0_newestIn_18 (by decide) (fun c_18 => ?_) (fun c_18 => ?_)
        · refine z_iinc C (L' := [(3, .int (nI (o + 1))), (2, .int (fl_oI r)), (1, .int (h)), (0, .ref (a 0))]) dX0_newestIn_50 0 rfl (z_inc1 _) (by decide) rfl ?_
          refine z_goto C (tgt := 4) dX0_newestIn_53 (by decide) ?_
          refine z_sub (L' := [(3, .int (nI (o + 1))), (2, .int (fl_oI r)), (1, .int (h)), (0, .ref (a 0))]) [0, 1, 2, 3] rfl ?_
          exact ih_4 (o + 1) r (by omega) (by omega) (by rw [fl_nwst, ← hbs]; simp [c_18])
        · refine z_aload_n C dX0_newestIn_21 rfl 3 rfl ?_
          refine z_getR C wu_X0 0 rfl 0 rfl rfl 10 (by decide) rfl wf_X0_27 dX0_newestIn_22 ?_
          refine z_iload_n C dX0_newestIn_25 rfl 0 rfl ?_
          refine z_iald C 0 rfl 6 0 rfl rfl dX0_newestIn_26 (by omega) (by decide) ?_
          refine z_iload_n C dX0_newestIn_27 rfl 2 rfl ?_
          refine z_icmp_ne C (tgt := 50) dX0_newestIn_28 (by decide) (fun c_28 => ?_) (fun c_28 => ?_)
          · refine z_iinc C (L' := [(3, .int (nI (o + 1))), (2, .int (fl_oI r)), (1, .int (h)), (0, .ref (a 0))]) dX0_newestIn_50 0 rfl (z_inc1 _) (by decide) rfl ?_
            refine z_goto C (tgt := 4) dX0_newestIn_53 (by decide) ?_
            refine z_sub (L' := [(3, .int (nI (o + 1))), (2, .int (fl_oI r)), (1, .int (h)), (0, .ref (a 0))]) [0, 1, 2, 3] rfl ?_
            exact ih_4 (o + 1) r (by omega) (by omega) (by rw [fl_nwst, ← hbs]; simp [c_18, c_28])
          · rcases r with _ | j
            · refine z_sub (L' := [(3, .int (nI (o))), (2, .int (-1)), (1, .int (h)), (0, .ref (a 0))]) [0, 1, 2, 3] rfl ?_
              refine z_iload_n C dX0_newestIn_31 rfl 1 rfl ?_
              refine z_iconst C (v := -1) (by decide) dX0_newestIn_32 ?_
              refine z_icmp_eq C (tgt := 48) dX0_newestIn_33 (by decide) (fun c_33 => ?_) (fun c_33 => ?_)
              · refine z_iload_n C dX0_newestIn_48 rfl 0 rfl ?_
                refine z_istore_n C (L' := [(2, .int (nI (o))), (3, .int (nI (o))), (1, .int (h)), (0, .ref (a 0))]) dX0_newestIn_49 rfl (by decide) rfl ?_
                refine z_iinc C (L' := [(3, .int (nI (o + 1))), (2, .int (nI (o))), (1, .int (h)), (0, .ref (a 0))]) dX0_newestIn_50 1 rfl (z_inc1 _) (by decide) rfl ?_
                refine z_goto C (tgt := 4) dX0_newestIn_53 (by decide) ?_
                refine z_sub (L' := [(3, .int (nI (o + 1))), (2, .int (nI (o))), (1, .int (h)), (0, .ref (a 0))]) [0, 1, 2, 3] rfl ?_
                exact ih_4 (o + 1) (some o) (by omega) (by omega) (by rw [fl_nwst, ← hbs]; simp [c_18, c_28])
              · exact absurd rfl c_33
            · refine z_sub (L' := [(3, .int (nI (o))), (2, .int (nI (j))), (1, .int (h)), (0, .ref (a 0))]) [0, 1, 2, 3] rfl ?_
              have hjn : j < n := Nat.lt_trans (fl_nwst_lt σ h o j hbs.symm) (by omega)
              refine z_iload_n C dX0_newestIn_31 rfl 1 rfl ?_
              refine z_iconst C (v := -1) (by decide) dX0_newestIn_32 ?_
              refine z_icmp_eq C (tgt := 48) dX0_newestIn_33 (by decide) (fun c_33 => ?_) (fun c_33 => ?_)
              · exact absurd c_33 (nI_ne_m1 (by omega))
              · refine z_aload_n C dX0_newestIn_36 rfl 3 rfl ?_
                refine z_getR C wu_X0 0 rfl 0 rfl rfl 12 (by decide) rfl wf_X0_37 dX0_newestIn_37 ?_
                refine z_iload_n C dX0_newestIn_40 rfl 1 rfl ?_
                refine z_iload_n C dX0_newestIn_41 rfl 0 rfl ?_
                refine z_cV C (st' := [.int (zb (fl_nw σ j o))]) (B' := [(shF a cI cZ, σ)]) [true] rfl (c_X1_asNew l D cI cZ cB cE a σ n hI j o (by omega) (by omega)) wq_yX1_asNew wm_X0_112 ⟨wn_yX1_asNew, wo_yX1_asNew⟩ ⟨rfl, rfl, Nat.le_of_ble_eq_true rfl, Nat.le_of_ble_eq_true rfl⟩ 0 rfl 12 rfl rfl rfl rfl (Nat.le_of_ble_eq_true rfl) dX0_newestIn_42 ⟨Nat.le_of_ble_eq_true rfl, Nat.le_of_ble_eq_true rfl⟩ rfl rfl ?_
                refine z_if_neB C (tgt := 50) dX0_newestIn_45 (by decide) (fun c_45 => ?_) (fun c_45 => ?_)
                · refine z_iinc C (L' := [(3, .int (nI (o + 1))), (2, .int (nI (j))), (1, .int (h)), (0, .ref (a 0))]) dX0_newestIn_50 0 rfl (z_inc1 _) (by decide) rfl ?_
                  refine z_goto C (tgt := 4) dX0_newestIn_53 (by decide) ?_
                  refine z_sub (L' := [(3, .int (nI (o + 1))), (2, .int (nI (j))), (1, .int (h)), (0, .ref (a 0))]) [0, 1, 2, 3] rfl ?_
                  exact ih_4 (o + 1) (some j) (by omega) (by omega) (by rw [fl_nwst, ← hbs]; simp [c_18, c_28, c_45])
                · refine z_iload_n C dX0_newestIn_48 rfl 0 rfl ?_
                  refine z_istore_n C (L' := [(2, .int (nI (o))), (3, .int (nI (o))), (1, .int (h)), (0, .ref (a 0))]) dX0_newestIn_49 rfl (by decide) rfl ?_
                  refine z_iinc C (L' := [(3, .int (nI (o + 1))), (2, .int (nI (o))), (1, .int (h)), (0, .ref (a 0))]) dX0_newestIn_50 1 rfl (z_inc1 _) (by decide) rfl ?_
                  refine z_goto C (tgt := 4) dX0_newestIn_53 (by decide) ?_
                  refine z_sub (L' := [(3, .int (nI (o + 1))), (2, .int (nI (o))), (1, .int (h)), (0, .ref (a 0))]) [0, 1, 2, 3] rfl ?_
                  exact ih_4 (o + 1) (some o) (by omega) (by omega) (by rw [fl_nwst, ← hbs]; simp [c_18, c_28, c_45])
  refine z_sub (L' := [(3, .int (nI (0))), (2, .int (-1)), (1, .int (h)), (0, .ref (a 0))]) [0, 1, 3, 2] rfl ?_
  exact loop_4 (n + 1) 0 none (by omega) (by omega) rfl
set_option maxHeartbeats 4000000 in
set_option maxRecDepth 100000 in
theorem c_X0_ofBoat (l : Launch) (D : va_G) (cI cZ cB cE : ClassId) (a : Nat → Nat) (σ : zF) (n : Nat) (hI : fl_Iv n σ) (b : Nat) (w : Nat) (hb : b < n) (hw : w < 10) : zM l D (tyL cI cZ cB cE) yX0_ofBoat cX0_ofBoat 3 (some .int) (zR 1 21) [.ref (a 0), .int (nI (b)), .int (nI (w))] [(shF a cI cZ, σ)] 0 0 (fun r u => r = some (.int (fl_ofB σ b w)) ∧ u = [(shF a cI cZ, σ)]) := by
  have hn3 := hI.n3
  have hn7 := hI.n7
  refine z_of (by decide) (Nat.le_of_ble_eq_true rfl) rfl ?_
  intro p e s m args below meth c A C hr hin
  obtain ⟨Q, hQ⟩ : ∃ Q, Q = MQ below (zQ (fun r u => r = some (.int (fl_ofB σ b w)) ∧ u = [(shF a cI cZ, σ)]) D (tyL cI cZ cB cE) A) args s 0 0 A := ⟨_, rfl⟩
  rw [← hQ]
  refine z_iload_n C dX0_ofBoat_0 rfl 2 rfl ?_
  rcases (show w = 0 ∨ w = 1 ∨ w = 2 ∨ w = 3 ∨ w = 4 ∨ w = 5 ∨ w = 6 ∨ w = 7 ∨ w = 8 ∨ w = 9 by omega) with rfl | rfl | rfl | rfl | rfl | rfl | rfl | rfl | rfl | rfl
  · refine z_tabI C (tgt := 52) dX0_ofBoat_1 (by decide) (by decide) rfl (by decide) ?_
    refine z_aload_n C dX0_ofBoat_52 rfl 0 rfl ?_
    refine z_getR C wu_X0 0 rfl 0 rfl rfl 7 (by decide) rfl wf_X0_18 dX0_ofBoat_53 ?_
    refine z_iload_n C dX0_ofBoat_56 rfl 1 rfl ?_
    refine z_iald C 0 rfl 3 0 rfl rfl dX0_ofBoat_57 (by omega) (by decide) ?_
    rw [hQ]; exact z_iret C hr dX0_ofBoat_58 ⟨congrArg (fun x => some (Value.int x)) (by first | rfl | (exact (hI.ln (by omega)).symm) | (exact (hI.kn (by omega)).symm) | (simp [fl_ofB, zb, ])), rfl⟩
  · refine z_tabI C (tgt := 59) dX0_ofBoat_1 (by decide) (by decide) rfl (by decide) ?_
    refine z_aload_n C dX0_ofBoat_59 rfl 0 rfl ?_
    refine z_getR C wu_X0 0 rfl 0 rfl rfl 8 (by decide) rfl wf_X0_21 dX0_ofBoat_60 ?_
    refine z_iload_n C dX0_ofBoat_63 rfl 1 rfl ?_
    refine z_iald C 0 rfl 4 0 rfl rfl dX0_ofBoat_64 (by omega) (by decide) ?_
    rw [hQ]; exact z_iret C hr dX0_ofBoat_65 ⟨congrArg (fun x => some (Value.int x)) (by first | rfl | (exact (hI.ln (by omega)).symm) | (exact (hI.kn (by omega)).symm) | (simp [fl_ofB, zb, ])), rfl⟩
  · refine z_tabI C (tgt := 66) dX0_ofBoat_1 (by decide) (by decide) rfl (by decide) ?_
    refine z_aload_n C dX0_ofBoat_66 rfl 0 rfl ?_
    refine z_getR C wu_X0 0 rfl 0 rfl rfl 9 (by decide) rfl wf_X0_24 dX0_ofBoat_67 ?_
    refine z_iload_n C dX0_ofBoat_70 rfl 1 rfl ?_
    refine z_iald C 0 rfl 5 0 rfl rfl dX0_ofBoat_71 (by omega) (by decide) ?_
    rw [hQ]; exact z_iret C hr dX0_ofBoat_72 ⟨congrArg (fun x => some (Value.int x)) (by first | rfl | (exact (hI.ln (by omega)).symm) | (exact (hI.kn (by omega)).symm) | (simp [fl_ofB, zb, ])), rfl⟩
  · refine z_tabI C (tgt := 73) dX0_ofBoat_1 (by decide) (by decide) rfl (by decide) ?_
    refine z_aload_n C dX0_ofBoat_73 rfl 0 rfl ?_
    refine z_getR C wu_X0 0 rfl 0 rfl rfl 10 (by decide) rfl wf_X0_27 dX0_ofBoat_74 ?_
    refine z_iload_n C dX0_ofBoat_77 rfl 1 rfl ?_
    refine z_iald C 0 rfl 6 0 rfl rfl dX0_ofBoat_78 (by omega) (by decide) ?_
    rw [hQ]; exact z_iret C hr dX0_ofBoat_79 ⟨congrArg (fun x => some (Value.int x)) (by first | rfl | (exact (hI.ln (by omega)).symm) | (exact (hI.kn (by omega)).symm) | (simp [fl_ofB, zb, ])), rfl⟩
  · refine z_tabI C (tgt := 80) dX0_ofBoat_1 (by decide) (by decide) rfl (by decide) ?_
    refine z_aload_n C dX0_ofBoat_80 rfl 0 rfl ?_
    refine z_getR C wu_X0 0 rfl 0 rfl rfl 11 (by decide) rfl wf_X0_30 dX0_ofBoat_81 ?_
    refine z_iload_n C dX0_ofBoat_84 rfl 1 rfl ?_
    refine z_zald C 0 rfl 7 1 rfl rfl dX0_ofBoat_85 (by omega) (by decide) ?_
    refine z_if_eq C (tgt := 93) dX0_ofBoat_86 (by decide) (fun c_86 => ?_) (fun c_86 => ?_)
    · refine z_iconst C (v := nI (0)) (by decide) dX0_ofBoat_93 ?_
      rw [hQ]; exact z_iret C hr dX0_ofBoat_94 ⟨congrArg (fun x => some (Value.int x)) (by first | rfl | (exact (hI.ln (by omega)).symm) | (exact (hI.kn (by omega)).symm) | (simp [fl_ofB, zb, c_86])), rfl⟩
    · refine z_iconst C (v := nI (1)) (by decide) dX0_ofBoat_89 ?_
      refine z_goto C (tgt := 94) dX0_ofBoat_90 (by decide) ?_
      rw [hQ]; exact z_iret C hr dX0_ofBoat_94 ⟨congrArg (fun x => some (Value.int x)) (by first | rfl | (exact (hI.ln (by omega)).symm) | (exact (hI.kn (by omega)).symm) | (simp [fl_ofB, zb, c_86])), rfl⟩
  · refine z_tabI C (tgt := 95) dX0_ofBoat_1 (by decide) (by decide) rfl (by decide) ?_
    refine z_aload_n C dX0_ofBoat_95 rfl 0 rfl ?_
    refine z_getR C wu_X0 0 rfl 0 rfl rfl 5 (by decide) rfl wf_X0_9 dX0_ofBoat_96 ?_
    refine z_iload_n C dX0_ofBoat_99 rfl 1 rfl ?_
    refine z_iald C 0 rfl 1 0 rfl rfl dX0_ofBoat_100 (by omega) (by decide) ?_
    rw [hQ]; exact z_iret C hr dX0_ofBoat_101 ⟨congrArg (fun x => some (Value.int x)) (by first | rfl | (exact (hI.ln (by omega)).symm) | (exact (hI.kn (by omega)).symm) | (simp [fl_ofB, zb, ])), rfl⟩
  · refine z_tabI C (tgt := 102) dX0_ofBoat_1 (by decide) (by decide) rfl (by decide) ?_
    refine z_aload_n C dX0_ofBoat_102 rfl 0 rfl ?_
    refine z_getR C wu_X0 0 rfl 0 rfl rfl 6 (by decide) rfl wf_X0_15 dX0_ofBoat_103 ?_
    refine z_iload_n C dX0_ofBoat_106 rfl 1 rfl ?_
    refine z_iald C 0 rfl 2 0 rfl rfl dX0_ofBoat_107 (by omega) (by decide) ?_
    rw [hQ]; exact z_iret C hr dX0_ofBoat_108 ⟨congrArg (fun x => some (Value.int x)) (by first | rfl | (exact (hI.ln (by omega)).symm) | (exact (hI.kn (by omega)).symm) | (simp [fl_ofB, zb, ])), rfl⟩
  · refine z_tabI C (tgt := 109) dX0_ofBoat_1 (by decide) (by decide) rfl (by decide) ?_
    refine z_aload_n C dX0_ofBoat_109 rfl 0 rfl ?_
    refine z_getR C wu_X0 0 rfl 0 rfl rfl 12 (by decide) rfl wf_X0_37 dX0_ofBoat_110 ?_
    refine z_getR C wu_X1 0 rfl 12 rfl rfl 0 (by decide) rfl wf_X0_128 dX0_ofBoat_113 ?_
    refine z_iload_n C dX0_ofBoat_116 rfl 1 rfl ?_
    refine z_iald C 0 rfl 8 0 rfl rfl dX0_ofBoat_117 (by omega) (by decide) ?_
    refine z_top (y := nI (fl_ln σ b)) (hI.ln (by omega)) ?_
    have hb_1 := hI.lnT (i := b) (by omega)
    rw [hQ]; exact z_iret C hr dX0_ofBoat_118 ⟨congrArg (fun x => some (Value.int x)) (by first | rfl | (exact (hI.ln (by omega)).symm) | (exact (hI.kn (by omega)).symm) | (simp [fl_ofB, zb, ])), rfl⟩
  · refine z_tabI C (tgt := 119) dX0_ofBoat_1 (by decide) (by decide) rfl (by decide) ?_
    refine z_aload_n C dX0_ofBoat_119 rfl 0 rfl ?_
    refine z_getR C wu_X0 0 rfl 0 rfl rfl 12 (by decide) rfl wf_X0_37 dX0_ofBoat_120 ?_
    refine z_getR C wu_X1 0 rfl 12 rfl rfl 1 (by decide) rfl wf_X0_74 dX0_ofBoat_123 ?_
    refine z_iload_n C dX0_ofBoat_126 rfl 1 rfl ?_
    refine z_iald C 0 rfl 9 0 rfl rfl dX0_ofBoat_127 (by omega) (by decide) ?_
    refine z_top (y := nI (fl_kn σ b)) (hI.kn (by omega)) ?_
    have hb_2 := hI.knT (i := b) (by omega)
    rw [hQ]; exact z_iret C hr dX0_ofBoat_128 ⟨congrArg (fun x => some (Value.int x)) (by first | rfl | (exact (hI.ln (by omega)).symm) | (exact (hI.kn (by omega)).symm) | (simp [fl_ofB, zb, ])), rfl⟩
  · refine z_tabO C (tgt := 129) dX0_ofBoat_1 (by decide) (by decide) ?_
    refine z_aload_n C dX0_ofBoat_129 rfl 0 rfl ?_
    refine z_getR C wu_X0 0 rfl 0 rfl rfl 12 (by decide) rfl wf_X0_37 dX0_ofBoat_130 ?_
    refine z_iload_n C dX0_ofBoat_133 rfl 1 rfl ?_
    refine z_cV C (st' := [.int (fl_last σ b)]) (B' := [(shF a cI cZ, σ)]) [true] rfl (c_X1_lastTerm l D cI cZ cB cE a σ n hI b (by omega)) wq_yX1_lastTerm wm_X0_144 ⟨wn_yX1_lastTerm, wo_yX1_lastTerm⟩ ⟨rfl, rfl, Nat.le_of_ble_eq_true rfl, Nat.le_of_ble_eq_true rfl⟩ 0 rfl 12 rfl rfl rfl rfl (Nat.le_of_ble_eq_true rfl) dX0_ofBoat_134 ⟨Nat.le_of_ble_eq_true rfl, Nat.le_of_ble_eq_true rfl⟩ rfl rfl ?_
    rw [hQ]; exact z_iret C hr dX0_ofBoat_137 ⟨congrArg (fun x => some (Value.int x)) (by first | rfl | (exact (hI.ln (by omega)).symm) | (exact (hI.kn (by omega)).symm) | (simp [fl_ofB, zb, ])), rfl⟩
set_option maxHeartbeats 4000000 in
set_option maxRecDepth 100000 in
theorem c_X0_ofEntry (l : Launch) (D : va_G) (cI cZ cB cE : ClassId) (a : Nat → Nat) (σ : zF) (n : Nat) (hI : fl_Iv n σ) (b : Nat) (k : Nat) (w : Nat) (hb : b < n) (hk : k < 10) (hw : w < 3) : zM l D (tyL cI cZ cB cE) yX0_ofEntry cX0_ofEntry 4 (some .int) (zR 3 71) [.ref (a 0), .int (nI (b)), .int (nI (k)), .int (nI (w))] [(shF a cI cZ, σ)] 0 0 (fun r u => r = some (.int (fl_ofE n σ b k w)) ∧ u = [(shF a cI cZ, σ)]) := by
  have hn3 := hI.n3
  have hn7 := hI.n7
  refine z_of (by decide) (Nat.le_of_ble_eq_true rfl) rfl ?_
  intro p e s m args below meth c A C hr hin
  obtain ⟨Q, hQ⟩ : ∃ Q, Q = MQ below (zQ (fun r u => r = some (.int (fl_ofE n σ b k w)) ∧ u = [(shF a cI cZ, σ)]) D (tyL cI cZ cB cE) A) args s 0 0 A := ⟨_, rfl⟩
  rw [← hQ]
  refine z_iload_n C dX0_ofEntry_0 rfl 3 rfl ?_
  rcases (show w = 0 ∨ w = 1 ∨ w = 2 by omega) with rfl | rfl | rfl
  · refine z_look C (tgt := 28) dX0_ofEntry_1 (by decide) rfl (by decide) ?_
    refine z_aload_n C dX0_ofEntry_28 rfl 0 rfl ?_
    refine z_getR C wu_X0 0 rfl 0 rfl rfl 12 (by decide) rfl wf_X0_37 dX0_ofEntry_29 ?_
    refine z_iload_n C dX0_ofEntry_32 rfl 1 rfl ?_
    refine z_iload_n C dX0_ofEntry_33 rfl 2 rfl ?_
    refine z_cV C (st' := [.int (σ 10 ((b * 10) + k))]) (B' := [(shF a cI cZ, σ)]) [true] rfl (c_X1_termAt l D cI cZ cB cE a σ n hI b k (by omega) (by omega)) wq_yX1_termAt wm_X0_131 ⟨wn_yX1_termAt, wo_yX1_termAt⟩ ⟨rfl, rfl, Nat.le_of_ble_eq_true rfl, Nat.le_of_ble_eq_true rfl⟩ 0 rfl 12 rfl rfl rfl rfl (Nat.le_of_ble_eq_true rfl) dX0_ofEntry_34 ⟨Nat.le_of_ble_eq_true rfl, Nat.le_of_ble_eq_true rfl⟩ rfl rfl ?_
    rw [hQ]; exact z_iret C hr dX0_ofEntry_37 ⟨congrArg (fun x => some (Value.int x)) (by rfl), rfl⟩
  · refine z_look C (tgt := 38) dX0_ofEntry_1 (by decide) rfl (by decide) ?_
    refine z_aload_n C dX0_ofEntry_38 rfl 0 rfl ?_
    refine z_getR C wu_X0 0 rfl 0 rfl rfl 12 (by decide) rfl wf_X0_37 dX0_ofEntry_39 ?_
    refine z_iload_n C dX0_ofEntry_42 rfl 1 rfl ?_
    refine z_iload_n C dX0_ofEntry_43 rfl 2 rfl ?_
    refine z_cV C (st' := [.int (σ 11 ((b * 10) + k))]) (B' := [(shF a cI cZ, σ)]) [true] rfl (c_X1_fishAt l D cI cZ cB cE a σ n hI b k (by omega) (by omega)) wq_yX1_fishAt wm_X0_147 ⟨wn_yX1_fishAt, wo_yX1_fishAt⟩ ⟨rfl, rfl, Nat.le_of_ble_eq_true rfl, Nat.le_of_ble_eq_true rfl⟩ 0 rfl 12 rfl rfl rfl rfl (Nat.le_of_ble_eq_true rfl) dX0_ofEntry_44 ⟨Nat.le_of_ble_eq_true rfl, Nat.le_of_ble_eq_true rfl⟩ rfl rfl ?_
    rw [hQ]; exact z_iret C hr dX0_ofEntry_47 ⟨congrArg (fun x => some (Value.int x)) (by rfl), rfl⟩
  · refine z_look C (tgt := 48) dX0_ofEntry_1 (by decide) rfl (by decide) ?_
    refine z_aload_n C dX0_ofEntry_48 rfl 0 rfl ?_
    refine z_iload_n C dX0_ofEntry_49 rfl 1 rfl ?_
    refine z_iload_n C dX0_ofEntry_50 rfl 2 rfl ?_
    refine z_iconst C (v := nI (1)) (by decide) dX0_ofEntry_51 ?_
    refine z_iaddN C dX0_ofEntry_52 ?_
    refine z_cV C (st' := [.int (nI (fl_ct (fun o => decide ((k + 1) ≤ fl_agr σ b o)) n))]) (B' := [(shF a cI cZ, σ)]) [true] rfl (c_X0_boatsThatAgree l D cI cZ cB cE a σ n hI b (k + 1) (by omega) (by omega)) wq_yX0_boatsThatAgree wm_X0_150 ⟨wn_yX0_boatsThatAgree, wo_yX0_boatsThatAgree⟩ ⟨rfl, rfl, Nat.le_of_ble_eq_true rfl, Nat.le_of_ble_eq_true rfl⟩ 0 rfl 0 rfl rfl rfl rfl (Nat.le_of_ble_eq_true rfl) dX0_ofEntry_53 ⟨Nat.le_of_ble_eq_true rfl, Nat.le_of_ble_eq_true rfl⟩ rfl rfl ?_
    rw [hQ]; exact z_iret C hr dX0_ofEntry_56 ⟨congrArg (fun x => some (Value.int x)) (by rfl), rfl⟩
set_option maxHeartbeats 4000000 in
set_option maxRecDepth 100000 in
theorem c_X0_ofFleet (l : Launch) (D : va_G) (cI cZ cB cE : ClassId) (a : Nat → Nat) (σ : zF) (n : Nat) (hI : fl_Iv n σ) (w : Nat) (hw : w < 10) : zM l D (tyL cI cZ cB cE) yX0_ofFleet cX0_ofFleet 2 (some .int) (zR 2 43) [.ref (a 0), .int (nI (w))] [(shF a cI cZ, σ)] 0 0 (fun r u => r = some (.int (fl_ofF n σ w)) ∧ u = [(shF a cI cZ, σ)]) := by
  have hn3 := hI.n3
  have hn7 := hI.n7
  refine z_of (by decide) (Nat.le_of_ble_eq_true rfl) rfl ?_
  intro p e s m args below meth c A C hr hin
  obtain ⟨Q, hQ⟩ : ∃ Q, Q = MQ below (zQ (fun r u => r = some (.int (fl_ofF n σ w)) ∧ u = [(shF a cI cZ, σ)]) D (tyL cI cZ cB cE) A) args s 0 0 A := ⟨_, rfl⟩
  rw [← hQ]
  refine z_iload_n C dX0_ofFleet_0 rfl 1 rfl ?_
  rcases (show w = 0 ∨ w = 1 ∨ w = 2 ∨ w = 3 ∨ w = 4 ∨ w = 5 ∨ w = 6 ∨ w = 7 ∨ w = 8 ∨ w = 9 by omega) with rfl | rfl | rfl | rfl | rfl | rfl | rfl | rfl | rfl | rfl
  · refine z_tabI C (tgt := 52) dX0_ofFleet_1 (by decide) (by decide) rfl (by decide) ?_
    refine z_aload_n C dX0_ofFleet_52 rfl 0 rfl ?_
    refine z_getI C wu_X0 0 rfl 0 rfl rfl 1 (by decide) rfl wf_X0_54 dX0_ofFleet_53 ?_
    rw [hQ]; exact z_iret C hr dX0_ofFleet_56 ⟨congrArg (fun x => some (Value.int x)) (by rfl), rfl⟩
  · refine z_tabI C (tgt := 57) dX0_ofFleet_1 (by decide) (by decide) rfl (by decide) ?_
    refine z_aload_n C dX0_ofFleet_57 rfl 0 rfl ?_
    refine z_getI C wu_X0 0 rfl 0 rfl rfl 0 (by decide) rfl wf_X0_50 dX0_ofFleet_58 ?_
    refine z_top (hI.n0 : _ = nI n) ?_
    rw [hQ]; exact z_iret C hr dX0_ofFleet_61 ⟨congrArg (fun x => some (Value.int x)) (by rfl), rfl⟩
  · refine z_tabI C (tgt := 62) dX0_ofFleet_1 (by decide) (by decide) rfl (by decide) ?_
    refine z_aload_n C dX0_ofFleet_62 rfl 0 rfl ?_
    refine z_cV C (st' := [.int (nI (fl_ct (fun b => decide (¬ σ 7 b = 0)) n))]) (B' := [(shF a cI cZ, σ)]) [true] rfl (c_X0_boatsUp l D cI cZ cB cE a σ n hI  ) wq_yX0_boatsUp wm_X0_153 ⟨wn_yX0_boatsUp, wo_yX0_boatsUp⟩ ⟨rfl, rfl, Nat.le_of_ble_eq_true rfl, Nat.le_of_ble_eq_true rfl⟩ 0 rfl 0 rfl rfl rfl rfl (Nat.le_of_ble_eq_true rfl) dX0_ofFleet_63 ⟨Nat.le_of_ble_eq_true rfl, Nat.le_of_ble_eq_true rfl⟩ rfl rfl ?_
    rw [hQ]; exact z_iret C hr dX0_ofFleet_66 ⟨congrArg (fun x => some (Value.int x)) (by rfl), rfl⟩
  · refine z_tabI C (tgt := 67) dX0_ofFleet_1 (by decide) (by decide) rfl (by decide) ?_
    refine z_aload_n C dX0_ofFleet_67 rfl 0 rfl ?_
    refine z_cV C (st' := [.int (nI (fl_ct (fl_lead σ) n))]) (B' := [(shF a cI cZ, σ)]) [true] rfl (c_X0_boatsLeading l D cI cZ cB cE a σ n hI  ) wq_yX0_boatsLeading wm_X0_157 ⟨wn_yX0_boatsLeading, wo_yX0_boatsLeading⟩ ⟨rfl, rfl, Nat.le_of_ble_eq_true rfl, Nat.le_of_ble_eq_true rfl⟩ 0 rfl 0 rfl rfl rfl rfl (Nat.le_of_ble_eq_true rfl) dX0_ofFleet_68 ⟨Nat.le_of_ble_eq_true rfl, Nat.le_of_ble_eq_true rfl⟩ rfl rfl ?_
    rw [hQ]; exact z_iret C hr dX0_ofFleet_71 ⟨congrArg (fun x => some (Value.int x)) (by rfl), rfl⟩
  · refine z_tabI C (tgt := 72) dX0_ofFleet_1 (by decide) (by decide) rfl (by decide) ?_
    refine z_aload_n C dX0_ofFleet_72 rfl 0 rfl ?_
    refine z_cV C (st' := [.int (fl_max (σ 3) n)]) (B' := [(shF a cI cZ, σ)]) [true] rfl (c_X0_greatestTerm l D cI cZ cB cE a σ n hI  ) wq_yX0_greatestTerm wm_X0_160 ⟨wn_yX0_greatestTerm, wo_yX0_greatestTerm⟩ ⟨rfl, rfl, Nat.le_of_ble_eq_true rfl, Nat.le_of_ble_eq_true rfl⟩ 0 rfl 0 rfl rfl rfl rfl (Nat.le_of_ble_eq_true rfl) dX0_ofFleet_73 ⟨Nat.le_of_ble_eq_true rfl, Nat.le_of_ble_eq_true rfl⟩ rfl rfl ?_
    rw [hQ]; exact z_iret C hr dX0_ofFleet_76 ⟨congrArg (fun x => some (Value.int x)) (by rfl), rfl⟩
  · refine z_tabI C (tgt := 77) dX0_ofFleet_1 (by decide) (by decide) rfl (by decide) ?_
    refine z_aload_n C dX0_ofFleet_77 rfl 0 rfl ?_
    refine z_getI C wu_X0 0 rfl 0 rfl rfl 2 (by decide) rfl wf_X0_57 dX0_ofFleet_78 ?_
    rw [hQ]; exact z_iret C hr dX0_ofFleet_81 ⟨congrArg (fun x => some (Value.int x)) (by rfl), rfl⟩
  · refine z_tabI C (tgt := 82) dX0_ofFleet_1 (by decide) (by decide) rfl (by decide) ?_
    refine z_aload_n C dX0_ofFleet_82 rfl 0 rfl ?_
    refine z_getI C wu_X0 0 rfl 0 rfl rfl 3 (by decide) rfl wf_X0_60 dX0_ofFleet_83 ?_
    rw [hQ]; exact z_iret C hr dX0_ofFleet_86 ⟨congrArg (fun x => some (Value.int x)) (by rfl), rfl⟩
  · refine z_tabI C (tgt := 87) dX0_ofFleet_1 (by decide) (by decide) rfl (by decide) ?_
    refine z_aload_n C dX0_ofFleet_87 rfl 0 rfl ?_
    refine z_getI C wu_X0 0 rfl 0 rfl rfl 4 (by decide) rfl wf_X0_63 dX0_ofFleet_88 ?_
    rw [hQ]; exact z_iret C hr dX0_ofFleet_91 ⟨congrArg (fun x => some (Value.int x)) (by rfl), rfl⟩
  · refine z_tabI C (tgt := 92) dX0_ofFleet_1 (by decide) (by decide) rfl (by decide) ?_
    refine z_aload_n C dX0_ofFleet_92 rfl 0 rfl ?_
    refine z_cV C (st' := [.int (fl_max (σ 9) n)]) (B' := [(shF a cI cZ, σ)]) [true] rfl (c_X0_mostKnown l D cI cZ cB cE a σ n hI  ) wq_yX0_mostKnown wm_X0_163 ⟨wn_yX0_mostKnown, wo_yX0_mostKnown⟩ ⟨rfl, rfl, Nat.le_of_ble_eq_true rfl, Nat.le_of_ble_eq_true rfl⟩ 0 rfl 0 rfl rfl rfl rfl (Nat.le_of_ble_eq_true rfl) dX0_ofFleet_93 ⟨Nat.le_of_ble_eq_true rfl, Nat.le_of_ble_eq_true rfl⟩ rfl rfl ?_
    rw [hQ]; exact z_iret C hr dX0_ofFleet_96 ⟨congrArg (fun x => some (Value.int x)) (by rfl), rfl⟩
  · refine z_tabO C (tgt := 97) dX0_ofFleet_1 (by decide) (by decide) ?_
    refine z_aload_n C dX0_ofFleet_97 rfl 0 rfl ?_
    refine z_cV C (st' := [.int (fl_min (σ 9) n)]) (B' := [(shF a cI cZ, σ)]) [true] rfl (c_X0_fewestKnown l D cI cZ cB cE a σ n hI  ) wq_yX0_fewestKnown wm_X0_166 ⟨wn_yX0_fewestKnown, wo_yX0_fewestKnown⟩ ⟨rfl, rfl, Nat.le_of_ble_eq_true rfl, Nat.le_of_ble_eq_true rfl⟩ 0 rfl 0 rfl rfl rfl rfl (Nat.le_of_ble_eq_true rfl) dX0_ofFleet_98 ⟨Nat.le_of_ble_eq_true rfl, Nat.le_of_ble_eq_true rfl⟩ rfl rfl ?_
    rw [hQ]; exact z_iret C hr dX0_ofFleet_101 ⟨congrArg (fun x => some (Value.int x)) (by rfl), rfl⟩
