theorem nI_ne_m1 {j : Nat} (h : j < 2 ^ 31) : ¬ nI j = -1 := fun q => by
  have h1 := nI_toInt h
  rw [q] at h1
  have h2 : (-1 : Int32).toInt = -1 := by decide
  omega
theorem fl_dk {x y : Int32} (h : (!decide (x < y)) = true) : ¬ x < y := by simpa using h
theorem fl_dn {x y : Int32} (h : (!decide (x < y)) = false) : x < y := by simpa using h
theorem fl_lose_t (σ : zF) : fl_lose σ true = zU σ 0 4 (σ 0 4 + nI 1) := if_pos rfl
theorem fl_lose_f (σ : zF) : fl_lose σ false = σ := if_neg (by decide)
theorem fl_nwst_lt (σ : zF) (h : Int32) : ∀ i j : Nat, fl_nwst σ h i = some j → j < i
  | 0, j, e => by simp [fl_nwst] at e
  | i + 1, j, e => by
    unfold fl_nwst at e
    split at e
    · split at e
      · simp at e; omega
      · rename_i k hk
        have := fl_nwst_lt σ h i k hk
        split at e <;> simp at e <;> omega
    · have := fl_nwst_lt σ h i j e
      omega
set_option maxHeartbeats 4000000 in
set_option maxRecDepth 100000 in
theorem c_X0_hear (l : Launch) (D : va_G) (cI cZ cB cE : ClassId) (a : Nat → Nat) (σ : zF) (n : Nat) (hI : fl_Iv n σ) (x : Nat) (y : Nat) (hx : x < n) (hy : y < n) : zM l D (tyL cI cZ cB cE) yX0_hear cX0_hear 3 (some .boolean) (zR 0 0) [.ref (a 0), .int (nI (x)), .int (nI (y))] [(shF a cI cZ, σ)] 0 0 (fun r u => r = some (.int (zb (fl_hear σ x y))) ∧ u = [(shF a cI cZ, σ)]) := by
  have hn3 := hI.n3
  have hn7 := hI.n7
  refine z_of (by decide) (Nat.le_of_ble_eq_true rfl) rfl ?_
  intro p e s m args below meth c A C hr hin
  obtain ⟨Q, hQ⟩ : ∃ Q, Q = MQ below (zQ (fun r u => r = some (.int (zb (fl_hear σ x y))) ∧ u = [(shF a cI cZ, σ)]) D (tyL cI cZ cB cE) A) args s 0 0 A := ⟨_, rfl⟩
  rw [← hQ]
  refine z_aload_n C dX0_hear_0 rfl 0 rfl ?_
  refine z_getR C wu_X0 0 rfl 0 rfl rfl 11 (by decide) rfl wf_X0_30 dX0_hear_1 ?_
  refine z_iload_n C dX0_hear_4 rfl 1 rfl ?_
  refine z_zald C 0 rfl 7 1 rfl rfl dX0_hear_5 (by omega) (by decide) ?_
  refine z_if_eq C (tgt := 37) dX0_hear_6 (by decide) (fun c_6 => ?_) (fun c_6 => ?_)
  · refine z_iconst C (v := nI (0)) (by decide) dX0_hear_37 ?_
    rw [hQ]; exact z_zret C hr (by decide) dX0_hear_38 ⟨z_b0 (by simp [fl_hear, c_6]), rfl⟩
  · refine z_aload_n C dX0_hear_9 rfl 0 rfl ?_
    refine z_getR C wu_X0 0 rfl 0 rfl rfl 11 (by decide) rfl wf_X0_30 dX0_hear_10 ?_
    refine z_iload_n C dX0_hear_13 rfl 2 rfl ?_
    refine z_zald C 0 rfl 7 1 rfl rfl dX0_hear_14 (by omega) (by decide) ?_
    refine z_if_eq C (tgt := 37) dX0_hear_15 (by decide) (fun c_15 => ?_) (fun c_15 => ?_)
    · refine z_iconst C (v := nI (0)) (by decide) dX0_hear_37 ?_
      rw [hQ]; exact z_zret C hr (by decide) dX0_hear_38 ⟨z_b0 (by simp [fl_hear, c_6, c_15]), rfl⟩
    · refine z_aload_n C dX0_hear_18 rfl 0 rfl ?_
      refine z_getR C wu_X0 0 rfl 0 rfl rfl 10 (by decide) rfl wf_X0_27 dX0_hear_19 ?_
      refine z_iload_n C dX0_hear_22 rfl 1 rfl ?_
      refine z_iald C 0 rfl 6 0 rfl rfl dX0_hear_23 (by omega) (by decide) ?_
      refine z_aload_n C dX0_hear_24 rfl 0 rfl ?_
      refine z_getR C wu_X0 0 rfl 0 rfl rfl 10 (by decide) rfl wf_X0_27 dX0_hear_25 ?_
      refine z_iload_n C dX0_hear_28 rfl 2 rfl ?_
      refine z_iald C 0 rfl 6 0 rfl rfl dX0_hear_29 (by omega) (by decide) ?_
      refine z_icmp_ne C (tgt := 37) dX0_hear_30 (by decide) (fun c_30 => ?_) (fun c_30 => ?_)
      · refine z_iconst C (v := nI (0)) (by decide) dX0_hear_37 ?_
        rw [hQ]; exact z_zret C hr (by decide) dX0_hear_38 ⟨z_b0 (by simp [fl_hear, c_6, c_15, c_30]), rfl⟩
      · refine z_iconst C (v := nI (1)) (by decide) dX0_hear_33 ?_
        refine z_goto C (tgt := 38) dX0_hear_34 (by decide) ?_
        rw [hQ]; exact z_zret C hr (by decide) dX0_hear_38 ⟨z_b1 (by simp [fl_hear, c_6, c_15, c_30]), rfl⟩
set_option maxHeartbeats 4000000 in
set_option maxRecDepth 100000 in
theorem c_X0_leadsNow (l : Launch) (D : va_G) (cI cZ cB cE : ClassId) (a : Nat → Nat) (σ : zF) (n : Nat) (hI : fl_Iv n σ) (b : Nat) (hb : b < n) : zM l D (tyL cI cZ cB cE) yX0_leadsNow cX0_leadsNow 2 (some .boolean) (zR 0 0) [.ref (a 0), .int (nI (b))] [(shF a cI cZ, σ)] 0 0 (fun r u => r = some (.int (zb (fl_lead σ b))) ∧ u = [(shF a cI cZ, σ)]) := by
  have hn3 := hI.n3
  have hn7 := hI.n7
  refine z_of (by decide) (Nat.le_of_ble_eq_true rfl) rfl ?_
  intro p e s m args below meth c A C hr hin
  obtain ⟨Q, hQ⟩ : ∃ Q, Q = MQ below (zQ (fun r u => r = some (.int (zb (fl_lead σ b))) ∧ u = [(shF a cI cZ, σ)]) D (tyL cI cZ cB cE) A) args s 0 0 A := ⟨_, rfl⟩
  rw [← hQ]
  refine z_aload_n C dX0_leadsNow_0 rfl 0 rfl ?_
  refine z_getR C wu_X0 0 rfl 0 rfl rfl 11 (by decide) rfl wf_X0_30 dX0_leadsNow_1 ?_
  refine z_iload_n C dX0_leadsNow_4 rfl 1 rfl ?_
  refine z_zald C 0 rfl 7 1 rfl rfl dX0_leadsNow_5 (by omega) (by decide) ?_
  refine z_if_eq C (tgt := 23) dX0_leadsNow_6 (by decide) (fun c_6 => ?_) (fun c_6 => ?_)
  · refine z_iconst C (v := nI (0)) (by decide) dX0_leadsNow_23 ?_
    rw [hQ]; exact z_zret C hr (by decide) dX0_leadsNow_24 ⟨z_b0 (by simp [fl_lead, c_6]), rfl⟩
  · refine z_aload_n C dX0_leadsNow_9 rfl 0 rfl ?_
    refine z_getR C wu_X0 0 rfl 0 rfl rfl 9 (by decide) rfl wf_X0_24 dX0_leadsNow_10 ?_
    refine z_iload_n C dX0_leadsNow_13 rfl 1 rfl ?_
    refine z_iald C 0 rfl 5 0 rfl rfl dX0_leadsNow_14 (by omega) (by decide) ?_
    refine z_iconst C (v := nI (2)) (by decide) dX0_leadsNow_15 ?_
    refine z_icmp_ne C (tgt := 23) dX0_leadsNow_16 (by decide) (fun c_16 => ?_) (fun c_16 => ?_)
    · refine z_iconst C (v := nI (0)) (by decide) dX0_leadsNow_23 ?_
      rw [hQ]; exact z_zret C hr (by decide) dX0_leadsNow_24 ⟨z_b0 (by simp [fl_lead, c_6, c_16]), rfl⟩
    · refine z_iconst C (v := nI (1)) (by decide) dX0_leadsNow_19 ?_
      refine z_goto C (tgt := 24) dX0_leadsNow_20 (by decide) ?_
      rw [hQ]; exact z_zret C hr (by decide) dX0_leadsNow_24 ⟨z_b1 (by simp [fl_lead, c_6, c_16]), rfl⟩
set_option maxHeartbeats 4000000 in
set_option maxRecDepth 100000 in
theorem c_X0_isMoreThanHalf (l : Launch) (D : va_G) (cI cZ cB cE : ClassId) (a : Nat → Nat) (σ : zF) (n : Nat) (hI : fl_Iv n σ) (v : Nat) (hv : v < 2 ^ 31) : zM l D (tyL cI cZ cB cE) yX0_isMoreThanHalf cX0_isMoreThanHalf 2 (some .boolean) (zR 0 0) [.ref (a 0), .int (nI (v))] [(shF a cI cZ, σ)] 0 0 (fun r u => r = some (.int (zb (decide (n / 2 < v)))) ∧ u = [(shF a cI cZ, σ)]) := by
  have hn3 := hI.n3
  have hn7 := hI.n7
  refine z_of (by decide) (Nat.le_of_ble_eq_true rfl) rfl ?_
  intro p e s m args below meth c A C hr hin
  obtain ⟨Q, hQ⟩ : ∃ Q, Q = MQ below (zQ (fun r u => r = some (.int (zb (decide (n / 2 < v)))) ∧ u = [(shF a cI cZ, σ)]) D (tyL cI cZ cB cE) A) args s 0 0 A := ⟨_, rfl⟩
  rw [← hQ]
  refine z_iload_n C dX0_isMoreThanHalf_0 rfl 1 rfl ?_
  refine z_aload_n C dX0_isMoreThanHalf_1 rfl 0 rfl ?_
  refine z_getI C wu_X0 0 rfl 0 rfl rfl 0 (by decide) rfl wf_X0_50 dX0_isMoreThanHalf_2 ?_
  refine z_top (hI.n0 : _ = nI n) ?_
  refine z_iconst C (v := nI (2)) (by decide) dX0_isMoreThanHalf_5 ?_
  refine z_idivN C dX0_isMoreThanHalf_6 (by omega) (by omega) (by omega) ?_
  refine z_icmp_leN C (tgt := 14) dX0_isMoreThanHalf_7 (by decide) (by omega) (by omega) (fun c_7 => ?_) (fun c_7 => ?_)
  · refine z_iconst C (v := nI (0)) (by decide) dX0_isMoreThanHalf_14 ?_
    rw [hQ]; exact z_zret C hr (by decide) dX0_isMoreThanHalf_15 ⟨z_b0 (by (simp only [decide_eq_true_eq, decide_eq_false_iff_not]; omega)), rfl⟩
  · refine z_iconst C (v := nI (1)) (by decide) dX0_isMoreThanHalf_10 ?_
    refine z_goto C (tgt := 15) dX0_isMoreThanHalf_11 (by decide) ?_
    rw [hQ]; exact z_zret C hr (by decide) dX0_isMoreThanHalf_15 ⟨z_b1 (by (simp only [decide_eq_true_eq, decide_eq_false_iff_not]; omega)), rfl⟩
set_option maxHeartbeats 4000000 in
set_option maxRecDepth 100000 in
theorem c_X0_takeTerm (l : Launch) (D : va_G) (cI cZ cB cE : ClassId) (a : Nat → Nat) (σ : zF) (n : Nat) (hI : fl_Iv n σ) (b : Nat) (g : Int32) (hb : b < n) : zM l D (tyL cI cZ cB cE) yX0_takeTerm cX0_takeTerm 3 none (zR 0 0) [.ref (a 0), .int (nI (b)), .int (g)] [(shF a cI cZ, σ)] 0 0 (fun r u => r = none ∧ u = [(shF a cI cZ, (fl_take σ b g))]) := by
  have hn3 := hI.n3
  have hn7 := hI.n7
  refine z_of (by decide) (Nat.le_of_ble_eq_true rfl) rfl ?_
  intro p e s m args below meth c A C hr hin
  obtain ⟨Q, hQ⟩ : ∃ Q, Q = MQ below (zQ (fun r u => r = none ∧ u = [(shF a cI cZ, (fl_take σ b g))]) D (tyL cI cZ cB cE) A) args s 0 0 A := ⟨_, rfl⟩
  rw [← hQ]
  refine z_aload_n C dX0_takeTerm_0 rfl 0 rfl ?_
  refine z_getR C wu_X0 0 rfl 0 rfl rfl 7 (by decide) rfl wf_X0_18 dX0_takeTerm_1 ?_
  refine z_iload_n C dX0_takeTerm_4 rfl 1 rfl ?_
  refine z_iload_n C dX0_takeTerm_5 rfl 2 rfl ?_
  refine z_iast C (B' := [(shF a cI cZ, (zU σ 3 (b) (g)))]) 0 rfl 3 0 rfl rfl dX0_takeTerm_6 (by omega) (by decide) rfl ?_
  refine z_aload_n C dX0_takeTerm_7 rfl 0 rfl ?_
  refine z_getR C wu_X0 0 rfl 0 rfl rfl 8 (by decide) rfl wf_X0_21 dX0_takeTerm_8 ?_
  refine z_iload_n C dX0_takeTerm_11 rfl 1 rfl ?_
  refine z_iconst C (v := -1) (by decide) dX0_takeTerm_12 ?_
  refine z_iast C (B' := [(shF a cI cZ, (zU (zU σ 3 (b) (g)) 4 (b) (-1)))]) 0 rfl 4 0 rfl rfl dX0_takeTerm_13 (by omega) (by decide) rfl ?_
  refine z_aload_n C dX0_takeTerm_14 rfl 0 rfl ?_
  refine z_getR C wu_X0 0 rfl 0 rfl rfl 9 (by decide) rfl wf_X0_24 dX0_takeTerm_15 ?_
  refine z_iload_n C dX0_takeTerm_18 rfl 1 rfl ?_
  refine z_iconst C (v := nI (0)) (by decide) dX0_takeTerm_19 ?_
  refine z_iast C (B' := [(shF a cI cZ, (zU (zU (zU σ 3 (b) (g)) 4 (b) (-1)) 5 (b) (nI (0))))]) 0 rfl 5 0 rfl rfl dX0_takeTerm_20 (by omega) (by decide) rfl ?_
  rw [hQ]; exact z_vret C hr dX0_takeTerm_21 ⟨rfl, congrArg (fun x => [(shF a cI cZ, x)]) (by rfl)⟩
set_option maxHeartbeats 4000000 in
set_option maxRecDepth 100000 in
theorem c_X0_meetTerms (l : Launch) (D : va_G) (cI cZ cB cE : ClassId) (a : Nat → Nat) (σ : zF) (n : Nat) (hI : fl_Iv n σ) (x : Nat) (o : Nat) (hx : x < n) (ho : o < n) : zM l D (tyL cI cZ cB cE) yX0_meetTerms cX0_meetTerms 3 (some .boolean) (zR 1 22) [.ref (a 0), .int (nI (x)), .int (nI (o))] [(shF a cI cZ, σ)] 0 0 (fun r u => r = some (.int (zb (!decide (σ 3 x < σ 3 o)))) ∧ u = [(shF a cI cZ, (fl_meet σ x o))]) := by
  have hn3 := hI.n3
  have hn7 := hI.n7
  refine z_of (by decide) (Nat.le_of_ble_eq_true rfl) rfl ?_
  intro p e s m args below meth c A C hr hin
  obtain ⟨Q, hQ⟩ : ∃ Q, Q = MQ below (zQ (fun r u => r = some (.int (zb (!decide (σ 3 x < σ 3 o)))) ∧ u = [(shF a cI cZ, (fl_meet σ x o))]) D (tyL cI cZ cB cE) A) args s 0 0 A := ⟨_, rfl⟩
  rw [← hQ]
  refine z_aload_n C dX0_meetTerms_0 rfl 0 rfl ?_
  refine z_getR C wu_X0 0 rfl 0 rfl rfl 7 (by decide) rfl wf_X0_18 dX0_meetTerms_1 ?_
  refine z_iload_n C dX0_meetTerms_4 rfl 2 rfl ?_
  refine z_iald C 0 rfl 3 0 rfl rfl dX0_meetTerms_5 (by omega) (by decide) ?_
  refine z_aload_n C dX0_meetTerms_6 rfl 0 rfl ?_
  refine z_getR C wu_X0 0 rfl 0 rfl rfl 7 (by decide) rfl wf_X0_18 dX0_meetTerms_7 ?_
  refine z_iload_n C dX0_meetTerms_10 rfl 1 rfl ?_
  refine z_iald C 0 rfl 3 0 rfl rfl dX0_meetTerms_11 (by omega) (by decide) ?_
  refine z_icmp_le C (tgt := 28) dX0_meetTerms_12 (by decide) (fun c_12 => ?_) (fun c_12 => ?_)
  · refine z_aload_n C dX0_meetTerms_28 rfl 0 rfl ?_
    refine z_getR C wu_X0 0 rfl 0 rfl rfl 7 (by decide) rfl wf_X0_18 dX0_meetTerms_29 ?_
    refine z_iload_n C dX0_meetTerms_32 rfl 2 rfl ?_
    refine z_iald C 0 rfl 3 0 rfl rfl dX0_meetTerms_33 (by omega) (by decide) ?_
    refine z_aload_n C dX0_meetTerms_34 rfl 0 rfl ?_
    refine z_getR C wu_X0 0 rfl 0 rfl rfl 7 (by decide) rfl wf_X0_18 dX0_meetTerms_35 ?_
    refine z_iload_n C dX0_meetTerms_38 rfl 1 rfl ?_
    refine z_iald C 0 rfl 3 0 rfl rfl dX0_meetTerms_39 (by omega) (by decide) ?_
    refine z_icmp_ge C (tgt := 54) dX0_meetTerms_40 (by decide) (fun c_40 => ?_) (fun c_40 => ?_)
    · refine z_iconst C (v := nI (1)) (by decide) dX0_meetTerms_54 ?_
      rw [hQ]; exact z_zret C hr (by decide) dX0_meetTerms_55 ⟨z_b1 (by first | simp [Int32.not_lt.mpr c_12] | simp [Int32.not_le.mp c_12]), congrArg (fun x => [(shF a cI cZ, x)]) (by rw [fl_meet, if_neg (Int32.not_lt.mpr c_12), fl_hof, if_pos c_40])⟩
    · refine z_aload_n C dX0_meetTerms_43 rfl 0 rfl ?_
      refine z_iload_n C dX0_meetTerms_44 rfl 2 rfl ?_
      refine z_aload_n C dX0_meetTerms_45 rfl 0 rfl ?_
      refine z_getR C wu_X0 0 rfl 0 rfl rfl 7 (by decide) rfl wf_X0_18 dX0_meetTerms_46 ?_
      refine z_iload_n C dX0_meetTerms_49 rfl 1 rfl ?_
      refine z_iald C 0 rfl 3 0 rfl rfl dX0_meetTerms_50 (by omega) (by decide) ?_
      have hi_1 : fl_Iv n (fl_take σ o (σ 3 (x))) := fl_take_Iv hI _ _
      refine z_cV C (st' := []) (B' := [(shF a cI cZ, (fl_take σ o (σ 3 (x))))]) [true] rfl (c_X0_takeTerm l D cI cZ cB cE a σ n hI o (σ 3 (x)) (by omega)) wq_yX0_takeTerm wm_X0_125 ⟨wn_yX0_takeTerm, wo_yX0_takeTerm⟩ ⟨rfl, rfl, Nat.le_of_ble_eq_true rfl, Nat.le_of_ble_eq_true rfl⟩ 0 rfl 0 rfl rfl rfl rfl (Nat.le_of_ble_eq_true rfl) dX0_meetTerms_51 ⟨Nat.le_of_ble_eq_true rfl, Nat.le_of_ble_eq_true rfl⟩ rfl rfl ?_
      refine z_iconst C (v := nI (1)) (by decide) dX0_meetTerms_54 ?_
      rw [hQ]; exact z_zret C hr (by decide) dX0_meetTerms_55 ⟨z_b1 (by first | simp [Int32.not_lt.mpr c_12] | simp [Int32.not_le.mp c_12]), congrArg (fun x => [(shF a cI cZ, x)]) (by rw [fl_meet, if_neg (Int32.not_lt.mpr c_12), fl_hof, if_neg c_40])⟩
  · refine z_aload_n C dX0_meetTerms_15 rfl 0 rfl ?_
    refine z_iload_n C dX0_meetTerms_16 rfl 1 rfl ?_
    refine z_aload_n C dX0_meetTerms_17 rfl 0 rfl ?_
    refine z_getR C wu_X0 0 rfl 0 rfl rfl 7 (by decide) rfl wf_X0_18 dX0_meetTerms_18 ?_
    refine z_iload_n C dX0_meetTerms_21 rfl 2 rfl ?_
    refine z_iald C 0 rfl 3 0 rfl rfl dX0_meetTerms_22 (by omega) (by decide) ?_
    have hi_2 : fl_Iv n (fl_take σ x (σ 3 (o))) := fl_take_Iv hI _ _
    refine z_cV C (st' := []) (B' := [(shF a cI cZ, (fl_take σ x (σ 3 (o))))]) [true] rfl (c_X0_takeTerm l D cI cZ cB cE a σ n hI x (σ 3 (o)) (by omega)) wq_yX0_takeTerm wm_X0_125 ⟨wn_yX0_takeTerm, wo_yX0_takeTerm⟩ ⟨rfl, rfl, Nat.le_of_ble_eq_true rfl, Nat.le_of_ble_eq_true rfl⟩ 0 rfl 0 rfl rfl rfl rfl (Nat.le_of_ble_eq_true rfl) dX0_meetTerms_23 ⟨Nat.le_of_ble_eq_true rfl, Nat.le_of_ble_eq_true rfl⟩ rfl rfl ?_
    refine z_iconst C (v := nI (0)) (by decide) dX0_meetTerms_26 ?_
    rw [hQ]; exact z_zret C hr (by decide) dX0_meetTerms_27 ⟨z_b0 (by first | simp [Int32.not_lt.mpr c_12] | simp [Int32.not_le.mp c_12]), congrArg (fun x => [(shF a cI cZ, x)]) (by rw [fl_meet, if_pos (Int32.not_le.mp c_12)])⟩
set_option maxHeartbeats 4000000 in
set_option maxRecDepth 100000 in
theorem c_X0_givesVote (l : Launch) (D : va_G) (cI cZ cB cE : ClassId) (a : Nat → Nat) (σ : zF) (n : Nat) (hI : fl_Iv n σ) (b : Nat) (o : Nat) (hb : b < n) (ho : o < n) : zM l D (tyL cI cZ cB cE) yX0_givesVote cX0_givesVote 4 (some .boolean) (zR 2 45) [.ref (a 0), .int (nI (b)), .int (nI (o))] [(shF a cI cZ, σ)] 0 0 (fun r u => r = some (.int (zb (fl_votB σ b o))) ∧ u = [(shF a cI cZ, (fl_votS σ b o))]) := by
  have hn3 := hI.n3
  have hn7 := hI.n7
  refine z_of (by decide) (Nat.le_of_ble_eq_true rfl) rfl ?_
  intro p e s m args below meth c A C hr hin
  obtain ⟨Q, hQ⟩ : ∃ Q, Q = MQ below (zQ (fun r u => r = some (.int (zb (fl_votB σ b o))) ∧ u = [(shF a cI cZ, (fl_votS σ b o))]) D (tyL cI cZ cB cE) A) args s 0 0 A := ⟨_, rfl⟩
  rw [← hQ]
  refine z_aload_n C dX0_givesVote_0 rfl 0 rfl ?_
  refine z_iload_n C dX0_givesVote_1 rfl 1 rfl ?_
  refine z_iload_n C dX0_givesVote_2 rfl 2 rfl ?_
  have hi_1 : fl_Iv n (fl_meet σ b o) := fl_meet_Iv hI _ _
  refine z_cV C (st' := [.int (zb (!decide (σ 3 b < σ 3 o)))]) (B' := [(shF a cI cZ, (fl_meet σ b o))]) [true] rfl (c_X0_meetTerms l D cI cZ cB cE a σ n hI b o (by omega) (by omega)) wq_yX0_meetTerms wm_X0_109 ⟨wn_yX0_meetTerms, wo_yX0_meetTerms⟩ ⟨rfl, rfl, Nat.le_of_ble_eq_true rfl, Nat.le_of_ble_eq_true rfl⟩ 0 rfl 0 rfl rfl rfl rfl (Nat.le_of_ble_eq_true rfl) dX0_givesVote_3 ⟨Nat.le_of_ble_eq_true rfl, Nat.le_of_ble_eq_true rfl⟩ rfl rfl ?_
  refine z_if_neB C (tgt := 11) dX0_givesVote_6 (by decide) (fun c_6 => ?_) (fun c_6 => ?_)
  · have hg : ¬ σ 3 b < σ 3 o := fl_dk c_6
    rw [fl_meet_ge hg]
    have hi_h : fl_Iv n (fl_hof σ o (σ 3 b)) := fl_hof_Iv hI _ _
    generalize hT : fl_hof σ o (σ 3 b) = T at hi_h ⊢
    refine z_aload_n C dX0_givesVote_11 rfl 0 rfl ?_
    refine z_getR C wu_X0 0 rfl 0 rfl rfl 8 (by decide) rfl wf_X0_21 dX0_givesVote_12 ?_
    refine z_iload_n C dX0_givesVote_15 rfl 2 rfl ?_
    refine z_iald C 0 rfl 4 0 rfl rfl dX0_givesVote_16 (by omega) (by decide) ?_
    refine z_iconst C (v := -1) (by decide) dX0_givesVote_17 ?_
    refine z_icmp_eq C (tgt := 31) dX0_givesVote_18 (by decide) (fun c_18 => ?_) (fun c_18 => ?_)
    · refine z_iconst C (v := nI (1)) (by decide) dX0_givesVote_31 ?_
      refine z_goto C (tgt := 36) dX0_givesVote_32 (by decide) ?_
      refine z_istore_n C (L' := [(3, .int (nI (1))), (0, .ref (a 0)), (1, .int (nI (b))), (2, .int (nI (o)))]) dX0_givesVote_36 rfl (by decide) rfl ?_
      refine z_iload_n C dX0_givesVote_37 rfl 0 rfl ?_
      refine z_if_eqN C (tgt := 53) dX0_givesVote_38 (by decide) (by omega) (fun c_38 => ?_) (fun c_38 => ?_)
      · exact absurd c_38 (by omega)
      · refine z_aload_n C dX0_givesVote_41 rfl 1 rfl ?_
        refine z_getR C wu_X0 0 rfl 0 rfl rfl 12 (by decide) rfl wf_X0_37 dX0_givesVote_42 ?_
        refine z_iload_n C dX0_givesVote_45 rfl 2 rfl ?_
        refine z_iload_n C dX0_givesVote_46 rfl 3 rfl ?_
        refine z_cV C (st' := [.int (zb (fl_nw T b o))]) (B' := [(shF a cI cZ, T)]) [true] rfl (c_X1_asNew l D cI cZ cB cE a T n hi_h b o (by omega) (by omega)) wq_yX1_asNew wm_X0_112 ⟨wn_yX1_asNew, wo_yX1_asNew⟩ ⟨rfl, rfl, Nat.le_of_ble_eq_true rfl, Nat.le_of_ble_eq_true rfl⟩ 0 rfl 12 rfl rfl rfl rfl (Nat.le_of_ble_eq_true rfl) dX0_givesVote_47 ⟨Nat.le_of_ble_eq_true rfl, Nat.le_of_ble_eq_true rfl⟩ rfl rfl ?_
        refine z_if_neB C (tgt := 55) dX0_givesVote_50 (by decide) (fun c_50 => ?_) (fun c_50 => ?_)
        · refine z_aload_n C dX0_givesVote_55 rfl 1 rfl ?_
          refine z_getR C wu_X0 0 rfl 0 rfl rfl 8 (by decide) rfl wf_X0_21 dX0_givesVote_56 ?_
          refine z_iload_n C dX0_givesVote_59 rfl 3 rfl ?_
          refine z_iload_n C dX0_givesVote_60 rfl 2 rfl ?_
          refine z_iast C (B' := [(shF a cI cZ, (zU T 4 (o) (nI (b))))]) 0 rfl 4 0 rfl rfl dX0_givesVote_61 (by omega) (by decide) rfl ?_
          refine z_aload_n C dX0_givesVote_62 rfl 1 rfl ?_
          refine z_getR C wu_X0 0 rfl 0 rfl rfl 6 (by decide) rfl wf_X0_15 dX0_givesVote_63 ?_
          refine z_iload_n C dX0_givesVote_66 rfl 3 rfl ?_
          refine z_aload_n C dX0_givesVote_67 rfl 1 rfl ?_
          refine z_getR C wu_X0 0 rfl 0 rfl rfl 5 (by decide) rfl wf_X0_9 dX0_givesVote_68 ?_
          refine z_iload_n C dX0_givesVote_71 rfl 3 rfl ?_
          refine z_iald C 0 rfl 1 0 rfl rfl dX0_givesVote_72 (by omega) (by decide) ?_
          refine z_top (y := T 1 (o)) rfl ?_
          refine z_iast C (B' := [(shF a cI cZ, (zU (zU T 4 (o) (nI (b))) 2 (o) (T 1 (o))))]) 0 rfl 2 0 rfl rfl dX0_givesVote_73 (by omega) (by decide) rfl ?_
          refine z_iconst C (v := nI (1)) (by decide) dX0_givesVote_74 ?_
          rw [hQ]; exact z_zret C hr (by decide) dX0_givesVote_75 ⟨z_b1 (by first | (simp [fl_votB, fl_dn c_6]; done) | (simp [fl_votB, hg, hT, fl_vok, c_6, c_18, c_50])), congrArg (fun x => [(shF a cI cZ, x)]) (by first | (simp [fl_meet, fl_votS, fl_dn c_6]; done) | (simp [fl_votS, hg, hT, fl_votT, fl_vok, c_6, c_18, c_50]))⟩
        · refine z_iconst C (v := nI (0)) (by decide) dX0_givesVote_53 ?_
          rw [hQ]; exact z_zret C hr (by decide) dX0_givesVote_54 ⟨z_b0 (by first | (simp [fl_votB, fl_dn c_6]; done) | (simp [fl_votB, hg, hT, fl_vok, c_6, c_18, c_50])), congrArg (fun x => [(shF a cI cZ, x)]) (by first | (simp [fl_meet, fl_votS, fl_dn c_6]; done) | (simp [fl_votS, hg, hT, fl_votT, fl_vok, c_6, c_18, c_50]))⟩
    · refine z_aload_n C dX0_givesVote_21 rfl 0 rfl ?_
      refine z_getR C wu_X0 0 rfl 0 rfl rfl 8 (by decide) rfl wf_X0_21 dX0_givesVote_22 ?_
      refine z_iload_n C dX0_givesVote_25 rfl 2 rfl ?_
      refine z_iald C 0 rfl 4 0 rfl rfl dX0_givesVote_26 (by omega) (by decide) ?_
      refine z_iload_n C dX0_givesVote_27 rfl 1 rfl ?_
      refine z_icmp_ne C (tgt := 35) dX0_givesVote_28 (by decide) (fun c_28 => ?_) (fun c_28 => ?_)
      · refine z_iconst C (v := nI (0)) (by decide) dX0_givesVote_35 ?_
        refine z_istore_n C (L' := [(3, .int (nI (0))), (0, .ref (a 0)), (1, .int (nI (b))), (2, .int (nI (o)))]) dX0_givesVote_36 rfl (by decide) rfl ?_
        refine z_iload_n C dX0_givesVote_37 rfl 0 rfl ?_
        refine z_if_eqN C (tgt := 53) dX0_givesVote_38 (by decide) (by omega) (fun c_38 => ?_) (fun c_38 => ?_)
        · refine z_iconst C (v := nI (0)) (by decide) dX0_givesVote_53 ?_
          rw [hQ]; exact z_zret C hr (by decide) dX0_givesVote_54 ⟨z_b0 (by first | (simp [fl_votB, fl_dn c_6]; done) | (simp [fl_votB, hg, hT, fl_vok, c_6, c_18, c_28])), congrArg (fun x => [(shF a cI cZ, x)]) (by first | (simp [fl_meet, fl_votS, fl_dn c_6]; done) | (simp [fl_votS, hg, hT, fl_votT, fl_vok, c_6, c_18, c_28]))⟩
        · exact absurd c_38 (by omega)
      · refine z_iconst C (v := nI (1)) (by decide) dX0_givesVote_31 ?_
        refine z_goto C (tgt := 36) dX0_givesVote_32 (by decide) ?_
        refine z_istore_n C (L' := [(3, .int (nI (1))), (0, .ref (a 0)), (1, .int (nI (b))), (2, .int (nI (o)))]) dX0_givesVote_36 rfl (by decide) rfl ?_
        refine z_iload_n C dX0_givesVote_37 rfl 0 rfl ?_
        refine z_if_eqN C (tgt := 53) dX0_givesVote_38 (by decide) (by omega) (fun c_38 => ?_) (fun c_38 => ?_)
        · exact absurd c_38 (by omega)
        · refine z_aload_n C dX0_givesVote_41 rfl 1 rfl ?_
          refine z_getR C wu_X0 0 rfl 0 rfl rfl 12 (by decide) rfl wf_X0_37 dX0_givesVote_42 ?_
          refine z_iload_n C dX0_givesVote_45 rfl 2 rfl ?_
          refine z_iload_n C dX0_givesVote_46 rfl 3 rfl ?_
          refine z_cV C (st' := [.int (zb (fl_nw T b o))]) (B' := [(shF a cI cZ, T)]) [true] rfl (c_X1_asNew l D cI cZ cB cE a T n hi_h b o (by omega) (by omega)) wq_yX1_asNew wm_X0_112 ⟨wn_yX1_asNew, wo_yX1_asNew⟩ ⟨rfl, rfl, Nat.le_of_ble_eq_true rfl, Nat.le_of_ble_eq_true rfl⟩ 0 rfl 12 rfl rfl rfl rfl (Nat.le_of_ble_eq_true rfl) dX0_givesVote_47 ⟨Nat.le_of_ble_eq_true rfl, Nat.le_of_ble_eq_true rfl⟩ rfl rfl ?_
          refine z_if_neB C (tgt := 55) dX0_givesVote_50 (by decide) (fun c_50 => ?_) (fun c_50 => ?_)
          · refine z_aload_n C dX0_givesVote_55 rfl 1 rfl ?_
            refine z_getR C wu_X0 0 rfl 0 rfl rfl 8 (by decide) rfl wf_X0_21 dX0_givesVote_56 ?_
            refine z_iload_n C dX0_givesVote_59 rfl 3 rfl ?_
            refine z_iload_n C dX0_givesVote_60 rfl 2 rfl ?_
            refine z_iast C (B' := [(shF a cI cZ, (zU T 4 (o) (nI (b))))]) 0 rfl 4 0 rfl rfl dX0_givesVote_61 (by omega) (by decide) rfl ?_
            refine z_aload_n C dX0_givesVote_62 rfl 1 rfl ?_
            refine z_getR C wu_X0 0 rfl 0 rfl rfl 6 (by decide) rfl wf_X0_15 dX0_givesVote_63 ?_
            refine z_iload_n C dX0_givesVote_66 rfl 3 rfl ?_
            refine z_aload_n C dX0_givesVote_67 rfl 1 rfl ?_
            refine z_getR C wu_X0 0 rfl 0 rfl rfl 5 (by decide) rfl wf_X0_9 dX0_givesVote_68 ?_
            refine z_iload_n C dX0_givesVote_71 rfl 3 rfl ?_
            refine z_iald C 0 rfl 1 0 rfl rfl dX0_givesVote_72 (by omega) (by decide) ?_
            refine z_top (y := T 1 (o)) rfl ?_
            refine z_iast C (B' := [(shF a cI cZ, (zU (zU T 4 (o) (nI (b))) 2 (o) (T 1 (o))))]) 0 rfl 2 0 rfl rfl dX0_givesVote_73 (by omega) (by decide) rfl ?_
            refine z_iconst C (v := nI (1)) (by decide) dX0_givesVote_74 ?_
            rw [hQ]; exact z_zret C hr (by decide) dX0_givesVote_75 ⟨z_b1 (by first | (simp [fl_votB, fl_dn c_6]; done) | (simp [fl_votB, hg, hT, fl_vok, c_6, c_18, c_28, c_50])), congrArg (fun x => [(shF a cI cZ, x)]) (by first | (simp [fl_meet, fl_votS, fl_dn c_6]; done) | (simp [fl_votS, hg, hT, fl_votT, fl_vok, c_6, c_18, c_28, c_50]))⟩
          · refine z_iconst C (v := nI (0)) (by decide) dX0_givesVote_53 ?_
            rw [hQ]; exact z_zret C hr (by decide) dX0_givesVote_54 ⟨z_b0 (by first | (simp [fl_votB, fl_dn c_6]; done) | (simp [fl_votB, hg, hT, fl_vok, c_6, c_18, c_28, c_50])), congrArg (fun x => [(shF a cI cZ, x)]) (by first | (simp [fl_meet, fl_votS, fl_dn c_6]; done) | (simp [fl_votS, hg, hT, fl_votT, fl_vok, c_6, c_18, c_28, c_50]))⟩
  · refine z_iconst C (v := nI (0)) (by decide) dX0_givesVote_9 ?_
    rw [hQ]; exact z_zret C hr (by decide) dX0_givesVote_10 ⟨z_b0 (by first | (simp [fl_votB, fl_dn c_6]; done) | (simp [fl_votB, hg, hT, fl_vok, c_6])), congrArg (fun x => [(shF a cI cZ, x)]) (by first | (simp [fl_meet, fl_votS, fl_dn c_6]; done) | (simp [fl_votS, hg, hT, fl_votT, fl_vok, c_6]))⟩
set_option maxHeartbeats 4000000 in
set_option maxRecDepth 100000 in
theorem c_X0_stand (l : Launch) (D : va_G) (cI cZ cB cE : ClassId) (a : Nat → Nat) (σ : zF) (n : Nat) (hI : fl_Iv n σ) (b : Nat) (hb : b < n) : zM l D (tyL cI cZ cB cE) yX0_stand cX0_stand 4 none (zR 3 68) [.ref (a 0), .int (nI (b))] [(shF a cI cZ, σ)] 0 0 (fun r u => r = none ∧ u = [(shF a cI cZ, (fl_stand n σ b))]) := by
  have hn3 := hI.n3
  have hn7 := hI.n7
  refine z_of (by decide) (Nat.le_of_ble_eq_true rfl) rfl ?_
  intro p e s m args below meth c A C hr hin
  obtain ⟨Q, hQ⟩ : ∃ Q, Q = MQ below (zQ (fun r u => r = none ∧ u = [(shF a cI cZ, (fl_stand n σ b))]) D (tyL cI cZ cB cE) A) args s 0 0 A := ⟨_, rfl⟩
  rw [← hQ]
  refine z_aload_n C dX0_stand_0 rfl 0 rfl ?_
  refine z_dup C rfl dX0_stand_1 ?_
  refine z_getI C wu_X0 0 rfl 0 rfl rfl 2 (by decide) rfl wf_X0_57 dX0_stand_2 ?_
  refine z_iconst C (v := nI (1)) (by decide) dX0_stand_5 ?_
  refine z_iadd C dX0_stand_6 ?_
  refine z_putI C (B' := [(shF a cI cZ, (zU σ 0 (2) (σ 0 (2) + nI (1))))]) wu_X0 tyX0_ok nmX0 0 rfl 0 rfl rfl 2 (by decide) rfl wf_X0_57 rfl (by decide +kernel) dX0_stand_7 rfl ?_
  refine z_aload_n C dX0_stand_10 rfl 0 rfl ?_
  refine z_getR C wu_X0 0 rfl 0 rfl rfl 7 (by decide) rfl wf_X0_18 dX0_stand_11 ?_
  refine z_iload_n C dX0_stand_14 rfl 1 rfl ?_
  refine z_dup2 C rfl rfl dX0_stand_15 ?_
  refine z_iald C 0 rfl 3 0 rfl rfl dX0_stand_16 (by omega) (by decide) ?_
  refine z_top (y := σ 3 (b)) rfl ?_
  refine z_iconst C (v := nI (1)) (by decide) dX0_stand_17 ?_
  refine z_iadd C dX0_stand_18 ?_
  refine z_iast C (B' := [(shF a cI cZ, (zU (zU σ 0 (2) (σ 0 (2) + nI (1))) 3 (b) (σ 3 (b) + nI (1))))]) 0 rfl 3 0 rfl rfl dX0_stand_19 (by omega) (by decide) rfl ?_
  refine z_aload_n C dX0_stand_20 rfl 0 rfl ?_
  refine z_getR C wu_X0 0 rfl 0 rfl rfl 9 (by decide) rfl wf_X0_24 dX0_stand_21 ?_
  refine z_iload_n C dX0_stand_24 rfl 1 rfl ?_
  refine z_iconst C (v := nI (1)) (by decide) dX0_stand_25 ?_
  refine z_iast C (B' := [(shF a cI cZ, (zU (zU (zU σ 0 (2) (σ 0 (2) + nI (1))) 3 (b) (σ 3 (b) + nI (1))) 5 (b) (nI (1))))]) 0 rfl 5 0 rfl rfl dX0_stand_26 (by omega) (by decide) rfl ?_
  refine z_aload_n C dX0_stand_27 rfl 0 rfl ?_
  refine z_getR C wu_X0 0 rfl 0 rfl rfl 8 (by decide) rfl wf_X0_21 dX0_stand_28 ?_
  refine z_iload_n C dX0_stand_31 rfl 1 rfl ?_
  refine z_iload_n C dX0_stand_32 rfl 1 rfl ?_
  refine z_iast C (B' := [(shF a cI cZ, (zU (zU (zU (zU σ 0 (2) (σ 0 (2) + nI (1))) 3 (b) (σ 3 (b) + nI (1))) 5 (b) (nI (1))) 4 (b) (nI (b))))]) 0 rfl 4 0 rfl rfl dX0_stand_33 (by omega) (by decide) rfl ?_
  refine z_aload_n C dX0_stand_34 rfl 0 rfl ?_
  refine z_getR C wu_X0 0 rfl 0 rfl rfl 6 (by decide) rfl wf_X0_15 dX0_stand_35 ?_
  refine z_iload_n C dX0_stand_38 rfl 1 rfl ?_
  refine z_aload_n C dX0_stand_39 rfl 0 rfl ?_
  refine z_getR C wu_X0 0 rfl 0 rfl rfl 5 (by decide) rfl wf_X0_9 dX0_stand_40 ?_
  refine z_iload_n C dX0_stand_43 rfl 1 rfl ?_
  refine z_iald C 0 rfl 1 0 rfl rfl dX0_stand_44 (by omega) (by decide) ?_
  refine z_top (y := σ 1 (b)) rfl ?_
  refine z_iast C (B' := [(shF a cI cZ, (zU (zU (zU (zU (zU σ 0 (2) (σ 0 (2) + nI (1))) 3 (b) (σ 3 (b) + nI (1))) 5 (b) (nI (1))) 4 (b) (nI (b))) 2 (b) (σ 1 (b))))]) 0 rfl 2 0 rfl rfl dX0_stand_45 (by omega) (by decide) rfl ?_
  refine z_iconst C (v := nI (1)) (by decide) dX0_stand_46 ?_
  refine z_istore_n C (L' := [(2, .int (nI (1))), (0, .ref (a 0)), (1, .int (nI (b)))]) dX0_stand_47 rfl (by decide) rfl ?_
  refine z_iconst C (v := nI (0)) (by decide) dX0_stand_48 ?_
  refine z_istore_n C (L' := [(3, .int (nI (0))), (2, .int (nI (1))), (0, .ref (a 0)), (1, .int (nI (b)))]) dX0_stand_49 rfl (by decide) rfl ?_
  have loop_50 : ∀ (k_50 o : Nat) (v : Nat) (τ : zF), n < o + k_50 → o ≤ n → (hres : fl_ask n b o v τ = (fl_ask n b 0 1 (fl_std0 σ b))) → (hτ : fl_Iv n τ) → (hv : v ≤ o + 1) → zK p l e (zR 3 68) s m args below meth c D A 4 Q 0 0 50 [(3, .int (nI (o))), (2, .int (nI (v))), (1, .int (nI (b))), (0, .ref (a 0))] [] [(shF a cI cZ, τ)] := by
    intro k_50
    induction k_50 with
    | zero => intro o v τ m1_50 m2_50; exact absurd m1_50 (by omega)
    | succ k_50 ih_50 =>
      intro o v τ m1_50 m2_50 hres hτ hv
      refine z_iload_n C dX0_stand_50 rfl 0 rfl ?_
      refine z_aload_n C dX0_stand_51 rfl 3 rfl ?_
      refine z_getI C wu_X0 0 rfl 0 rfl rfl 0 (by decide) rfl wf_X0_50 dX0_stand_52 ?_
      refine z_top (hτ.n0 : _ = nI n) ?_
      refine z_icmp_geN C (tgt := 100) dX0_stand_55 (by decide) (by omega) (by omega) (fun c_55 => ?_) (fun c_55 => ?_)
      · refine z_aload_n C dX0_stand_100 rfl 3 rfl ?_
        refine z_getR C wu_X0 0 rfl 0 rfl rfl 9 (by decide) rfl wf_X0_24 dX0_stand_101 ?_
        refine z_iload_n C dX0_stand_104 rfl 2 rfl ?_
        refine z_iald C 0 rfl 5 0 rfl rfl dX0_stand_105 (by omega) (by decide) ?_
        refine z_iconst C (v := nI (1)) (by decide) dX0_stand_106 ?_
        refine z_icmp_ne C (tgt := 135) dX0_stand_107 (by decide) (fun c_107 => ?_) (fun c_107 => ?_)
        · rw [hQ]; exact z_vret C hr dX0_stand_135 ⟨rfl, congrArg (fun x => [(shF a cI cZ, x)]) (by rw [fl_stand, ← hres]; (first | rw [fl_ask_stop _ _ _ _ _ c_65] | rw [fl_ask_end _ _ _ _ _ c_55]); first | exact (if_pos ⟨c_107, of_decide_eq_true c_115⟩).symm | exact (if_neg (fun q => absurd q.2 (of_decide_eq_false c_115))).symm | exact (if_neg (fun q => c_107 q.1)).symm)⟩
        · refine z_aload_n C dX0_stand_110 rfl 3 rfl ?_
          refine z_iload_n C dX0_stand_111 rfl 1 rfl ?_
          refine z_cV C (st' := [.int (zb (decide (n / 2 < v)))]) (B' := [(shF a cI cZ, τ)]) [true] rfl (c_X0_isMoreThanHalf l D cI cZ cB cE a τ n hτ v (by omega)) wq_yX0_isMoreThanHalf wm_X0_106 ⟨wn_yX0_isMoreThanHalf, wo_yX0_isMoreThanHalf⟩ ⟨rfl, rfl, Nat.le_of_ble_eq_true rfl, Nat.le_of_ble_eq_true rfl⟩ 0 rfl 0 rfl rfl rfl rfl (Nat.le_of_ble_eq_true rfl) dX0_stand_112 ⟨Nat.le_of_ble_eq_true rfl, Nat.le_of_ble_eq_true rfl⟩ rfl rfl ?_
          refine z_if_eqB C (tgt := 135) dX0_stand_115 (by decide) (fun c_115 => ?_) (fun c_115 => ?_)
          · rw [hQ]; exact z_vret C hr dX0_stand_135 ⟨rfl, congrArg (fun x => [(shF a cI cZ, x)]) (by rw [fl_stand, ← hres]; (first | rw [fl_ask_stop _ _ _ _ _ c_65] | rw [fl_ask_end _ _ _ _ _ c_55]); first | exact (if_pos ⟨c_107, of_decide_eq_true c_115⟩).symm | exact (if_neg (fun q => absurd q.2 (of_decide_eq_false c_115))).symm | exact (if_neg (fun q => c_107 q.1)).symm)⟩
          · refine z_aload_n C dX0_stand_118 rfl 3 rfl ?_
            refine z_getR C wu_X0 0 rfl 0 rfl rfl 9 (by decide) rfl wf_X0_24 dX0_stand_119 ?_
            refine z_iload_n C dX0_stand_122 rfl 2 rfl ?_
            refine z_iconst C (v := nI (2)) (by decide) dX0_stand_123 ?_
            refine z_iast C (B' := [(shF a cI cZ, (zU τ 5 (b) (nI (2))))]) 0 rfl 5 0 rfl rfl dX0_stand_124 (by omega) (by decide) rfl ?_
            refine z_aload_n C dX0_stand_125 rfl 3 rfl ?_
            refine z_dup C rfl dX0_stand_126 ?_
            refine z_getI C wu_X0 0 rfl 0 rfl rfl 3 (by decide) rfl wf_X0_60 dX0_stand_127 ?_
            refine z_top (y := τ 0 (3)) rfl ?_
            refine z_iconst C (v := nI (1)) (by decide) dX0_stand_130 ?_
            refine z_iadd C dX0_stand_131 ?_
            refine z_putI C (B' := [(shF a cI cZ, (zU (zU τ 5 (b) (nI (2))) 0 (3) (τ 0 (3) + nI (1))))]) wu_X0 tyX0_ok nmX0 0 rfl 0 rfl rfl 3 (by decide) rfl wf_X0_60 rfl (by decide +kernel) dX0_stand_132 rfl ?_
            rw [hQ]; exact z_vret C hr dX0_stand_135 ⟨rfl, congrArg (fun x => [(shF a cI cZ, x)]) (by rw [fl_stand, ← hres]; (first | rw [fl_ask_stop _ _ _ _ _ c_65] | rw [fl_ask_end _ _ _ _ _ c_55]); first | exact (if_pos ⟨c_107, of_decide_eq_true c_115⟩).symm | exact (if_neg (fun q => absurd q.2 (of_decide_eq_false c_115))).symm | exact (if_neg (fun q => c_107 q.1)).symm)⟩
      · refine z_aload_n C dX0_stand_58 rfl 3 rfl ?_
        refine z_getR C wu_X0 0 rfl 0 rfl rfl 9 (by decide) rfl wf_X0_24 dX0_stand_59 ?_
        refine z_iload_n C dX0_stand_62 rfl 2 rfl ?_
        refine z_iald C 0 rfl 5 0 rfl rfl dX0_stand_63 (by omega) (by decide) ?_
        refine z_iconst C (v := nI (1)) (by decide) dX0_stand_64 ?_
        refine z_icmp_ne C (tgt := 100) dX0_stand_65 (by decide) (fun c_65 => ?_) (fun c_65 => ?_)
        · refine z_aload_n C dX0_stand_100 rfl 3 rfl ?_
          refine z_getR C wu_X0 0 rfl 0 rfl rfl 9 (by decide) rfl wf_X0_24 dX0_stand_101 ?_
          refine z_iload_n C dX0_stand_104 rfl 2 rfl ?_
          refine z_iald C 0 rfl 5 0 rfl rfl dX0_stand_105 (by omega) (by decide) ?_
          refine z_iconst C (v := nI (1)) (by decide) dX0_stand_106 ?_
          refine z_icmp_ne C (tgt := 135) dX0_stand_107 (by decide) (fun c_107 => ?_) (fun c_107 => ?_)
          · rw [hQ]; exact z_vret C hr dX0_stand_135 ⟨rfl, congrArg (fun x => [(shF a cI cZ, x)]) (by rw [fl_stand, ← hres]; (first | rw [fl_ask_stop _ _ _ _ _ c_65] | rw [fl_ask_end _ _ _ _ _ c_55]); first | exact (if_pos ⟨c_107, of_decide_eq_true c_115⟩).symm | exact (if_neg (fun q => absurd q.2 (of_decide_eq_false c_115))).symm | exact (if_neg (fun q => c_107 q.1)).symm)⟩
          · refine z_aload_n C dX0_stand_110 rfl 3 rfl ?_
            refine z_iload_n C dX0_stand_111 rfl 1 rfl ?_
            refine z_cV C (st' := [.int (zb (decide (n / 2 < v)))]) (B' := [(shF a cI cZ, τ)]) [true] rfl (c_X0_isMoreThanHalf l D cI cZ cB cE a τ n hτ v (by omega)) wq_yX0_isMoreThanHalf wm_X0_106 ⟨wn_yX0_isMoreThanHalf, wo_yX0_isMoreThanHalf⟩ ⟨rfl, rfl, Nat.le_of_ble_eq_true rfl, Nat.le_of_ble_eq_true rfl⟩ 0 rfl 0 rfl rfl rfl rfl (Nat.le_of_ble_eq_true rfl) dX0_stand_112 ⟨Nat.le_of_ble_eq_true rfl, Nat.le_of_ble_eq_true rfl⟩ rfl rfl ?_
            refine z_if_eqB C (tgt := 135) dX0_stand_115 (by decide) (fun c_115 => ?_) (fun c_115 => ?_)
            · rw [hQ]; exact z_vret C hr dX0_stand_135 ⟨rfl, congrArg (fun x => [(shF a cI cZ, x)]) (by rw [fl_stand, ← hres]; (first | rw [fl_ask_stop _ _ _ _ _ c_65] | rw [fl_ask_end _ _ _ _ _ c_55]); first | exact (if_pos ⟨c_107, of_decide_eq_true c_115⟩).symm | exact (if_neg (fun q => absurd q.2 (of_decide_eq_false c_115))).symm | exact (if_neg (fun q => c_107 q.1)).symm)⟩
            · refine z_aload_n C dX0_stand_118 rfl 3 rfl ?_
              refine z_getR C wu_X0 0 rfl 0 rfl rfl 9 (by decide) rfl wf_X0_24 dX0_stand_119 ?_
              refine z_iload_n C dX0_stand_122 rfl 2 rfl ?_
              refine z_iconst C (v := nI (2)) (by decide) dX0_stand_123 ?_
              refine z_iast C (B' := [(shF a cI cZ, (zU τ 5 (b) (nI (2))))]) 0 rfl 5 0 rfl rfl dX0_stand_124 (by omega) (by decide) rfl ?_
              refine z_aload_n C dX0_stand_125 rfl 3 rfl ?_
              refine z_dup C rfl dX0_stand_126 ?_
              refine z_getI C wu_X0 0 rfl 0 rfl rfl 3 (by decide) rfl wf_X0_60 dX0_stand_127 ?_
              refine z_top (y := τ 0 (3)) rfl ?_
              refine z_iconst C (v := nI (1)) (by decide) dX0_stand_130 ?_
              refine z_iadd C dX0_stand_131 ?_
              refine z_putI C (B' := [(shF a cI cZ, (zU (zU τ 5 (b) (nI (2))) 0 (3) (τ 0 (3) + nI (1))))]) wu_X0 tyX0_ok nmX0 0 rfl 0 rfl rfl 3 (by decide) rfl wf_X0_60 rfl (by decide +kernel) dX0_stand_132 rfl ?_
              rw [hQ]; exact z_vret C hr dX0_stand_135 ⟨rfl, congrArg (fun x => [(shF a cI cZ, x)]) (by rw [fl_stand, ← hres]; (first | rw [fl_ask_stop _ _ _ _ _ c_65] | rw [fl_ask_end _ _ _ _ _ c_55]); first | exact (if_pos ⟨c_107, of_decide_eq_true c_115⟩).symm | exact (if_neg (fun q => absurd q.2 (of_decide_eq_false c_115))).symm | exact (if_neg (fun q => c_107 q.1)).symm)⟩
        · refine z_iload_n C dX0_stand_68 rfl 0 rfl ?_
          refine z_iload_n C dX0_stand_69 rfl 2 rfl ?_
          refine z_icmp_eqN C (tgt := 94) dX0_stand_70 (by decide) (by omega) (by omega) (fun c_70 => ?_) (fun c_70 => ?_)
          · refine z_iinc C (L' := [(3, .int (nI (o + 1))), (2, .int (nI (v))), (1, .int (nI (b))), (0, .ref (a 0))]) dX0_stand_94 0 rfl (z_inc1 _) (by decide) rfl ?_
            refine z_goto C (tgt := 50) dX0_stand_97 (by decide) ?_
            refine z_sub (L' := [(3, .int (nI (o + 1))), (2, .int (nI (v))), (1, .int (nI (b))), (0, .ref (a 0))]) [0, 1, 2, 3] rfl ?_
            exact ih_50 (o + 1) _ _ (by omega) (by omega) (Eq.trans (by rw [fl_ask_go n b o v τ (by omega) c_65]; simp [c_70]) hres) hτ (by omega)
          · refine z_aload_n C dX0_stand_73 rfl 3 rfl ?_
            refine z_iload_n C dX0_stand_74 rfl 2 rfl ?_
            refine z_iload_n C dX0_stand_75 rfl 0 rfl ?_
            refine z_cV C (st' := [.int (zb (fl_hear τ b o))]) (B' := [(shF a cI cZ, τ)]) [true] rfl (c_X0_hear l D cI cZ cB cE a τ n hτ b o (by omega) (by omega)) wq_yX0_hear wm_X0_99 ⟨wn_yX0_hear, wo_yX0_hear⟩ ⟨rfl, rfl, Nat.le_of_ble_eq_true rfl, Nat.le_of_ble_eq_true rfl⟩ 0 rfl 0 rfl rfl rfl rfl (Nat.le_of_ble_eq_true rfl) dX0_stand_76 ⟨Nat.le_of_ble_eq_true rfl, Nat.le_of_ble_eq_true rfl⟩ rfl rfl ?_
            refine z_if_eqB C (tgt := 94) dX0_stand_79 (by decide) (fun c_79 => ?_) (fun c_79 => ?_)
            · refine z_iinc C (L' := [(3, .int (nI (o + 1))), (2, .int (nI (v))), (1, .int (nI (b))), (0, .ref (a 0))]) dX0_stand_94 0 rfl (z_inc1 _) (by decide) rfl ?_
              refine z_goto C (tgt := 50) dX0_stand_97 (by decide) ?_
              refine z_sub (L' := [(3, .int (nI (o + 1))), (2, .int (nI (v))), (1, .int (nI (b))), (0, .ref (a 0))]) [0, 1, 2, 3] rfl ?_
              exact ih_50 (o + 1) _ _ (by omega) (by omega) (Eq.trans (by rw [fl_ask_go n b o v τ (by omega) c_65]; simp [c_70, c_79]) hres) hτ (by omega)
            · refine z_aload_n C dX0_stand_82 rfl 3 rfl ?_
              refine z_iload_n C dX0_stand_83 rfl 2 rfl ?_
              refine z_iload_n C dX0_stand_84 rfl 0 rfl ?_
              have hi_1 : fl_Iv n (fl_votS τ b o) := fl_votS_Iv hτ _ _
              refine z_cV C (st' := [.int (zb (fl_votB τ b o))]) (B' := [(shF a cI cZ, (fl_votS τ b o))]) [true] rfl (c_X0_givesVote l D cI cZ cB cE a τ n hτ b o (by omega) (by omega)) wq_yX0_givesVote wm_X0_103 ⟨wn_yX0_givesVote, wo_yX0_givesVote⟩ ⟨rfl, rfl, Nat.le_of_ble_eq_true rfl, Nat.le_of_ble_eq_true rfl⟩ 0 rfl 0 rfl rfl rfl rfl (Nat.le_of_ble_eq_true rfl) dX0_stand_85 ⟨Nat.le_of_ble_eq_true rfl, Nat.le_of_ble_eq_true rfl⟩ rfl rfl ?_
              refine z_if_eqB C (tgt := 94) dX0_stand_88 (by decide) (fun c_88 => ?_) (fun c_88 => ?_)
              · refine z_iinc C (L' := [(3, .int (nI (o + 1))), (2, .int (nI (v))), (1, .int (nI (b))), (0, .ref (a 0))]) dX0_stand_94 0 rfl (z_inc1 _) (by decide) rfl ?_
                refine z_goto C (tgt := 50) dX0_stand_97 (by decide) ?_
                refine z_sub (L' := [(3, .int (nI (o + 1))), (2, .int (nI (v))), (1, .int (nI (b))), (0, .ref (a 0))]) [0, 1, 2, 3] rfl ?_
                exact ih_50 (o + 1) _ _ (by omega) (by omega) (Eq.trans (by rw [fl_ask_go n b o v τ (by omega) c_65]; simp [c_70, c_79, c_88]) hres) hi_1 (by omega)
              · refine z_iinc C (L' := [(2, .int (nI (v + 1))), (3, .int (nI (o))), (1, .int (nI (b))), (0, .ref (a 0))]) dX0_stand_91 1 rfl (z_inc1 _) (by decide) rfl ?_
                refine z_iinc C (L' := [(3, .int (nI (o + 1))), (2, .int (nI (v + 1))), (1, .int (nI (b))), (0, .ref (a 0))]) dX0_stand_94 1 rfl (z_inc1 _) (by decide) rfl ?_
                refine z_goto C (tgt := 50) dX0_stand_97 (by decide) ?_
                refine z_sub (L' := [(3, .int (nI (o + 1))), (2, .int (nI (v + 1))), (1, .int (nI (b))), (0, .ref (a 0))]) [0, 1, 2, 3] rfl ?_
                exact ih_50 (o + 1) _ _ (by omega) (by omega) (Eq.trans (by rw [fl_ask_go n b o v τ (by omega) c_65]; simp [c_70, c_79, c_88]) hres) hi_1 (by omega)
  refine z_sub (L' := [(3, .int (nI (0))), (2, .int (nI (1))), (1, .int (nI (b))), (0, .ref (a 0))]) [0, 1, 3, 2] rfl ?_
  exact loop_50 (n + 1) 0 _ _ (by omega) (by omega) rfl (fl_std0_Iv hI b) (by omega)
set_option maxHeartbeats 4000000 in
set_option maxRecDepth 100000 in
theorem c_X0_tell (l : Launch) (D : va_G) (cI cZ cB cE : ClassId) (a : Nat → Nat) (σ : zF) (n : Nat) (hI : fl_Iv n σ) (t : Nat) (o : Nat) (ht : t < n) (ho : o < n) : zM l D (tyL cI cZ cB cE) yX0_tell cX0_tell 3 none (zR 3 70) [.ref (a 0), .int (nI (t)), .int (nI (o))] [(shF a cI cZ, σ)] 0 0 (fun r u => r = none ∧ u = [(shF a cI cZ, (fl_tel σ t o))]) := by
  have hn3 := hI.n3
  have hn7 := hI.n7
  refine z_of (by decide) (Nat.le_of_ble_eq_true rfl) rfl ?_
  intro p e s m args below meth c A C hr hin
  obtain ⟨Q, hQ⟩ : ∃ Q, Q = MQ below (zQ (fun r u => r = none ∧ u = [(shF a cI cZ, (fl_tel σ t o))]) D (tyL cI cZ cB cE) A) args s 0 0 A := ⟨_, rfl⟩
  rw [← hQ]
  refine z_aload_n C dX0_tell_0 rfl 0 rfl ?_
  refine z_iload_n C dX0_tell_1 rfl 1 rfl ?_
  refine z_iload_n C dX0_tell_2 rfl 2 rfl ?_
  have hi_1 : fl_Iv n (fl_meet σ t o) := fl_meet_Iv hI _ _
  refine z_cV C (st' := [.int (zb (!decide (σ 3 t < σ 3 o)))]) (B' := [(shF a cI cZ, (fl_meet σ t o))]) [true] rfl (c_X0_meetTerms l D cI cZ cB cE a σ n hI t o (by omega) (by omega)) wq_yX0_meetTerms wm_X0_109 ⟨wn_yX0_meetTerms, wo_yX0_meetTerms⟩ ⟨rfl, rfl, Nat.le_of_ble_eq_true rfl, Nat.le_of_ble_eq_true rfl⟩ 0 rfl 0 rfl rfl rfl rfl (Nat.le_of_ble_eq_true rfl) dX0_tell_3 ⟨Nat.le_of_ble_eq_true rfl, Nat.le_of_ble_eq_true rfl⟩ rfl rfl ?_
  refine z_if_neB C (tgt := 10) dX0_tell_6 (by decide) (fun c_6 => ?_) (fun c_6 => ?_)
  · have hg : ¬ σ 3 t < σ 3 o := fl_dk c_6
    rw [fl_meet_ge hg]
    have hi_h : fl_Iv n (fl_hof σ o (σ 3 t)) := fl_hof_Iv hI _ _
    generalize hT : fl_hof σ o (σ 3 t) = T at hi_h ⊢
    refine z_aload_n C dX0_tell_10 rfl 0 rfl ?_
    refine z_getR C wu_X0 0 rfl 0 rfl rfl 9 (by decide) rfl wf_X0_24 dX0_tell_11 ?_
    refine z_iload_n C dX0_tell_14 rfl 2 rfl ?_
    refine z_iconst C (v := nI (0)) (by decide) dX0_tell_15 ?_
    refine z_iast C (B' := [(shF a cI cZ, (zU T 5 (o) (nI (0))))]) 0 rfl 5 0 rfl rfl dX0_tell_16 (by omega) (by decide) rfl ?_
    refine z_aload_n C dX0_tell_17 rfl 0 rfl ?_
    refine z_getR C wu_X0 0 rfl 0 rfl rfl 6 (by decide) rfl wf_X0_15 dX0_tell_18 ?_
    refine z_iload_n C dX0_tell_21 rfl 2 rfl ?_
    refine z_aload_n C dX0_tell_22 rfl 0 rfl ?_
    refine z_getR C wu_X0 0 rfl 0 rfl rfl 5 (by decide) rfl wf_X0_9 dX0_tell_23 ?_
    refine z_iload_n C dX0_tell_26 rfl 2 rfl ?_
    refine z_iald C 0 rfl 1 0 rfl rfl dX0_tell_27 (by omega) (by decide) ?_
    refine z_top (y := T 1 (o)) rfl ?_
    refine z_iast C (B' := [(shF a cI cZ, (zU (zU T 5 (o) (nI (0))) 2 (o) (T 1 (o))))]) 0 rfl 2 0 rfl rfl dX0_tell_28 (by omega) (by decide) rfl ?_
    refine z_eq (B' := [(shF a cI cZ, fl_got T o)]) rfl ?_
    have hi_g := fl_got_Iv hi_h o
    refine z_aload_n C dX0_tell_29 rfl 0 rfl ?_
    refine z_getR C wu_X0 0 rfl 0 rfl rfl 12 (by decide) rfl wf_X0_37 dX0_tell_30 ?_
    refine z_iload_n C dX0_tell_33 rfl 1 rfl ?_
    refine z_iload_n C dX0_tell_34 rfl 2 rfl ?_
    have hi_2 : fl_Iv n (fl_mend ((fl_got T o)) t o) := fl_mend_Iv hi_g (by omega) (by omega)
    refine z_cV C (st' := [.int (zb (fl_cut ((fl_got T o)) t o))]) (B' := [(shF a cI cZ, (fl_mend ((fl_got T o)) t o))]) [true] rfl (c_X1_mend l D cI cZ cB cE a ((fl_got T o)) n hi_g t o (by omega) (by omega)) wq_yX1_mend wm_X0_119 ⟨wn_yX1_mend, wo_yX1_mend⟩ ⟨rfl, rfl, Nat.le_of_ble_eq_true rfl, Nat.le_of_ble_eq_true rfl⟩ 0 rfl 12 rfl rfl rfl rfl (Nat.le_of_ble_eq_true rfl) dX0_tell_35 ⟨Nat.le_of_ble_eq_true rfl, Nat.le_of_ble_eq_true rfl⟩ rfl rfl ?_
    refine z_if_eqB C (tgt := 51) dX0_tell_38 (by decide) (fun c_38 => ?_) (fun c_38 => ?_)
    · refine z_aload_n C dX0_tell_51 rfl 0 rfl ?_
      refine z_getR C wu_X0 0 rfl 0 rfl rfl 12 (by decide) rfl wf_X0_37 dX0_tell_52 ?_
      refine z_iload_n C dX0_tell_55 rfl 1 rfl ?_
      refine z_iload_n C dX0_tell_56 rfl 2 rfl ?_
      have hi_3 : fl_Iv n (fl_lrn ((fl_mend ((fl_got T o)) t o)) t o) := fl_lrn_Iv hi_2 (by omega) (by omega)
      refine z_cV C (st' := []) (B' := [(shF a cI cZ, (fl_lrn ((fl_mend ((fl_got T o)) t o)) t o))]) [true] rfl (c_X1_learnCommitted l D cI cZ cB cE a ((fl_mend ((fl_got T o)) t o)) n hi_2 t o (by omega) (by omega)) wq_yX1_learnCommitted wm_X0_122 ⟨wn_yX1_learnCommitted, wo_yX1_learnCommitted⟩ ⟨rfl, rfl, Nat.le_of_ble_eq_true rfl, Nat.le_of_ble_eq_true rfl⟩ 0 rfl 12 rfl rfl rfl rfl (Nat.le_of_ble_eq_true rfl) dX0_tell_57 ⟨Nat.le_of_ble_eq_true rfl, Nat.le_of_ble_eq_true rfl⟩ rfl rfl ?_
      rw [hQ]; exact z_vret C hr dX0_tell_60 ⟨rfl, congrArg (fun x => [(shF a cI cZ, x)]) (by rw [fl_tel, if_neg hg, hT, fl_telT, c_38, fl_lose_f])⟩
    · refine z_aload_n C dX0_tell_41 rfl 0 rfl ?_
      refine z_dup C rfl dX0_tell_42 ?_
      refine z_getI C wu_X0 0 rfl 0 rfl rfl 4 (by decide) rfl wf_X0_63 dX0_tell_43 ?_
      refine z_iconst C (v := nI (1)) (by decide) dX0_tell_46 ?_
      refine z_iadd C dX0_tell_47 ?_
      refine z_putI C (B' := [(shF a cI cZ, (zU (fl_mend ((fl_got T o)) t o) 0 (4) ((fl_mend ((fl_got T o)) t o) 0 (4) + nI (1))))]) wu_X0 tyX0_ok nmX0 0 rfl 0 rfl rfl 4 (by decide) rfl wf_X0_63 rfl (by decide +kernel) dX0_tell_48 rfl ?_
      refine z_aload_n C dX0_tell_51 rfl 0 rfl ?_
      refine z_getR C wu_X0 0 rfl 0 rfl rfl 12 (by decide) rfl wf_X0_37 dX0_tell_52 ?_
      refine z_iload_n C dX0_tell_55 rfl 1 rfl ?_
      refine z_iload_n C dX0_tell_56 rfl 2 rfl ?_
      have hi_4 : fl_Iv n (zU (fl_mend ((fl_got T o)) t o) 0 (4) ((fl_mend ((fl_got T o)) t o) 0 (4) + nI (1))) := (hi_2.U0 (4) ((fl_mend ((fl_got T o)) t o) 0 (4) + nI (1)) (by decide))
      have hi_5 : fl_Iv n (fl_lrn ((zU (fl_mend ((fl_got T o)) t o) 0 (4) ((fl_mend ((fl_got T o)) t o) 0 (4) + nI (1)))) t o) := fl_lrn_Iv hi_4 (by omega) (by omega)
      refine z_cV C (st' := []) (B' := [(shF a cI cZ, (fl_lrn ((zU (fl_mend ((fl_got T o)) t o) 0 (4) ((fl_mend ((fl_got T o)) t o) 0 (4) + nI (1)))) t o))]) [true] rfl (c_X1_learnCommitted l D cI cZ cB cE a ((zU (fl_mend ((fl_got T o)) t o) 0 (4) ((fl_mend ((fl_got T o)) t o) 0 (4) + nI (1)))) n hi_4 t o (by omega) (by omega)) wq_yX1_learnCommitted wm_X0_122 ⟨wn_yX1_learnCommitted, wo_yX1_learnCommitted⟩ ⟨rfl, rfl, Nat.le_of_ble_eq_true rfl, Nat.le_of_ble_eq_true rfl⟩ 0 rfl 12 rfl rfl rfl rfl (Nat.le_of_ble_eq_true rfl) dX0_tell_57 ⟨Nat.le_of_ble_eq_true rfl, Nat.le_of_ble_eq_true rfl⟩ rfl rfl ?_
      rw [hQ]; exact z_vret C hr dX0_tell_60 ⟨rfl, congrArg (fun x => [(shF a cI cZ, x)]) (by rw [fl_tel, if_neg hg, hT, fl_telT, c_38, fl_lose_t])⟩
  · rw [hQ]; exact z_vret C hr dX0_tell_9 ⟨rfl, congrArg (fun x => [(shF a cI cZ, x)]) (by rw [fl_meet_lt (fl_dn c_6), fl_tel, if_pos (fl_dn c_6)])⟩
set_option maxHeartbeats 4000000 in
set_option maxRecDepth 100000 in
theorem c_X0_tellOthers (l : Launch) (D : va_G) (cI cZ cB cE : ClassId) (a : Nat → Nat) (σ : zF) (n : Nat) (hI : fl_Iv n σ) (t : Nat) (ht : t < n) : zM l D (tyL cI cZ cB cE) yX0_tellOthers cX0_tellOthers 3 none (zR 4 92) [.ref (a 0), .int (nI (t))] [(shF a cI cZ, σ)] 0 0 (fun r u => r = none ∧ u = [(shF a cI cZ, (fl_tells n t 0 σ))]) := by
  have hn3 := hI.n3
  have hn7 := hI.n7
  refine z_of (by decide) (Nat.le_of_ble_eq_true rfl) rfl ?_
  intro p e s m args below meth c A C hr hin
  obtain ⟨Q, hQ⟩ : ∃ Q, Q = MQ below (zQ (fun r u => r = none ∧ u = [(shF a cI cZ, (fl_tells n t 0 σ))]) D (tyL cI cZ cB cE) A) args s 0 0 A := ⟨_, rfl⟩
  rw [← hQ]
  refine z_iconst C (v := nI (0)) (by decide) dX0_tellOthers_0 ?_
  refine z_istore_n C (L' := [(2, .int (nI (0))), (0, .ref (a 0)), (1, .int (nI (t)))]) dX0_tellOthers_1 rfl (by decide) rfl ?_
  have loop_2 : ∀ (k_2 o : Nat) (τ : zF), n < o + k_2 → o ≤ n → (hres : fl_tells n t o τ = fl_tells n t 0 σ) → (hτ : fl_Iv n τ) → zK p l e (zR 4 92) s m args below meth c D A 3 Q 0 0 2 [(2, .int (nI (o))), (1, .int (nI (t))), (0, .ref (a 0))] [] [(shF a cI cZ, τ)] := by
    intro k_2
    induction k_2 with
    | zero => intro o τ m1_2 m2_2; exact absurd m1_2 (by omega)
    | succ k_2 ih_2 =>
      intro o τ m1_2 m2_2 hres hτ
      refine z_iload_n C dX0_tellOthers_2 rfl 0 rfl ?_
      refine z_aload_n C dX0_tellOthers_3 rfl 2 rfl ?_
      refine z_getI C wu_X0 0 rfl 0 rfl rfl 0 (by decide) rfl wf_X0_50 dX0_tellOthers_4 ?_
      refine z_top (hτ.n0 : _ = nI n) ?_
      refine z_icmp_geN C (tgt := 46) dX0_tellOthers_7 (by decide) (by omega) (by omega) (fun c_7 => ?_) (fun c_7 => ?_)
      · rw [hQ]; exact z_vret C hr dX0_tellOthers_46 ⟨rfl, congrArg (fun x => [(shF a cI cZ, x)]) (by rw [← hres]; (first | rw [fl_tells_stop _ _ _ _ c_17] | rw [fl_tells_end _ _ _ _ c_7]))⟩
      · refine z_aload_n C dX0_tellOthers_10 rfl 2 rfl ?_
        refine z_getR C wu_X0 0 rfl 0 rfl rfl 9 (by decide) rfl wf_X0_24 dX0_tellOthers_11 ?_
        refine z_iload_n C dX0_tellOthers_14 rfl 1 rfl ?_
        refine z_iald C 0 rfl 5 0 rfl rfl dX0_tellOthers_15 (by omega) (by decide) ?_
        refine z_iconst C (v := nI (2)) (by decide) dX0_tellOthers_16 ?_
        refine z_icmp_ne C (tgt := 46) dX0_tellOthers_17 (by decide) (fun c_17 => ?_) (fun c_17 => ?_)
        · rw [hQ]; exact z_vret C hr dX0_tellOthers_46 ⟨rfl, congrArg (fun x => [(shF a cI cZ, x)]) (by rw [← hres]; (first | rw [fl_tells_stop _ _ _ _ c_17] | rw [fl_tells_end _ _ _ _ c_7]))⟩
        · refine z_iload_n C dX0_tellOthers_20 rfl 0 rfl ?_
          refine z_iload_n C dX0_tellOthers_21 rfl 1 rfl ?_
          refine z_icmp_eqN C (tgt := 40) dX0_tellOthers_22 (by decide) (by omega) (by omega) (fun c_22 => ?_) (fun c_22 => ?_)
          · refine z_iinc C (L' := [(2, .int (nI (o + 1))), (1, .int (nI (t))), (0, .ref (a 0))]) dX0_tellOthers_40 0 rfl (z_inc1 _) (by decide) rfl ?_
            refine z_goto C (tgt := 2) dX0_tellOthers_43 (by decide) ?_
            refine z_sub (L' := [(2, .int (nI (o + 1))), (1, .int (nI (t))), (0, .ref (a 0))]) [0, 1, 2] rfl ?_
            exact ih_2 (o + 1) _ (by omega) (by omega) (Eq.trans (by rw [fl_tells_go n t o τ (by omega) c_17]; simp [c_22]) hres) hτ
          · refine z_aload_n C dX0_tellOthers_25 rfl 2 rfl ?_
            refine z_iload_n C dX0_tellOthers_26 rfl 1 rfl ?_
            refine z_iload_n C dX0_tellOthers_27 rfl 0 rfl ?_
            refine z_cV C (st' := [.int (zb (fl_hear τ t o))]) (B' := [(shF a cI cZ, τ)]) [true] rfl (c_X0_hear l D cI cZ cB cE a τ n hτ t o (by omega) (by omega)) wq_yX0_hear wm_X0_99 ⟨wn_yX0_hear, wo_yX0_hear⟩ ⟨rfl, rfl, Nat.le_of_ble_eq_true rfl, Nat.le_of_ble_eq_true rfl⟩ 0 rfl 0 rfl rfl rfl rfl (Nat.le_of_ble_eq_true rfl) dX0_tellOthers_28 ⟨Nat.le_of_ble_eq_true rfl, Nat.le_of_ble_eq_true rfl⟩ rfl rfl ?_
            refine z_if_eqB C (tgt := 40) dX0_tellOthers_31 (by decide) (fun c_31 => ?_) (fun c_31 => ?_)
            · refine z_iinc C (L' := [(2, .int (nI (o + 1))), (1, .int (nI (t))), (0, .ref (a 0))]) dX0_tellOthers_40 0 rfl (z_inc1 _) (by decide) rfl ?_
              refine z_goto C (tgt := 2) dX0_tellOthers_43 (by decide) ?_
              refine z_sub (L' := [(2, .int (nI (o + 1))), (1, .int (nI (t))), (0, .ref (a 0))]) [0, 1, 2] rfl ?_
              exact ih_2 (o + 1) _ (by omega) (by omega) (Eq.trans (by rw [fl_tells_go n t o τ (by omega) c_17]; simp [c_22, c_31]) hres) hτ
            · refine z_aload_n C dX0_tellOthers_34 rfl 2 rfl ?_
              refine z_iload_n C dX0_tellOthers_35 rfl 1 rfl ?_
              refine z_iload_n C dX0_tellOthers_36 rfl 0 rfl ?_
              have hi_1 : fl_Iv n (fl_tel τ t o) := fl_tel_Iv hτ (by omega) (by omega)
              refine z_cV C (st' := []) (B' := [(shF a cI cZ, (fl_tel τ t o))]) [true] rfl (c_X0_tell l D cI cZ cB cE a τ n hτ t o (by omega) (by omega)) wq_yX0_tell wm_X0_115 ⟨wn_yX0_tell, wo_yX0_tell⟩ ⟨rfl, rfl, Nat.le_of_ble_eq_true rfl, Nat.le_of_ble_eq_true rfl⟩ 0 rfl 0 rfl rfl rfl rfl (Nat.le_of_ble_eq_true rfl) dX0_tellOthers_37 ⟨Nat.le_of_ble_eq_true rfl, Nat.le_of_ble_eq_true rfl⟩ rfl rfl ?_
              refine z_iinc C (L' := [(2, .int (nI (o + 1))), (1, .int (nI (t))), (0, .ref (a 0))]) dX0_tellOthers_40 0 rfl (z_inc1 _) (by decide) rfl ?_
              refine z_goto C (tgt := 2) dX0_tellOthers_43 (by decide) ?_
              refine z_sub (L' := [(2, .int (nI (o + 1))), (1, .int (nI (t))), (0, .ref (a 0))]) [0, 1, 2] rfl ?_
              exact ih_2 (o + 1) _ (by omega) (by omega) (Eq.trans (by rw [fl_tells_go n t o τ (by omega) c_17]; simp [c_22, c_31]) hres) hi_1
  refine z_sub (L' := [(2, .int (nI (0))), (1, .int (nI (t))), (0, .ref (a 0))]) [0, 2, 1] rfl ?_
  exact loop_2 (n + 1) 0 _ (by omega) (by omega) rfl hI
set_option maxHeartbeats 4000000 in
set_option maxRecDepth 100000 in
theorem c_X0_hearersThatAgree (l : Launch) (D : va_G) (cI cZ cB cE : ClassId) (a : Nat → Nat) (σ : zF) (n : Nat) (hI : fl_Iv n σ) (b : Nat) (k : Nat) (hb : b < n) (hk : k < 2 ^ 31) : zM l D (tyL cI cZ cB cE) yX0_hearersThatAgree cX0_hearersThatAgree 5 (some .int) (zR 2 47) [.ref (a 0), .int (nI (b)), .int (nI (k))] [(shF a cI cZ, σ)] 0 0 (fun r u => r = some (.int (nI (fl_cnt n σ b k))) ∧ u = [(shF a cI cZ, σ)]) := by
  have hn3 := hI.n3
  have hn7 := hI.n7
  refine z_of (by decide) (Nat.le_of_ble_eq_true rfl) rfl ?_
  intro p e s m args below meth c A C hr hin
  obtain ⟨Q, hQ⟩ : ∃ Q, Q = MQ below (zQ (fun r u => r = some (.int (nI (fl_cnt n σ b k))) ∧ u = [(shF a cI cZ, σ)]) D (tyL cI cZ cB cE) A) args s 0 0 A := ⟨_, rfl⟩
  rw [← hQ]
  refine z_iconst C (v := nI (0)) (by decide) dX0_hearersThatAgree_0 ?_
  refine z_istore_n C (L' := [(3, .int (nI (0))), (0, .ref (a 0)), (1, .int (nI (b))), (2, .int (nI (k)))]) dX0_hearersThatAgree_1 rfl (by decide) rfl ?_
  refine z_iconst C (v := nI (0)) (by decide) dX0_hearersThatAgree_2 ?_
  refine z_istore C (L' := [(4, .int (nI (0))), (3, .int (nI (0))), (0, .ref (a 0)), (1, .int (nI (b))), (2, .int (nI (k)))]) dX0_hearersThatAgree_3 (by decide) rfl ?_
  have loop_5 : ∀ (k_5 o : Nat) (v : Nat), n < o + k_5 → o ≤ n → (hv : v = fl_ct (fl_agrees σ b k) o) → zK p l e (zR 2 47) s m args below meth c D A 5 Q 0 0 5 [(4, .int (nI (o))), (3, .int (nI (v))), (2, .int (nI (k))), (1, .int (nI (b))), (0, .ref (a 0))] [] [(shF a cI cZ, σ)] := by
    intro k_5
    induction k_5 with
    | zero => intro o v m1_5 m2_5; exact absurd m1_5 (by omega)
    | succ k_5 ih_5 =>
      intro o v m1_5 m2_5 hv
      refine z_iload C dX0_hearersThatAgree_5 0 rfl ?_
      refine z_aload_n C dX0_hearersThatAgree_7 rfl 4 rfl ?_
      refine z_getI C wu_X0 0 rfl 0 rfl rfl 0 (by decide) rfl wf_X0_50 dX0_hearersThatAgree_8 ?_
      refine z_top (hI.n0 : _ = nI n) ?_
      refine z_icmp_geN C (tgt := 47) dX0_hearersThatAgree_11 (by decide) (by omega) (by omega) (fun c_11 => ?_) (fun c_11 => ?_)
      · refine z_iload_n C dX0_hearersThatAgree_47 rfl 1 rfl ?_
        rw [hQ]; exact z_iret C hr dX0_hearersThatAgree_48 ⟨congrArg (fun x => some (Value.int (nI x))) (by rw [hv, show o = n by omega]; try rfl), rfl⟩
      · refine z_aload_n C dX0_hearersThatAgree_14 rfl 4 rfl ?_
        refine z_iload_n C dX0_hearersThatAgree_15 rfl 3 rfl ?_
        refine z_iload C dX0_hearersThatAgree_16 0 rfl ?_
        refine z_cV C (st' := [.int (zb (fl_hear σ b o))]) (B' := [(shF a cI cZ, σ)]) [true] rfl (c_X0_hear l D cI cZ cB cE a σ n hI b o (by omega) (by omega)) wq_yX0_hear wm_X0_99 ⟨wn_yX0_hear, wo_yX0_hear⟩ ⟨rfl, rfl, Nat.le_of_ble_eq_true rfl, Nat.le_of_ble_eq_true rfl⟩ 0 rfl 0 rfl rfl rfl rfl (Nat.le_of_ble_eq_true rfl) dX0_hearersThatAgree_18 ⟨Nat.le_of_ble_eq_true rfl, Nat.le_of_ble_eq_true rfl⟩ rfl rfl ?_
        refine z_if_eqB C (tgt := 41) dX0_hearersThatAgree_21 (by decide) (fun c_21 => ?_) (fun c_21 => ?_)
        · refine z_iinc C (L' := [(4, .int (nI (o + 1))), (3, .int (nI (v))), (2, .int (nI (k))), (1, .int (nI (b))), (0, .ref (a 0))]) dX0_hearersThatAgree_41 0 rfl (z_inc1 _) (by decide) rfl ?_
          refine z_goto C (tgt := 5) dX0_hearersThatAgree_44 (by decide) ?_
          refine z_sub (L' := [(4, .int (nI (o + 1))), (3, .int (nI (v))), (2, .int (nI (k))), (1, .int (nI (b))), (0, .ref (a 0))]) [0, 1, 2, 3, 4] rfl ?_
          exact ih_5 (o + 1) _ (by omega) (by omega) (by rw [fl_ct, ← hv]; simp [fl_agrees, Nat.not_le.mpr, c_21])
        · refine z_aload_n C dX0_hearersThatAgree_24 rfl 4 rfl ?_
          refine z_getR C wu_X0 0 rfl 0 rfl rfl 12 (by decide) rfl wf_X0_37 dX0_hearersThatAgree_25 ?_
          refine z_iload_n C dX0_hearersThatAgree_28 rfl 3 rfl ?_
          refine z_iload C dX0_hearersThatAgree_29 0 rfl ?_
          have hf_1 := fl_agr_m σ b o
          have hf_2 := hI.lnT (i := b) (by omega)
          have hf_3 := hI.lnT (i := o) (by omega)
          refine z_cV C (st' := [.int (nI (fl_agr σ b o))]) (B' := [(shF a cI cZ, σ)]) [true] rfl (c_X1_agreement l D cI cZ cB cE a σ n hI b o (by omega) (by omega)) wq_yX1_agreement wm_X0_137 ⟨wn_yX1_agreement, wo_yX1_agreement⟩ ⟨rfl, rfl, Nat.le_of_ble_eq_true rfl, Nat.le_of_ble_eq_true rfl⟩ 0 rfl 12 rfl rfl rfl rfl (Nat.le_of_ble_eq_true rfl) dX0_hearersThatAgree_31 ⟨Nat.le_of_ble_eq_true rfl, Nat.le_of_ble_eq_true rfl⟩ rfl rfl ?_
          refine z_iload_n C dX0_hearersThatAgree_34 rfl 2 rfl ?_
          refine z_icmp_ltN C (tgt := 41) dX0_hearersThatAgree_35 (by decide) (by omega) (by omega) (fun c_35 => ?_) (fun c_35 => ?_)
          · refine z_iinc C (L' := [(4, .int (nI (o + 1))), (3, .int (nI (v))), (2, .int (nI (k))), (1, .int (nI (b))), (0, .ref (a 0))]) dX0_hearersThatAgree_41 0 rfl (z_inc1 _) (by decide) rfl ?_
            refine z_goto C (tgt := 5) dX0_hearersThatAgree_44 (by decide) ?_
            refine z_sub (L' := [(4, .int (nI (o + 1))), (3, .int (nI (v))), (2, .int (nI (k))), (1, .int (nI (b))), (0, .ref (a 0))]) [0, 1, 2, 3, 4] rfl ?_
            exact ih_5 (o + 1) _ (by omega) (by omega) (by rw [fl_ct, ← hv]; simp [fl_agrees, Nat.not_le.mpr, c_21, c_35])
          · refine z_iinc C (L' := [(3, .int (nI (v + 1))), (4, .int (nI (o))), (2, .int (nI (k))), (1, .int (nI (b))), (0, .ref (a 0))]) dX0_hearersThatAgree_38 1 rfl (z_inc1 _) (by decide) rfl ?_
            refine z_iinc C (L' := [(4, .int (nI (o + 1))), (3, .int (nI (v + 1))), (2, .int (nI (k))), (1, .int (nI (b))), (0, .ref (a 0))]) dX0_hearersThatAgree_41 1 rfl (z_inc1 _) (by decide) rfl ?_
            refine z_goto C (tgt := 5) dX0_hearersThatAgree_44 (by decide) ?_
            refine z_sub (L' := [(4, .int (nI (o + 1))), (3, .int (nI (v + 1))), (2, .int (nI (k))), (1, .int (nI (b))), (0, .ref (a 0))]) [0, 1, 2, 3, 4] rfl ?_
            exact ih_5 (o + 1) _ (by omega) (by omega) (by rw [fl_ct, ← hv]; simp [fl_agrees, Nat.not_le.mpr, c_21, c_35])
  refine z_sub (L' := [(4, .int (nI (0))), (3, .int (nI (0))), (2, .int (nI (k))), (1, .int (nI (b))), (0, .ref (a 0))]) [0, 1, 4, 3, 2] rfl ?_
  exact loop_5 (n + 1) 0 _ (by omega) (by omega) rfl
set_option maxHeartbeats 4000000 in
set_option maxRecDepth 100000 in
theorem c_X0_upIn (l : Launch) (D : va_G) (cI cZ cB cE : ClassId) (a : Nat → Nat) (σ : zF) (n : Nat) (hI : fl_Iv n σ) (h : Int32) : zM l D (tyL cI cZ cB cE) yX0_upIn cX0_upIn 4 (some .int) (zR 0 0) [.ref (a 0), .int (h)] [(shF a cI cZ, σ)] 0 0 (fun r u => r = some (.int (nI (fl_upIn n σ h))) ∧ u = [(shF a cI cZ, σ)]) := by
  have hn3 := hI.n3
  have hn7 := hI.n7
  refine z_of (by decide) (Nat.le_of_ble_eq_true rfl) rfl ?_
  intro p e s m args below meth c A C hr hin
  obtain ⟨Q, hQ⟩ : ∃ Q, Q = MQ below (zQ (fun r u => r = some (.int (nI (fl_upIn n σ h))) ∧ u = [(shF a cI cZ, σ)]) D (tyL cI cZ cB cE) A) args s 0 0 A := ⟨_, rfl⟩
  rw [← hQ]
  refine z_iconst C (v := nI (0)) (by decide) dX0_upIn_0 ?_
  refine z_istore_n C (L' := [(2, .int (nI (0))), (0, .ref (a 0)), (1, .int (h))]) dX0_upIn_1 rfl (by decide) rfl ?_
  refine z_iconst C (v := nI (0)) (by decide) dX0_upIn_2 ?_
  refine z_istore_n C (L' := [(3, .int (nI (0))), (2, .int (nI (0))), (0, .ref (a 0)), (1, .int (h))]) dX0_upIn_3 rfl (by decide) rfl ?_
  have loop_4 : ∀ (k_4 o : Nat) (v : Nat), n < o + k_4 → o ≤ n → (hv : v = fl_ct (fun b => decide (¬ σ 7 b = 0 ∧ σ 6 b = h)) o) → zK p l e (zR 0 0) s m args below meth c D A 4 Q 0 0 4 [(3, .int (nI (o))), (2, .int (nI (v))), (1, .int (h)), (0, .ref (a 0))] [] [(shF a cI cZ, σ)] := by
    intro k_4
    induction k_4 with
    | zero => intro o v m1_4 m2_4; exact absurd m1_4 (by omega)
    | succ k_4 ih_4 =>
      intro o v m1_4 m2_4 hv
      refine z_iload_n C dX0_upIn_4 rfl 0 rfl ?_
      refine z_aload_n C dX0_upIn_5 rfl 3 rfl ?_
      refine z_getI C wu_X0 0 rfl 0 rfl rfl 0 (by decide) rfl wf_X0_50 dX0_upIn_6 ?_
      refine z_top (hI.n0 : _ = nI n) ?_
      refine z_icmp_geN C (tgt := 40) dX0_upIn_9 (by decide) (by omega) (by omega) (fun c_9 => ?_) (fun c_9 => ?_)
      · refine z_iload_n C dX0_upIn_40 rfl 1 rfl ?_
        rw [hQ]; exact z_iret C hr dX0_upIn_41 ⟨congrArg (fun x => some (Value.int (nI x))) (by rw [hv, show o = n by omega]; try rfl), rfl⟩
      · refine z_aload_n C dX0_upIn_12 rfl 3 rfl ?_
        refine z_getR C wu_X0 0 rfl 0 rfl rfl 11 (by decide) rfl wf_X0_30 dX0_upIn_13 ?_
        refine z_iload_n C dX0_upIn_16 rfl 0 rfl ?_
        refine z_zald C 0 rfl 7 1 rfl rfl dX0_upIn_17 (by omega) (by decide) ?_
        refine z_if_eq C (tgt := 34) dX0_upIn_18 (by decide) (fun c_18 => ?_) (fun c_18 => ?_)
        · refine z_iinc C (L' := [(3, .int (nI (o + 1))), (2, .int (nI (v))), (1, .int (h)), (0, .ref (a 0))]) dX0_upIn_34 0 rfl (z_inc1 _) (by decide) rfl ?_
          refine z_goto C (tgt := 4) dX0_upIn_37 (by decide) ?_
          refine z_sub (L' := [(3, .int (nI (o + 1))), (2, .int (nI (v))), (1, .int (h)), (0, .ref (a 0))]) [0, 1, 2, 3] rfl ?_
          exact ih_4 (o + 1) _ (by omega) (by omega) (by rw [fl_ct, ← hv]; simp [Nat.not_le.mpr, c_18])
        · refine z_aload_n C dX0_upIn_21 rfl 3 rfl ?_
          refine z_getR C wu_X0 0 rfl 0 rfl rfl 10 (by decide) rfl wf_X0_27 dX0_upIn_22 ?_
          refine z_iload_n C dX0_upIn_25 rfl 0 rfl ?_
          refine z_iald C 0 rfl 6 0 rfl rfl dX0_upIn_26 (by omega) (by decide) ?_
          refine z_iload_n C dX0_upIn_27 rfl 2 rfl ?_
          refine z_icmp_ne C (tgt := 34) dX0_upIn_28 (by decide) (fun c_28 => ?_) (fun c_28 => ?_)
          · refine z_iinc C (L' := [(3, .int (nI (o + 1))), (2, .int (nI (v))), (1, .int (h)), (0, .ref (a 0))]) dX0_upIn_34 0 rfl (z_inc1 _) (by decide) rfl ?_
            refine z_goto C (tgt := 4) dX0_upIn_37 (by decide) ?_
            refine z_sub (L' := [(3, .int (nI (o + 1))), (2, .int (nI (v))), (1, .int (h)), (0, .ref (a 0))]) [0, 1, 2, 3] rfl ?_
            exact ih_4 (o + 1) _ (by omega) (by omega) (by rw [fl_ct, ← hv]; simp [Nat.not_le.mpr, c_18, c_28])
          · refine z_iinc C (L' := [(2, .int (nI (v + 1))), (3, .int (nI (o))), (1, .int (h)), (0, .ref (a 0))]) dX0_upIn_31 1 rfl (z_inc1 _) (by decide) rfl ?_
            refine z_iinc C (L' := [(3, .int (nI (o + 1))), (2, .int (nI (v + 1))), (1, .int (h)), (0, .ref (a 0))]) dX0_upIn_34 1 rfl (z_inc1 _) (by decide) rfl ?_
            refine z_goto C (tgt := 4) dX0_upIn_37 (by decide) ?_
            refine z_sub (L' := [(3, .int (nI (o + 1))), (2, .int (nI (v + 1))), (1, .int (h)), (0, .ref (a 0))]) [0, 1, 2, 3] rfl ?_
            exact ih_4 (o + 1) _ (by omega) (by omega) (by rw [fl_ct, ← hv]; simp [Nat.not_le.mpr, c_18, c_28])
  refine z_sub (L' := [(3, .int (nI (0))), (2, .int (nI (0))), (1, .int (h)), (0, .ref (a 0))]) [0, 1, 3, 2] rfl ?_
  exact loop_4 (n + 1) 0 _ (by omega) (by omega) rfl
set_option maxHeartbeats 4000000 in
set_option maxRecDepth 100000 in
theorem c_X0_boatsThatAgree (l : Launch) (D : va_G) (cI cZ cB cE : ClassId) (a : Nat → Nat) (σ : zF) (n : Nat) (hI : fl_Iv n σ) (b : Nat) (k : Nat) (hb : b < n) (hk : k < 2 ^ 31) : zM l D (tyL cI cZ cB cE) yX0_boatsThatAgree cX0_boatsThatAgree 5 (some .int) (zR 2 47) [.ref (a 0), .int (nI (b)), .int (nI (k))] [(shF a cI cZ, σ)] 0 0 (fun r u => r = some (.int (nI (fl_ct (fun o => decide (k ≤ fl_agr σ b o)) n))) ∧ u = [(shF a cI cZ, σ)]) := by
  have hn3 := hI.n3
  have hn7 := hI.n7
  refine z_of (by decide) (Nat.le_of_ble_eq_true rfl) rfl ?_
  intro p e s m args below meth c A C hr hin
  obtain ⟨Q, hQ⟩ : ∃ Q, Q = MQ below (zQ (fun r u => r = some (.int (nI (fl_ct (fun o => decide (k ≤ fl_agr σ b o)) n))) ∧ u = [(shF a cI cZ, σ)]) D (tyL cI cZ cB cE) A) args s 0 0 A := ⟨_, rfl⟩
  rw [← hQ]
  refine z_iconst C (v := nI (0)) (by decide) dX0_boatsThatAgree_0 ?_
  refine z_istore_n C (L' := [(3, .int (nI (0))), (0, .ref (a 0)), (1, .int (nI (b))), (2, .int (nI (k)))]) dX0_boatsThatAgree_1 rfl (by decide) rfl ?_
  refine z_iconst C (v := nI (0)) (by decide) dX0_boatsThatAgree_2 ?_
  refine z_istore C (L' := [(4, .int (nI (0))), (3, .int (nI (0))), (0, .ref (a 0)), (1, .int (nI (b))), (2, .int (nI (k)))]) dX0_boatsThatAgree_3 (by decide) rfl ?_
  have loop_5 : ∀ (k_5 o : Nat) (v : Nat), n < o + k_5 → o ≤ n → (hv : v = fl_ct (fun o => decide (k ≤ fl_agr σ b o)) o) → zK p l e (zR 2 47) s m args below meth c D A 5 Q 0 0 5 [(4, .int (nI (o))), (3, .int (nI (v))), (2, .int (nI (k))), (1, .int (nI (b))), (0, .ref (a 0))] [] [(shF a cI cZ, σ)] := by
    intro k_5
    induction k_5 with
    | zero => intro o v m1_5 m2_5; exact absurd m1_5 (by omega)
    | succ k_5 ih_5 =>
      intro o v m1_5 m2_5 hv
      refine z_iload C dX0_boatsThatAgree_5 0 rfl ?_
      refine z_aload_n C dX0_boatsThatAgree_7 rfl 4 rfl ?_
      refine z_getI C wu_X0 0 rfl 0 rfl rfl 0 (by decide) rfl wf_X0_50 dX0_boatsThatAgree_8 ?_
      refine z_top (hI.n0 : _ = nI n) ?_
      refine z_icmp_geN C (tgt := 37) dX0_boatsThatAgree_11 (by decide) (by omega) (by omega) (fun c_11 => ?_) (fun c_11 => ?_)
      · refine z_iload_n C dX0_boatsThatAgree_37 rfl 1 rfl ?_
        rw [hQ]; exact z_iret C hr dX0_boatsThatAgree_38 ⟨congrArg (fun x => some (Value.int (nI x))) (by rw [hv, show o = n by omega]; try rfl), rfl⟩
      · refine z_aload_n C dX0_boatsThatAgree_14 rfl 4 rfl ?_
        refine z_getR C wu_X0 0 rfl 0 rfl rfl 12 (by decide) rfl wf_X0_37 dX0_boatsThatAgree_15 ?_
        refine z_iload_n C dX0_boatsThatAgree_18 rfl 3 rfl ?_
        refine z_iload C dX0_boatsThatAgree_19 0 rfl ?_
        have hf_1 := fl_agr_m σ b o
        have hf_2 := hI.lnT (i := b) (by omega)
        have hf_3 := hI.lnT (i := o) (by omega)
        refine z_cV C (st' := [.int (nI (fl_agr σ b o))]) (B' := [(shF a cI cZ, σ)]) [true] rfl (c_X1_agreement l D cI cZ cB cE a σ n hI b o (by omega) (by omega)) wq_yX1_agreement wm_X0_137 ⟨wn_yX1_agreement, wo_yX1_agreement⟩ ⟨rfl, rfl, Nat.le_of_ble_eq_true rfl, Nat.le_of_ble_eq_true rfl⟩ 0 rfl 12 rfl rfl rfl rfl (Nat.le_of_ble_eq_true rfl) dX0_boatsThatAgree_21 ⟨Nat.le_of_ble_eq_true rfl, Nat.le_of_ble_eq_true rfl⟩ rfl rfl ?_
        refine z_iload_n C dX0_boatsThatAgree_24 rfl 2 rfl ?_
        refine z_icmp_ltN C (tgt := 31) dX0_boatsThatAgree_25 (by decide) (by omega) (by omega) (fun c_25 => ?_) (fun c_25 => ?_)
        · refine z_iinc C (L' := [(4, .int (nI (o + 1))), (3, .int (nI (v))), (2, .int (nI (k))), (1, .int (nI (b))), (0, .ref (a 0))]) dX0_boatsThatAgree_31 0 rfl (z_inc1 _) (by decide) rfl ?_
          refine z_goto C (tgt := 5) dX0_boatsThatAgree_34 (by decide) ?_
          refine z_sub (L' := [(4, .int (nI (o + 1))), (3, .int (nI (v))), (2, .int (nI (k))), (1, .int (nI (b))), (0, .ref (a 0))]) [0, 1, 2, 3, 4] rfl ?_
          exact ih_5 (o + 1) _ (by omega) (by omega) (by rw [fl_ct, ← hv]; simp [Nat.not_le.mpr, c_25])
        · refine z_iinc C (L' := [(3, .int (nI (v + 1))), (4, .int (nI (o))), (2, .int (nI (k))), (1, .int (nI (b))), (0, .ref (a 0))]) dX0_boatsThatAgree_28 1 rfl (z_inc1 _) (by decide) rfl ?_
          refine z_iinc C (L' := [(4, .int (nI (o + 1))), (3, .int (nI (v + 1))), (2, .int (nI (k))), (1, .int (nI (b))), (0, .ref (a 0))]) dX0_boatsThatAgree_31 1 rfl (z_inc1 _) (by decide) rfl ?_
          refine z_goto C (tgt := 5) dX0_boatsThatAgree_34 (by decide) ?_
          refine z_sub (L' := [(4, .int (nI (o + 1))), (3, .int (nI (v + 1))), (2, .int (nI (k))), (1, .int (nI (b))), (0, .ref (a 0))]) [0, 1, 2, 3, 4] rfl ?_
          exact ih_5 (o + 1) _ (by omega) (by omega) (by rw [fl_ct, ← hv]; simp [Nat.not_le.mpr, c_25])
  refine z_sub (L' := [(4, .int (nI (0))), (3, .int (nI (0))), (2, .int (nI (k))), (1, .int (nI (b))), (0, .ref (a 0))]) [0, 1, 4, 3, 2] rfl ?_
  exact loop_5 (n + 1) 0 _ (by omega) (by omega) rfl
set_option maxHeartbeats 4000000 in
set_option maxRecDepth 100000 in
theorem c_X0_boatsUp (l : Launch) (D : va_G) (cI cZ cB cE : ClassId) (a : Nat → Nat) (σ : zF) (n : Nat) (hI : fl_Iv n σ) : zM l D (tyL cI cZ cB cE) yX0_boatsUp cX0_boatsUp 3 (some .int) (zR 0 0) [.ref (a 0)] [(shF a cI cZ, σ)] 0 0 (fun r u => r = some (.int (nI (fl_ct (fun b => decide (¬ σ 7 b = 0)) n))) ∧ u = [(shF a cI cZ, σ)]) := by
  have hn3 := hI.n3
  have hn7 := hI.n7
  refine z_of (by decide) (Nat.le_of_ble_eq_true rfl) rfl ?_
  intro p e s m args below meth c A C hr hin
  obtain ⟨Q, hQ⟩ : ∃ Q, Q = MQ below (zQ (fun r u => r = some (.int (nI (fl_ct (fun b => decide (¬ σ 7 b = 0)) n))) ∧ u = [(shF a cI cZ, σ)]) D (tyL cI cZ cB cE) A) args s 0 0 A := ⟨_, rfl⟩
  rw [← hQ]
  refine z_iconst C (v := nI (0)) (by decide) dX0_boatsUp_0 ?_
  refine z_istore_n C (L' := [(1, .int (nI (0))), (0, .ref (a 0))]) dX0_boatsUp_1 rfl (by decide) rfl ?_
  refine z_iconst C (v := nI (0)) (by decide) dX0_boatsUp_2 ?_
  refine z_istore_n C (L' := [(2, .int (nI (0))), (1, .int (nI (0))), (0, .ref (a 0))]) dX0_boatsUp_3 rfl (by decide) rfl ?_
  have loop_4 : ∀ (k_4 o : Nat) (v : Nat), n < o + k_4 → o ≤ n → (hv : v = fl_ct (fun b => decide (¬ σ 7 b = 0)) o) → zK p l e (zR 0 0) s m args below meth c D A 3 Q 0 0 4 [(2, .int (nI (o))), (1, .int (nI (v))), (0, .ref (a 0))] [] [(shF a cI cZ, σ)] := by
    intro k_4
    induction k_4 with
    | zero => intro o v m1_4 m2_4; exact absurd m1_4 (by omega)
    | succ k_4 ih_4 =>
      intro o v m1_4 m2_4 hv
      refine z_iload_n C dX0_boatsUp_4 rfl 0 rfl ?_
      refine z_aload_n C dX0_boatsUp_5 rfl 2 rfl ?_
      refine z_getI C wu_X0 0 rfl 0 rfl rfl 0 (by decide) rfl wf_X0_50 dX0_boatsUp_6 ?_
      refine z_top (hI.n0 : _ = nI n) ?_
      refine z_icmp_geN C (tgt := 30) dX0_boatsUp_9 (by decide) (by omega) (by omega) (fun c_9 => ?_) (fun c_9 => ?_)
      · refine z_iload_n C dX0_boatsUp_30 rfl 1 rfl ?_
        rw [hQ]; exact z_iret C hr dX0_boatsUp_31 ⟨congrArg (fun x => some (Value.int (nI x))) (by rw [hv, show o = n by omega]; try rfl), rfl⟩
      · refine z_aload_n C dX0_boatsUp_12 rfl 2 rfl ?_
        refine z_getR C wu_X0 0 rfl 0 rfl rfl 11 (by decide) rfl wf_X0_30 dX0_boatsUp_13 ?_
        refine z_iload_n C dX0_boatsUp_16 rfl 0 rfl ?_
        refine z_zald C 0 rfl 7 1 rfl rfl dX0_boatsUp_17 (by omega) (by decide) ?_
        refine z_if_eq C (tgt := 24) dX0_boatsUp_18 (by decide) (fun c_18 => ?_) (fun c_18 => ?_)
        · refine z_iinc C (L' := [(2, .int (nI (o + 1))), (1, .int (nI (v))), (0, .ref (a 0))]) dX0_boatsUp_24 0 rfl (z_inc1 _) (by decide) rfl ?_
          refine z_goto C (tgt := 4) dX0_boatsUp_27 (by decide) ?_
          refine z_sub (L' := [(2, .int (nI (o + 1))), (1, .int (nI (v))), (0, .ref (a 0))]) [0, 1, 2] rfl ?_
          exact ih_4 (o + 1) _ (by omega) (by omega) (by rw [fl_ct, ← hv]; simp [Nat.not_le.mpr, c_18])
        · refine z_iinc C (L' := [(1, .int (nI (v + 1))), (2, .int (nI (o))), (0, .ref (a 0))]) dX0_boatsUp_21 1 rfl (z_inc1 _) (by decide) rfl ?_
          refine z_iinc C (L' := [(2, .int (nI (o + 1))), (1, .int (nI (v + 1))), (0, .ref (a 0))]) dX0_boatsUp_24 1 rfl (z_inc1 _) (by decide) rfl ?_
          refine z_goto C (tgt := 4) dX0_boatsUp_27 (by decide) ?_
          refine z_sub (L' := [(2, .int (nI (o + 1))), (1, .int (nI (v + 1))), (0, .ref (a 0))]) [0, 1, 2] rfl ?_
          exact ih_4 (o + 1) _ (by omega) (by omega) (by rw [fl_ct, ← hv]; simp [Nat.not_le.mpr, c_18])
  refine z_sub (L' := [(2, .int (nI (0))), (1, .int (nI (0))), (0, .ref (a 0))]) [0, 1, 2] rfl ?_
  exact loop_4 (n + 1) 0 _ (by omega) (by omega) rfl
set_option maxHeartbeats 4000000 in
set_option maxRecDepth 100000 in
theorem c_X0_boatsLeading (l : Launch) (D : va_G) (cI cZ cB cE : ClassId) (a : Nat → Nat) (σ : zF) (n : Nat) (hI : fl_Iv n σ) : zM l D (tyL cI cZ cB cE) yX0_boatsLeading cX0_boatsLeading 3 (some .int) (zR 1 21) [.ref (a 0)] [(shF a cI cZ, σ)] 0 0 (fun r u => r = some (.int (nI (fl_ct (fl_lead σ) n))) ∧ u = [(shF a cI cZ, σ)]) := by
  have hn3 := hI.n3
  have hn7 := hI.n7
  refine z_of (by decide) (Nat.le_of_ble_eq_true rfl) rfl ?_
  intro p e s m args below meth c A C hr hin
  obtain ⟨Q, hQ⟩ : ∃ Q, Q = MQ below (zQ (fun r u => r = some (.int (nI (fl_ct (fl_lead σ) n))) ∧ u = [(shF a cI cZ, σ)]) D (tyL cI cZ cB cE) A) args s 0 0 A := ⟨_, rfl⟩
  rw [← hQ]
  refine z_iconst C (v := nI (0)) (by decide) dX0_boatsLeading_0 ?_
  refine z_istore_n C (L' := [(1, .int (nI (0))), (0, .ref (a 0))]) dX0_boatsLeading_1 rfl (by decide) rfl ?_
  refine z_iconst C (v := nI (0)) (by decide) dX0_boatsLeading_2 ?_
  refine z_istore_n C (L' := [(2, .int (nI (0))), (1, .int (nI (0))), (0, .ref (a 0))]) dX0_boatsLeading_3 rfl (by decide) rfl ?_
  have loop_4 : ∀ (k_4 o : Nat) (v : Nat), n < o + k_4 → o ≤ n → (hv : v = fl_ct (fl_lead σ) o) → zK p l e (zR 1 21) s m args below meth c D A 3 Q 0 0 4 [(2, .int (nI (o))), (1, .int (nI (v))), (0, .ref (a 0))] [] [(shF a cI cZ, σ)] := by
    intro k_4
    induction k_4 with
    | zero => intro o v m1_4 m2_4; exact absurd m1_4 (by omega)
    | succ k_4 ih_4 =>
      intro o v m1_4 m2_4 hv
      refine z_iload_n C dX0_boatsLeading_4 rfl 0 rfl ?_
      refine z_aload_n C dX0_boatsLeading_5 rfl 2 rfl ?_
      refine z_getI C wu_X0 0 rfl 0 rfl rfl 0 (by decide) rfl wf_X0_50 dX0_boatsLeading_6 ?_
      refine z_top (hI.n0 : _ = nI n) ?_
      refine z_icmp_geN C (tgt := 29) dX0_boatsLeading_9 (by decide) (by omega) (by omega) (fun c_9 => ?_) (fun c_9 => ?_)
      · refine z_iload_n C dX0_boatsLeading_29 rfl 1 rfl ?_
        rw [hQ]; exact z_iret C hr dX0_boatsLeading_30 ⟨congrArg (fun x => some (Value.int (nI x))) (by rw [hv, show o = n by omega]; try rfl), rfl⟩
      · refine z_aload_n C dX0_boatsLeading_12 rfl 2 rfl ?_
        refine z_iload_n C dX0_boatsLeading_13 rfl 0 rfl ?_
        refine z_cV C (st' := [.int (zb (fl_lead σ o))]) (B' := [(shF a cI cZ, σ)]) [true] rfl (c_X0_leadsNow l D cI cZ cB cE a σ n hI o (by omega)) wq_yX0_leadsNow wm_X0_89 ⟨wn_yX0_leadsNow, wo_yX0_leadsNow⟩ ⟨rfl, rfl, Nat.le_of_ble_eq_true rfl, Nat.le_of_ble_eq_true rfl⟩ 0 rfl 0 rfl rfl rfl rfl (Nat.le_of_ble_eq_true rfl) dX0_boatsLeading_14 ⟨Nat.le_of_ble_eq_true rfl, Nat.le_of_ble_eq_true rfl⟩ rfl rfl ?_
        refine z_if_eqB C (tgt := 23) dX0_boatsLeading_17 (by decide) (fun c_17 => ?_) (fun c_17 => ?_)
        · refine z_iinc C (L' := [(2, .int (nI (o + 1))), (1, .int (nI (v))), (0, .ref (a 0))]) dX0_boatsLeading_23 0 rfl (z_inc1 _) (by decide) rfl ?_
          refine z_goto C (tgt := 4) dX0_boatsLeading_26 (by decide) ?_
          refine z_sub (L' := [(2, .int (nI (o + 1))), (1, .int (nI (v))), (0, .ref (a 0))]) [0, 1, 2] rfl ?_
          exact ih_4 (o + 1) _ (by omega) (by omega) (by rw [fl_ct, ← hv]; simp [Nat.not_le.mpr, c_17])
        · refine z_iinc C (L' := [(1, .int (nI (v + 1))), (2, .int (nI (o))), (0, .ref (a 0))]) dX0_boatsLeading_20 1 rfl (z_inc1 _) (by decide) rfl ?_
          refine z_iinc C (L' := [(2, .int (nI (o + 1))), (1, .int (nI (v + 1))), (0, .ref (a 0))]) dX0_boatsLeading_23 1 rfl (z_inc1 _) (by decide) rfl ?_
          refine z_goto C (tgt := 4) dX0_boatsLeading_26 (by decide) ?_
          refine z_sub (L' := [(2, .int (nI (o + 1))), (1, .int (nI (v + 1))), (0, .ref (a 0))]) [0, 1, 2] rfl ?_
          exact ih_4 (o + 1) _ (by omega) (by omega) (by rw [fl_ct, ← hv]; simp [Nat.not_le.mpr, c_17])
  refine z_sub (L' := [(2, .int (nI (0))), (1, .int (nI (0))), (0, .ref (a 0))]) [0, 1, 2] rfl ?_
  exact loop_4 (n + 1) 0 _ (by omega) (by omega) rfl
set_option maxHeartbeats 4000000 in
set_option maxRecDepth 100000 in
theorem c_X0_greatestTerm (l : Launch) (D : va_G) (cI cZ cB cE : ClassId) (a : Nat → Nat) (σ : zF) (n : Nat) (hI : fl_Iv n σ) : zM l D (tyL cI cZ cB cE) yX0_greatestTerm cX0_greatestTerm 3 (some .int) (zR 1 21) [.ref (a 0)] [(shF a cI cZ, σ)] 0 0 (fun r u => r = some (.int (fl_max (σ 3) n)) ∧ u = [(shF a cI cZ, σ)]) := by
  have hn3 := hI.n3
  have hn7 := hI.n7
  refine z_of (by decide) (Nat.le_of_ble_eq_true rfl) rfl ?_
  intro p e s m args below meth c A C hr hin
  obtain ⟨Q, hQ⟩ : ∃ Q, Q = MQ below (zQ (fun r u => r = some (.int (fl_max (σ 3) n)) ∧ u = [(shF a cI cZ, σ)]) D (tyL cI cZ cB cE) A) args s 0 0 A := ⟨_, rfl⟩
  rw [← hQ]
  refine z_iconst C (v := nI (0)) (by decide) dX0_greatestTerm_0 ?_
  refine z_istore_n C (L' := [(1, .int (nI (0))), (0, .ref (a 0))]) dX0_greatestTerm_1 rfl (by decide) rfl ?_
  refine z_iconst C (v := nI (0)) (by decide) dX0_greatestTerm_2 ?_
  refine z_istore_n C (L' := [(2, .int (nI (0))), (1, .int (nI (0))), (0, .ref (a 0))]) dX0_greatestTerm_3 rfl (by decide) rfl ?_
  have loop_4 : ∀ (k_4 o : Nat) (v : Int32), n < o + k_4 → o ≤ n → (hv : v = fl_max (σ 3) o) → zK p l e (zR 1 21) s m args below meth c D A 3 Q 0 0 4 [(2, .int (nI (o))), (1, .int (v)), (0, .ref (a 0))] [] [(shF a cI cZ, σ)] := by
    intro k_4
    induction k_4 with
    | zero => intro o v m1_4 m2_4; exact absurd m1_4 (by omega)
    | succ k_4 ih_4 =>
      intro o v m1_4 m2_4 hv
      refine z_iload_n C dX0_greatestTerm_4 rfl 0 rfl ?_
      refine z_aload_n C dX0_greatestTerm_5 rfl 2 rfl ?_
      refine z_getI C wu_X0 0 rfl 0 rfl rfl 0 (by decide) rfl wf_X0_50 dX0_greatestTerm_6 ?_
      refine z_top (hI.n0 : _ = nI n) ?_
      refine z_icmp_geN C (tgt := 29) dX0_greatestTerm_9 (by decide) (by omega) (by omega) (fun c_9 => ?_) (fun c_9 => ?_)
      · refine z_iload_n C dX0_greatestTerm_29 rfl 1 rfl ?_
        rw [hQ]; exact z_iret C hr dX0_greatestTerm_30 ⟨congrArg (fun x => some (Value.int x)) (by rw [hv, show o = n by omega]), rfl⟩
      · refine z_iload_n C dX0_greatestTerm_12 rfl 1 rfl ?_
        refine z_aload_n C dX0_greatestTerm_13 rfl 2 rfl ?_
        refine z_getR C wu_X0 0 rfl 0 rfl rfl 7 (by decide) rfl wf_X0_18 dX0_greatestTerm_14 ?_
        refine z_iload_n C dX0_greatestTerm_17 rfl 0 rfl ?_
        refine z_iald C 0 rfl 3 0 rfl rfl dX0_greatestTerm_18 (by omega) (by decide) ?_
        refine z_mmax C wm_X0_47 ws_max wi_J9 wk_max ⟨(Nat.le_of_ble_eq_true rfl), (Nat.le_of_ble_eq_true rfl), (Nat.le_of_ble_eq_true rfl), (Nat.le_of_ble_eq_true rfl)⟩ dX0_greatestTerm_19 ?_
        refine z_istore_n C (L' := [(1, .int (if v < σ 3 (o) then σ 3 (o) else v)), (2, .int (nI (o))), (0, .ref (a 0))]) dX0_greatestTerm_22 rfl (by decide) rfl ?_
        refine z_iinc C (L' := [(2, .int (nI (o + 1))), (1, .int (if v < σ 3 (o) then σ 3 (o) else v)), (0, .ref (a 0))]) dX0_greatestTerm_23 1 rfl (z_inc1 _) (by decide) rfl ?_
        refine z_goto C (tgt := 4) dX0_greatestTerm_26 (by decide) ?_
        refine z_sub (L' := [(2, .int (nI (o + 1))), (1, .int (if v < σ 3 (o) then σ 3 (o) else v)), (0, .ref (a 0))]) [0, 1, 2] rfl ?_
        exact ih_4 (o + 1) _ (by omega) (by omega) (by rw [fl_max, ← hv])
  refine z_sub (L' := [(2, .int (nI (0))), (1, .int (nI (0))), (0, .ref (a 0))]) [0, 1, 2] rfl ?_
  exact loop_4 (n + 1) 0 _ (by omega) (by omega) rfl
set_option maxHeartbeats 4000000 in
set_option maxRecDepth 100000 in
theorem c_X0_mostKnown (l : Launch) (D : va_G) (cI cZ cB cE : ClassId) (a : Nat → Nat) (σ : zF) (n : Nat) (hI : fl_Iv n σ) : zM l D (tyL cI cZ cB cE) yX0_mostKnown cX0_mostKnown 3 (some .int) (zR 1 21) [.ref (a 0)] [(shF a cI cZ, σ)] 0 0 (fun r u => r = some (.int (fl_max (σ 9) n)) ∧ u = [(shF a cI cZ, σ)]) := by
  have hn3 := hI.n3
  have hn7 := hI.n7
  refine z_of (by decide) (Nat.le_of_ble_eq_true rfl) rfl ?_
  intro p e s m args below meth c A C hr hin
  obtain ⟨Q, hQ⟩ : ∃ Q, Q = MQ below (zQ (fun r u => r = some (.int (fl_max (σ 9) n)) ∧ u = [(shF a cI cZ, σ)]) D (tyL cI cZ cB cE) A) args s 0 0 A := ⟨_, rfl⟩
  rw [← hQ]
  refine z_iconst C (v := nI (0)) (by decide) dX0_mostKnown_0 ?_
  refine z_istore_n C (L' := [(1, .int (nI (0))), (0, .ref (a 0))]) dX0_mostKnown_1 rfl (by decide) rfl ?_
  refine z_iconst C (v := nI (0)) (by decide) dX0_mostKnown_2 ?_
  refine z_istore_n C (L' := [(2, .int (nI (0))), (1, .int (nI (0))), (0, .ref (a 0))]) dX0_mostKnown_3 rfl (by decide) rfl ?_
  have loop_4 : ∀ (k_4 o : Nat) (v : Int32), n < o + k_4 → o ≤ n → (hv : v = fl_max (σ 9) o) → zK p l e (zR 1 21) s m args below meth c D A 3 Q 0 0 4 [(2, .int (nI (o))), (1, .int (v)), (0, .ref (a 0))] [] [(shF a cI cZ, σ)] := by
    intro k_4
    induction k_4 with
    | zero => intro o v m1_4 m2_4; exact absurd m1_4 (by omega)
    | succ k_4 ih_4 =>
      intro o v m1_4 m2_4 hv
      refine z_iload_n C dX0_mostKnown_4 rfl 0 rfl ?_
      refine z_aload_n C dX0_mostKnown_5 rfl 2 rfl ?_
      refine z_getI C wu_X0 0 rfl 0 rfl rfl 0 (by decide) rfl wf_X0_50 dX0_mostKnown_6 ?_
      refine z_top (hI.n0 : _ = nI n) ?_
      refine z_icmp_geN C (tgt := 32) dX0_mostKnown_9 (by decide) (by omega) (by omega) (fun c_9 => ?_) (fun c_9 => ?_)
      · refine z_iload_n C dX0_mostKnown_32 rfl 1 rfl ?_
        rw [hQ]; exact z_iret C hr dX0_mostKnown_33 ⟨congrArg (fun x => some (Value.int x)) (by rw [hv, show o = n by omega]), rfl⟩
      · refine z_iload_n C dX0_mostKnown_12 rfl 1 rfl ?_
        refine z_aload_n C dX0_mostKnown_13 rfl 2 rfl ?_
        refine z_getR C wu_X0 0 rfl 0 rfl rfl 12 (by decide) rfl wf_X0_37 dX0_mostKnown_14 ?_
        refine z_getR C wu_X1 0 rfl 12 rfl rfl 1 (by decide) rfl wf_X0_74 dX0_mostKnown_17 ?_
        refine z_iload_n C dX0_mostKnown_20 rfl 0 rfl ?_
        refine z_iald C 0 rfl 9 0 rfl rfl dX0_mostKnown_21 (by omega) (by decide) ?_
        refine z_top (y := nI (fl_kn σ o)) (hI.kn (by omega)) ?_
        have hb_1 := hI.knT (i := o) (by omega)
        refine z_mmax C wm_X0_47 ws_max wi_J9 wk_max ⟨(Nat.le_of_ble_eq_true rfl), (Nat.le_of_ble_eq_true rfl), (Nat.le_of_ble_eq_true rfl), (Nat.le_of_ble_eq_true rfl)⟩ dX0_mostKnown_22 ?_
        refine z_istore_n C (L' := [(1, .int (if v < nI (fl_kn σ o) then nI (fl_kn σ o) else v)), (2, .int (nI (o))), (0, .ref (a 0))]) dX0_mostKnown_25 rfl (by decide) rfl ?_
        refine z_iinc C (L' := [(2, .int (nI (o + 1))), (1, .int (if v < nI (fl_kn σ o) then nI (fl_kn σ o) else v)), (0, .ref (a 0))]) dX0_mostKnown_26 1 rfl (z_inc1 _) (by decide) rfl ?_
        refine z_goto C (tgt := 4) dX0_mostKnown_29 (by decide) ?_
        refine z_sub (L' := [(2, .int (nI (o + 1))), (1, .int (if v < nI (fl_kn σ o) then nI (fl_kn σ o) else v)), (0, .ref (a 0))]) [0, 1, 2] rfl ?_
        exact ih_4 (o + 1) _ (by omega) (by omega) (by rw [fl_max, ← hv, hI.kn (by omega)])
  refine z_sub (L' := [(2, .int (nI (0))), (1, .int (nI (0))), (0, .ref (a 0))]) [0, 1, 2] rfl ?_
  exact loop_4 (n + 1) 0 _ (by omega) (by omega) rfl
set_option maxHeartbeats 4000000 in
set_option maxRecDepth 100000 in
theorem c_X0_fewestKnown (l : Launch) (D : va_G) (cI cZ cB cE : ClassId) (a : Nat → Nat) (σ : zF) (n : Nat) (hI : fl_Iv n σ) : zM l D (tyL cI cZ cB cE) yX0_fewestKnown cX0_fewestKnown 3 (some .int) (zR 1 21) [.ref (a 0)] [(shF a cI cZ, σ)] 0 0 (fun r u => r = some (.int (fl_min (σ 9) n)) ∧ u = [(shF a cI cZ, σ)]) := by
  have hn3 := hI.n3
  have hn7 := hI.n7
  refine z_of (by decide) (Nat.le_of_ble_eq_true rfl) rfl ?_
  intro p e s m args below meth c A C hr hin
  obtain ⟨Q, hQ⟩ : ∃ Q, Q = MQ below (zQ (fun r u => r = some (.int (fl_min (σ 9) n)) ∧ u = [(shF a cI cZ, σ)]) D (tyL cI cZ cB cE) A) args s 0 0 A := ⟨_, rfl⟩
  rw [← hQ]
  refine z_bipush C (v := nI (10)) (by decide) dX0_fewestKnown_0 ?_
  refine z_istore_n C (L' := [(1, .int (nI (10))), (0, .ref (a 0))]) dX0_fewestKnown_2 rfl (by decide) rfl ?_
  refine z_iconst C (v := nI (0)) (by decide) dX0_fewestKnown_3 ?_
  refine z_istore_n C (L' := [(2, .int (nI (0))), (1, .int (nI (10))), (0, .ref (a 0))]) dX0_fewestKnown_4 rfl (by decide) rfl ?_
  have loop_5 : ∀ (k_5 o : Nat) (v : Int32), n < o + k_5 → o ≤ n → (hv : v = fl_min (σ 9) o) → zK p l e (zR 1 21) s m args below meth c D A 3 Q 0 0 5 [(2, .int (nI (o))), (1, .int (v)), (0, .ref (a 0))] [] [(shF a cI cZ, σ)] := by
    intro k_5
    induction k_5 with
    | zero => intro o v m1_5 m2_5; exact absurd m1_5 (by omega)
    | succ k_5 ih_5 =>
      intro o v m1_5 m2_5 hv
      refine z_iload_n C dX0_fewestKnown_5 rfl 0 rfl ?_
      refine z_aload_n C dX0_fewestKnown_6 rfl 2 rfl ?_
      refine z_getI C wu_X0 0 rfl 0 rfl rfl 0 (by decide) rfl wf_X0_50 dX0_fewestKnown_7 ?_
      refine z_top (hI.n0 : _ = nI n) ?_
      refine z_icmp_geN C (tgt := 33) dX0_fewestKnown_10 (by decide) (by omega) (by omega) (fun c_10 => ?_) (fun c_10 => ?_)
      · refine z_iload_n C dX0_fewestKnown_33 rfl 1 rfl ?_
        rw [hQ]; exact z_iret C hr dX0_fewestKnown_34 ⟨congrArg (fun x => some (Value.int x)) (by rw [hv, show o = n by omega]), rfl⟩
      · refine z_iload_n C dX0_fewestKnown_13 rfl 1 rfl ?_
        refine z_aload_n C dX0_fewestKnown_14 rfl 2 rfl ?_
        refine z_getR C wu_X0 0 rfl 0 rfl rfl 12 (by decide) rfl wf_X0_37 dX0_fewestKnown_15 ?_
        refine z_getR C wu_X1 0 rfl 12 rfl rfl 1 (by decide) rfl wf_X0_74 dX0_fewestKnown_18 ?_
        refine z_iload_n C dX0_fewestKnown_21 rfl 0 rfl ?_
        refine z_iald C 0 rfl 9 0 rfl rfl dX0_fewestKnown_22 (by omega) (by decide) ?_
        refine z_top (y := nI (fl_kn σ o)) (hI.kn (by omega)) ?_
        have hb_1 := hI.knT (i := o) (by omega)
        refine z_mmin C wm_X0_41 ws_min wi_J9 wk_min ⟨(Nat.le_of_ble_eq_true rfl), (Nat.le_of_ble_eq_true rfl), (Nat.le_of_ble_eq_true rfl), (Nat.le_of_ble_eq_true rfl)⟩ dX0_fewestKnown_23 ?_
        refine z_istore_n C (L' := [(1, .int (if nI (fl_kn σ o) < v then nI (fl_kn σ o) else v)), (2, .int (nI (o))), (0, .ref (a 0))]) dX0_fewestKnown_26 rfl (by decide) rfl ?_
        refine z_iinc C (L' := [(2, .int (nI (o + 1))), (1, .int (if nI (fl_kn σ o) < v then nI (fl_kn σ o) else v)), (0, .ref (a 0))]) dX0_fewestKnown_27 1 rfl (z_inc1 _) (by decide) rfl ?_
        refine z_goto C (tgt := 5) dX0_fewestKnown_30 (by decide) ?_
        refine z_sub (L' := [(2, .int (nI (o + 1))), (1, .int (if nI (fl_kn σ o) < v then nI (fl_kn σ o) else v)), (0, .ref (a 0))]) [0, 1, 2] rfl ?_
        exact ih_5 (o + 1) _ (by omega) (by omega) (by rw [fl_min, ← hv, hI.kn (by omega)])
  refine z_sub (L' := [(2, .int (nI (0))), (1, .int (nI (10))), (0, .ref (a 0))]) [0, 1, 2] rfl ?_
  exact loop_5 (n + 1) 0 _ (by omega) (by omega) rfl
