theorem fl_yh {b o : Nat} {h : Bool} (e : (decide (b ≠ o) && h) = true) : o ≠ b ∧ h = true := by
  simp at e
  exact ⟨fun q => e.1 q.symm, e.2⟩
theorem fl_nh {b o : Nat} {h : Bool} (e : (decide (b ≠ o) && h) = false) : ¬ (o ≠ b ∧ h = true) := by
  rintro ⟨h1, rfl⟩
  simp at e
  exact h1 e.symm
theorem fl_take_rol (σ : zF) (b : Nat) (g : Int32) : fl_take σ b g 5 b = nI 0 := zU_self _ _ _ _
theorem fl_take_role (σ : zF) {b o : Nat} (g : Int32) (h : b ≠ o) : fl_take σ o g 5 b = σ 5 b := by
  unfold fl_take
  rw [zU_oth _ _ _ h]
  rfl
theorem fl_hof_role (σ : zF) {b o : Nat} (g : Int32) (h : b ≠ o) : fl_hof σ o g 5 b = σ 5 b := by
  unfold fl_hof
  split
  · rfl
  · exact fl_take_role σ g h
theorem nI_10 : ¬ nI 1 = 0 := by decide
theorem fl_std0_rol (σ : zF) (b : Nat) : fl_std0 σ b 5 b = nI 1 := zU_self (zU (zU σ 0 2 (σ 0 2 + nI 1)) 3 b (σ 3 b + nI 1)) 5 b (nI 1)
theorem nI_01 : ¬ nI 0 = nI 1 := by decide
theorem nI_02 : ¬ nI 0 = nI 2 := by decide
theorem fl_hof_lt {σ : zF} {b : Nat} {g : Int32} (h : σ 3 b < g) : fl_hof σ b g = fl_take σ b g := by rw [fl_hof, if_neg (Int32.not_le.mpr h)]
theorem fl_ask_ret {n b o v : Nat} {τ : zF} (ho : o < n) (h5 : τ 5 b = nI 1) (hh : o ≠ b ∧ fl_hear τ b o = true) (hlt : τ 3 b < τ 3 o) : fl_stdE n b (fl_ask n b o v τ) = fl_hof τ b (τ 3 o) := by
  have h0 : ¬ fl_take τ b (τ 3 o) 5 b = nI 1 := by rw [fl_take_rol]; exact nI_01
  rw [fl_ask_go n b o v τ ho h5, if_pos hh, fl_votS, if_pos hlt, fl_ask_stop _ _ _ _ _ h0, fl_hof_lt hlt]
  exact if_neg (fun q => h0 q.1)
theorem fl_tells_ret {n b o : Nat} {τ : zF} (ho : o < n) (h5 : τ 5 b = nI 2) (hh : o ≠ b ∧ fl_hear τ b o = true) (hlt : τ 3 b < τ 3 o) : fl_tells n b o τ = fl_hof τ b (τ 3 o) := by
  have h0 : ¬ fl_take τ b (τ 3 o) 5 b = nI 2 := by rw [fl_take_rol]; exact nI_02
  rw [fl_tells_go n b o τ ho h5, if_pos hh, fl_tel, if_pos hlt, fl_tells_stop _ _ _ _ h0, fl_hof_lt hlt]
theorem fl_mend_role (σ : zF) (t o b : Nat) : fl_mend σ t o 5 b = σ 5 b := by
  unfold fl_mend fl_app
  split
  · rfl
  · split <;> rfl
theorem fl_lose_role (σ : zF) (c : Bool) (b : Nat) : fl_lose σ c 5 b = σ 5 b := by
  unfold fl_lose
  split <;> rfl
theorem fl_telT_role (σ : zF) {t o b : Nat} (h : b ≠ o) : fl_telT σ t o 5 b = σ 5 b := by
  unfold fl_telT
  show fl_lose (fl_mend (fl_got σ o) t o) (fl_cut (fl_got σ o) t o) 5 b = σ 5 b
  rw [fl_lose_role, fl_mend_role]
  show zU σ 5 o (nI 0) 5 b = σ 5 b
  exact zU_oth _ _ _ h
theorem fl_lead_r {σ : zF} {b : Nat} (h : fl_lead σ b = true) : σ 5 b = nI 2 := (of_decide_eq_true h).2
theorem fl_lead_u {σ : zF} {b : Nat} (h : fl_lead σ b = true) : ¬ σ 7 b = 0 := (of_decide_eq_true h).1
theorem fl_hear_self {σ : zF} {b : Nat} (h : ¬ σ 7 b = 0) : fl_hear σ b b = true := decide_eq_true ⟨h, h, rfl⟩
theorem fl_agrL_self (σ : zF) (b : Nat) : ∀ f k : Nat, fl_agrL σ b b f k = k + f
  | 0, _ => rfl
  | f + 1, k => by
    rw [fl_agrL, if_pos ⟨rfl, rfl⟩, fl_agrL_self σ b f (k + 1)]
    omega
theorem fl_agr_self (σ : zF) (b : Nat) : fl_agr σ b b = fl_ln σ b := by
  rw [fl_agr, fl_agrL_self]
  omega
/-- the others are counted, and the boat itself -/
theorem fl_ct_self {p : Nat → Bool} {b : Nat} (hp : p b = true) : ∀ n : Nat, fl_ct p n = fl_ct (fun o => decide (b ≠ o) && p o) n + (if b < n then 1 else 0)
  | 0 => rfl
  | n + 1 => by
    have ih := fl_ct_self hp n
    unfold fl_ct
    by_cases h : b = n
    · subst h
      rw [if_pos hp, ih, if_neg (Nat.lt_irrefl b), if_pos (Nat.lt_succ_self b)]
      simp
    · have e : (decide (b ≠ n) && p n) = p n := by simp [h]
      rw [e, ih]
      by_cases q : b < n
      · rw [if_pos q, if_pos (show b < n + 1 by omega)]
        split <;> omega
      · rw [if_neg q, if_neg (show ¬ b < n + 1 by omega)]
        split <;> omega
theorem fl_cnt_self {n k b : Nat} {σ : zF} (hb : b < n) (hu : ¬ σ 7 b = 0) (hk : k ≤ fl_ln σ b) : 1 + fl_ct (fun o => decide (b ≠ o) && fl_agrees σ b k o) n = fl_cnt n σ b k := by
  have h := fl_ct_self (p := fl_agrees σ b k) (b := b) (by unfold fl_agrees; rw [fl_hear_self hu, fl_agr_self]; simp [hk]) n
  rw [if_pos hb] at h
  unfold fl_cnt
  omega
theorem fl_ct_cong {p q : Nat → Bool} : ∀ {n : Nat}, (∀ i, i < n → p i = q i) → fl_ct p n = fl_ct q n
  | 0, _ => rfl
  | n + 1, h => by
    unfold fl_ct
    rw [fl_ct_cong (fun i hi => h i (by omega)), h n (by omega)]
theorem fl_upIn_self {n b : Nat} {σ : zF} (hb : b < n) (hu : ¬ σ 7 b = 0) : 1 + fl_ct (fun o => decide (b ≠ o) && fl_hear σ b o) n = fl_upIn n σ (σ 6 b) := by
  have h := fl_ct_self (p := fl_hear σ b) (b := b) (fl_hear_self hu) n
  rw [if_pos hb] at h
  have h2 : fl_ct (fl_hear σ b) n = fl_upIn n σ (σ 6 b) := fl_ct_cong (fun i _ => by
    unfold fl_hear
    simp [hu, eq_comm])
  omega
theorem fl_mend_c {σ : zF} {t o : Nat} (h : fl_agr σ t o < fl_ln σ o) : fl_mend σ t o = zU σ 8 o (nI (fl_ln σ o - 1)) := by rw [fl_mend, if_pos h]
theorem fl_mend_a {σ : zF} {t o : Nat} (h : ¬ fl_agr σ t o < fl_ln σ o) (h2 : fl_agr σ t o < fl_ln σ t) : fl_mend σ t o = fl_app σ o (σ 10 (t * 10 + fl_agr σ t o)) (σ 11 (t * 10 + fl_agr σ t o)) := by rw [fl_mend, if_neg h, if_pos h2]
theorem fl_mend_n {σ : zF} {t o : Nat} (h : ¬ fl_agr σ t o < fl_ln σ o) (h2 : ¬ fl_agr σ t o < fl_ln σ t) : fl_mend σ t o = σ := by rw [fl_mend, if_neg h, if_neg h2]
theorem fl_cut_t {σ : zF} {t o : Nat} (h : fl_agr σ t o < fl_ln σ o) : fl_cut σ t o = true := decide_eq_true h
theorem fl_cut_f {σ : zF} {t o : Nat} (h : ¬ fl_agr σ t o < fl_ln σ o) : fl_cut σ t o = false := decide_eq_false h
set_option maxHeartbeats 4000000 in
set_option maxRecDepth 100000 in
theorem c_X3_isMore (l : Launch) (D : va_G) (cI cZ cJ : ClassId) (a : Nat → Nat) (σ : zF) (n : Nat) (hI : fl_Iv n σ) (v : Nat) (hv : v < 2 ^ 31) : zM l D (tyL cI cZ cJ) yX3_isMore cX3_isMore 2 (some .boolean) (zR 0 0) [.ref (a 0), .int (nI (v))] [(shS a cI, σ)] 0 0 (fun r u => r = some (.int (zb (decide (n / 2 < v)))) ∧ u = [(shS a cI, σ)]) := by
  have hn3 := hI.n3
  have hn7 := hI.n7
  refine z_of (by decide) (Nat.le_of_ble_eq_true rfl) rfl ?_
  intro p e s m args below meth c A C hr hin
  obtain ⟨Q, hQ⟩ : ∃ Q, Q = MQ below (zQ (fun r u => r = some (.int (zb (decide (n / 2 < v)))) ∧ u = [(shS a cI, σ)]) D (tyL cI cZ cJ) A) args s 0 0 A := ⟨_, rfl⟩
  rw [← hQ]
  refine z_iload_n C dX3_isMore_0 rfl 1 rfl ?_
  refine z_aload_n C dX3_isMore_1 rfl 0 rfl ?_
  refine z_getI C wu_X3 0 rfl 0 rfl rfl 0 (by decide) rfl wf_X3_9 dX3_isMore_2 ?_
  refine z_top (hI.n0 : _ = nI n) ?_
  refine z_iconst C (v := nI (2)) (by decide) dX3_isMore_5 ?_
  refine z_idivN C dX3_isMore_6 (by omega) (by omega) (by omega) ?_
  refine z_icmp_leN C (tgt := 14) dX3_isMore_7 (by decide) (by omega) (by omega) (fun c_7 => ?_) (fun c_7 => ?_)
  · refine z_iconst C (v := nI (0)) (by decide) dX3_isMore_14 ?_
    rw [hQ]; exact z_zret C hr (by decide) dX3_isMore_15 ⟨z_b0 (by (simp only [decide_eq_true_eq, decide_eq_false_iff_not]; omega)), rfl⟩
  · refine z_iconst C (v := nI (1)) (by decide) dX3_isMore_10 ?_
    refine z_goto C (tgt := 15) dX3_isMore_11 (by decide) ?_
    rw [hQ]; exact z_zret C hr (by decide) dX3_isMore_15 ⟨z_b1 (by (simp only [decide_eq_true_eq, decide_eq_false_iff_not]; omega)), rfl⟩
set_option maxHeartbeats 4000000 in
set_option maxRecDepth 100000 in
theorem c_X3_isUp (l : Launch) (D : va_G) (cI cZ cJ : ClassId) (a : Nat → Nat) (σ : zF) (n : Nat) (hI : fl_Iv n σ) (b : Nat) (k : Nat) (hb : b < n) : zM l D (tyL cI cZ cJ) yX3_isUp cX3_isUp 3 (some .boolean) (zR 0 0) [.ref (a 0), .int (nI (b)), .int (nI (k))] [(shS a cI, σ)] 0 0 (fun r u => r = some (.int (zb (decide (¬ σ 7 b = 0 ∧ σ 5 b = nI k)))) ∧ u = [(shS a cI, σ)]) := by
  have hn3 := hI.n3
  have hn7 := hI.n7
  refine z_of (by decide) (Nat.le_of_ble_eq_true rfl) rfl ?_
  intro p e s m args below meth c A C hr hin
  obtain ⟨Q, hQ⟩ : ∃ Q, Q = MQ below (zQ (fun r u => r = some (.int (zb (decide (¬ σ 7 b = 0 ∧ σ 5 b = nI k)))) ∧ u = [(shS a cI, σ)]) D (tyL cI cZ cJ) A) args s 0 0 A := ⟨_, rfl⟩
  rw [← hQ]
  refine z_aload_n C dX3_isUp_0 rfl 0 rfl ?_
  refine z_getR C wu_X3 0 rfl 0 rfl rfl 11 (by decide) rfl wf_X3_34 dX3_isUp_1 ?_
  refine z_iload_n C dX3_isUp_4 rfl 1 rfl ?_
  refine z_iald C 0 rfl 7 0 rfl rfl dX3_isUp_5 (by omega) (by decide) ?_
  refine z_iconst C (v := nI (1)) (by decide) dX3_isUp_6 ?_
  refine z_icmp_ne C (tgt := 24) dX3_isUp_7 (by decide) (fun c_7 => ?_) (fun c_7 => ?_)
  · refine z_iconst C (v := nI (0)) (by decide) dX3_isUp_24 ?_
    rw [hQ]; exact z_zret C hr (by decide) dX3_isUp_25 ⟨z_b0 (by simp [← hI.up1 hb, nI_10, c_7]), rfl⟩
  · refine z_aload_n C dX3_isUp_10 rfl 0 rfl ?_
    refine z_getR C wu_X3 0 rfl 0 rfl rfl 9 (by decide) rfl wf_X3_28 dX3_isUp_11 ?_
    refine z_iload_n C dX3_isUp_14 rfl 1 rfl ?_
    refine z_iald C 0 rfl 5 0 rfl rfl dX3_isUp_15 (by omega) (by decide) ?_
    refine z_iload_n C dX3_isUp_16 rfl 2 rfl ?_
    refine z_icmp_ne C (tgt := 24) dX3_isUp_17 (by decide) (fun c_17 => ?_) (fun c_17 => ?_)
    · refine z_iconst C (v := nI (0)) (by decide) dX3_isUp_24 ?_
      rw [hQ]; exact z_zret C hr (by decide) dX3_isUp_25 ⟨z_b0 (by simp [← hI.up1 hb, nI_10, c_7, c_17]), rfl⟩
    · refine z_iconst C (v := nI (1)) (by decide) dX3_isUp_20 ?_
      refine z_goto C (tgt := 25) dX3_isUp_21 (by decide) ?_
      rw [hQ]; exact z_zret C hr (by decide) dX3_isUp_25 ⟨z_b1 (by simp [← hI.up1 hb, nI_10, c_7, c_17]), rfl⟩
set_option maxHeartbeats 4000000 in
set_option maxRecDepth 100000 in
theorem c_X3_hear (l : Launch) (D : va_G) (cI cZ cJ : ClassId) (a : Nat → Nat) (σ : zF) (n : Nat) (hI : fl_Iv n σ) (x : Nat) (y : Nat) (hx : x < n) (hy : y < n) : zM l D (tyL cI cZ cJ) yX3_hear cX3_hear 3 (some .boolean) (zR 0 0) [.ref (a 0), .int (nI (x)), .int (nI (y))] [(shS a cI, σ)] 0 0 (fun r u => r = some (.int (zb (decide (x ≠ y) && fl_hear σ x y))) ∧ u = [(shS a cI, σ)]) := by
  have hn3 := hI.n3
  have hn7 := hI.n7
  refine z_of (by decide) (Nat.le_of_ble_eq_true rfl) rfl ?_
  intro p e s m args below meth c A C hr hin
  obtain ⟨Q, hQ⟩ : ∃ Q, Q = MQ below (zQ (fun r u => r = some (.int (zb (decide (x ≠ y) && fl_hear σ x y))) ∧ u = [(shS a cI, σ)]) D (tyL cI cZ cJ) A) args s 0 0 A := ⟨_, rfl⟩
  rw [← hQ]
  refine z_iload_n C dX3_hear_0 rfl 1 rfl ?_
  refine z_iload_n C dX3_hear_1 rfl 2 rfl ?_
  refine z_icmp_eqN C (tgt := 44) dX3_hear_2 (by decide) (by omega) (by omega) (fun c_2 => ?_) (fun c_2 => ?_)
  · refine z_iconst C (v := nI (0)) (by decide) dX3_hear_44 ?_
    rw [hQ]; exact z_zret C hr (by decide) dX3_hear_45 ⟨z_b0 (by simp [fl_hear, nI_10, ← hI.up1 hx, ← hI.up1 hy, c_2]), rfl⟩
  · refine z_aload_n C dX3_hear_5 rfl 0 rfl ?_
    refine z_getR C wu_X3 0 rfl 0 rfl rfl 11 (by decide) rfl wf_X3_34 dX3_hear_6 ?_
    refine z_iload_n C dX3_hear_9 rfl 1 rfl ?_
    refine z_iald C 0 rfl 7 0 rfl rfl dX3_hear_10 (by omega) (by decide) ?_
    refine z_iconst C (v := nI (1)) (by decide) dX3_hear_11 ?_
    refine z_icmp_ne C (tgt := 44) dX3_hear_12 (by decide) (fun c_12 => ?_) (fun c_12 => ?_)
    · refine z_iconst C (v := nI (0)) (by decide) dX3_hear_44 ?_
      rw [hQ]; exact z_zret C hr (by decide) dX3_hear_45 ⟨z_b0 (by simp [fl_hear, nI_10, ← hI.up1 hx, ← hI.up1 hy, c_2, c_12]), rfl⟩
    · refine z_aload_n C dX3_hear_15 rfl 0 rfl ?_
      refine z_getR C wu_X3 0 rfl 0 rfl rfl 11 (by decide) rfl wf_X3_34 dX3_hear_16 ?_
      refine z_iload_n C dX3_hear_19 rfl 2 rfl ?_
      refine z_iald C 0 rfl 7 0 rfl rfl dX3_hear_20 (by omega) (by decide) ?_
      refine z_iconst C (v := nI (1)) (by decide) dX3_hear_21 ?_
      refine z_icmp_ne C (tgt := 44) dX3_hear_22 (by decide) (fun c_22 => ?_) (fun c_22 => ?_)
      · refine z_iconst C (v := nI (0)) (by decide) dX3_hear_44 ?_
        rw [hQ]; exact z_zret C hr (by decide) dX3_hear_45 ⟨z_b0 (by simp [fl_hear, nI_10, ← hI.up1 hx, ← hI.up1 hy, c_2, c_12, c_22]), rfl⟩
      · refine z_aload_n C dX3_hear_25 rfl 0 rfl ?_
        refine z_getR C wu_X3 0 rfl 0 rfl rfl 10 (by decide) rfl wf_X3_31 dX3_hear_26 ?_
        refine z_iload_n C dX3_hear_29 rfl 1 rfl ?_
        refine z_iald C 0 rfl 6 0 rfl rfl dX3_hear_30 (by omega) (by decide) ?_
        refine z_aload_n C dX3_hear_31 rfl 0 rfl ?_
        refine z_getR C wu_X3 0 rfl 0 rfl rfl 10 (by decide) rfl wf_X3_31 dX3_hear_32 ?_
        refine z_iload_n C dX3_hear_35 rfl 2 rfl ?_
        refine z_iald C 0 rfl 6 0 rfl rfl dX3_hear_36 (by omega) (by decide) ?_
        refine z_icmp_ne C (tgt := 44) dX3_hear_37 (by decide) (fun c_37 => ?_) (fun c_37 => ?_)
        · refine z_iconst C (v := nI (0)) (by decide) dX3_hear_44 ?_
          rw [hQ]; exact z_zret C hr (by decide) dX3_hear_45 ⟨z_b0 (by simp [fl_hear, nI_10, ← hI.up1 hx, ← hI.up1 hy, c_2, c_12, c_22, c_37]), rfl⟩
        · refine z_iconst C (v := nI (1)) (by decide) dX3_hear_40 ?_
          refine z_goto C (tgt := 45) dX3_hear_41 (by decide) ?_
          rw [hQ]; exact z_zret C hr (by decide) dX3_hear_45 ⟨z_b1 (by simp [fl_hear, nI_10, ← hI.up1 hx, ← hI.up1 hy, c_2, c_12, c_22, c_37]), rfl⟩
set_option maxHeartbeats 4000000 in
set_option maxRecDepth 100000 in
theorem c_X3_agree (l : Launch) (D : va_G) (cI cZ cJ : ClassId) (a : Nat → Nat) (σ : zF) (n : Nat) (hI : fl_Iv n σ) (x : Nat) (y : Nat) (hx : x < n) (hy : y < n) : zM l D (tyL cI cZ cJ) yX3_agree cX3_agree 4 (some .int) (zR 0 0) [.ref (a 0), .int (nI (x)), .int (nI (y))] [(shS a cI, σ)] 0 0 (fun r u => r = some (.int (nI (fl_agr σ x y))) ∧ u = [(shS a cI, σ)]) := by
  have hn3 := hI.n3
  have hn7 := hI.n7
  refine z_of (by decide) (Nat.le_of_ble_eq_true rfl) rfl ?_
  intro p e s m args below meth c A C hr hin
  obtain ⟨Q, hQ⟩ : ∃ Q, Q = MQ below (zQ (fun r u => r = some (.int (nI (fl_agr σ x y))) ∧ u = [(shS a cI, σ)]) D (tyL cI cZ cJ) A) args s 0 0 A := ⟨_, rfl⟩
  rw [← hQ]
  have hlx := hI.lnT hx
  have hly := hI.lnT hy
  refine z_iconst C (v := nI (0)) (by decide) dX3_agree_0 ?_
  refine z_istore_n C (L' := [(3, .int (nI (0))), (0, .ref (a 0)), (1, .int (nI (x))), (2, .int (nI (y)))]) dX3_agree_1 rfl (by decide) rfl ?_
  have loop_2 : ∀ (k_2 k : Nat), (min (fl_ln σ x) (fl_ln σ y)) < k + k_2 → k ≤ (min (fl_ln σ x) (fl_ln σ y)) → (hres : fl_agrL σ x y ((min (fl_ln σ x) (fl_ln σ y)) - k) k = fl_agr σ x y) → zK p l e (zR 0 0) s m args below meth c D A 4 Q 0 0 2 [(3, .int (nI (k))), (2, .int (nI (y))), (1, .int (nI (x))), (0, .ref (a 0))] [] [(shS a cI, σ)] := by
    intro k_2
    induction k_2 with
    | zero => intro k  m1_2 m2_2; exact absurd m1_2 (by omega)
    | succ k_2 ih_2 =>
      intro k  m1_2 m2_2 hres
      refine z_iload_n C dX3_agree_2 rfl 0 rfl ?_
      refine z_aload_n C dX3_agree_3 rfl 3 rfl ?_
      refine z_getR C wu_X3 0 rfl 0 rfl rfl 12 (by decide) rfl wf_X3_37 dX3_agree_4 ?_
      refine z_iload_n C dX3_agree_7 rfl 2 rfl ?_
      refine z_iald C 0 rfl 8 0 rfl rfl dX3_agree_8 (by omega) (by decide) ?_
      refine z_top (y := nI (fl_ln σ x)) (hI.ln (by omega)) ?_
      have hb_1 := hI.lnT (i := x) (by omega)
      refine z_icmp_geN C (tgt := 78) dX3_agree_9 (by decide) (by omega) (by omega) (fun c_9 => ?_) (fun c_9 => ?_)
      · refine z_iload_n C dX3_agree_78 rfl 0 rfl ?_
        rw [hQ]; exact z_iret C hr dX3_agree_79 ⟨congrArg (fun x => some (Value.int (nI x))) (by have h := hres; rw [fl_agr_end _ _ _ _ _ (by omega)] at h; exact h), rfl⟩
      · refine z_iload_n C dX3_agree_12 rfl 0 rfl ?_
        refine z_aload_n C dX3_agree_13 rfl 3 rfl ?_
        refine z_getR C wu_X3 0 rfl 0 rfl rfl 12 (by decide) rfl wf_X3_37 dX3_agree_14 ?_
        refine z_iload_n C dX3_agree_17 rfl 1 rfl ?_
        refine z_iald C 0 rfl 8 0 rfl rfl dX3_agree_18 (by omega) (by decide) ?_
        refine z_top (y := nI (fl_ln σ y)) (hI.ln (by omega)) ?_
        have hb_2 := hI.lnT (i := y) (by omega)
        refine z_icmp_geN C (tgt := 78) dX3_agree_19 (by decide) (by omega) (by omega) (fun c_19 => ?_) (fun c_19 => ?_)
        · refine z_iload_n C dX3_agree_78 rfl 0 rfl ?_
          rw [hQ]; exact z_iret C hr dX3_agree_79 ⟨congrArg (fun x => some (Value.int (nI x))) (by have h := hres; rw [fl_agr_end _ _ _ _ _ (by omega)] at h; exact h), rfl⟩
        · refine z_aload_n C dX3_agree_22 rfl 3 rfl ?_
          refine z_getR C wu_X3 0 rfl 0 rfl rfl 14 (by decide) rfl wf_X3_43 dX3_agree_23 ?_
          refine z_bipush C (v := nI (10)) (by decide) dX3_agree_26 ?_
          refine z_iload_n C dX3_agree_28 rfl 2 rfl ?_
          refine z_imulN C dX3_agree_29 ?_
          refine z_top (congrArg nI (Nat.mul_comm _ _)) ?_
          refine z_iload_n C dX3_agree_30 rfl 0 rfl ?_
          refine z_iaddN C dX3_agree_31 ?_
          refine z_iald C 0 rfl 10 0 rfl rfl dX3_agree_32 (by omega) (by decide) ?_
          refine z_aload_n C dX3_agree_33 rfl 3 rfl ?_
          refine z_getR C wu_X3 0 rfl 0 rfl rfl 14 (by decide) rfl wf_X3_43 dX3_agree_34 ?_
          refine z_bipush C (v := nI (10)) (by decide) dX3_agree_37 ?_
          refine z_iload_n C dX3_agree_39 rfl 1 rfl ?_
          refine z_imulN C dX3_agree_40 ?_
          refine z_top (congrArg nI (Nat.mul_comm _ _)) ?_
          refine z_iload_n C dX3_agree_41 rfl 0 rfl ?_
          refine z_iaddN C dX3_agree_42 ?_
          refine z_iald C 0 rfl 10 0 rfl rfl dX3_agree_43 (by omega) (by decide) ?_
          refine z_icmp_ne C (tgt := 78) dX3_agree_44 (by decide) (fun c_44 => ?_) (fun c_44 => ?_)
          · refine z_iload_n C dX3_agree_78 rfl 0 rfl ?_
            rw [hQ]; exact z_iret C hr dX3_agree_79 ⟨congrArg (fun x => some (Value.int (nI x))) (by have h := hres; rw [fl_agr_go _ _ _ _ _ (by omega), if_neg (fun q => c_44 q.1)] at h; exact h), rfl⟩
          · refine z_aload_n C dX3_agree_47 rfl 3 rfl ?_
            refine z_getR C wu_X3 0 rfl 0 rfl rfl 15 (by decide) rfl wf_X3_46 dX3_agree_48 ?_
            refine z_bipush C (v := nI (10)) (by decide) dX3_agree_51 ?_
            refine z_iload_n C dX3_agree_53 rfl 2 rfl ?_
            refine z_imulN C dX3_agree_54 ?_
            refine z_top (congrArg nI (Nat.mul_comm _ _)) ?_
            refine z_iload_n C dX3_agree_55 rfl 0 rfl ?_
            refine z_iaddN C dX3_agree_56 ?_
            refine z_iald C 0 rfl 11 0 rfl rfl dX3_agree_57 (by omega) (by decide) ?_
            refine z_aload_n C dX3_agree_58 rfl 3 rfl ?_
            refine z_getR C wu_X3 0 rfl 0 rfl rfl 15 (by decide) rfl wf_X3_46 dX3_agree_59 ?_
            refine z_bipush C (v := nI (10)) (by decide) dX3_agree_62 ?_
            refine z_iload_n C dX3_agree_64 rfl 1 rfl ?_
            refine z_imulN C dX3_agree_65 ?_
            refine z_top (congrArg nI (Nat.mul_comm _ _)) ?_
            refine z_iload_n C dX3_agree_66 rfl 0 rfl ?_
            refine z_iaddN C dX3_agree_67 ?_
            refine z_iald C 0 rfl 11 0 rfl rfl dX3_agree_68 (by omega) (by decide) ?_
            refine z_icmp_ne C (tgt := 78) dX3_agree_69 (by decide) (fun c_69 => ?_) (fun c_69 => ?_)
            · refine z_iload_n C dX3_agree_78 rfl 0 rfl ?_
              rw [hQ]; exact z_iret C hr dX3_agree_79 ⟨congrArg (fun x => some (Value.int (nI x))) (by have h := hres; rw [fl_agr_go _ _ _ _ _ (by omega), if_neg (fun q => c_69 q.2)] at h; exact h), rfl⟩
            · refine z_iinc C (L' := [(3, .int (nI (k + 1))), (2, .int (nI (y))), (1, .int (nI (x))), (0, .ref (a 0))]) dX3_agree_72 0 rfl (z_inc1 _) (by decide) rfl ?_
              refine z_goto C (tgt := 2) dX3_agree_75 (by decide) ?_
              refine z_sub (L' := [(3, .int (nI (k + 1))), (2, .int (nI (y))), (1, .int (nI (x))), (0, .ref (a 0))]) [0, 1, 2, 3] rfl ?_
              exact ih_2 (k + 1)  (by omega) (by omega) (by have h := hres; rw [fl_agr_go _ _ _ _ _ (by omega), if_pos ⟨c_44, c_69⟩] at h; exact h)
  refine z_sub (L' := [(3, .int (nI (0))), (2, .int (nI (y))), (1, .int (nI (x))), (0, .ref (a 0))]) [0, 3, 2, 1] rfl ?_
  exact loop_2 ((min (fl_ln σ x) (fl_ln σ y)) + 1) 0  (by omega) (by omega) rfl
set_option maxHeartbeats 4000000 in
set_option maxRecDepth 100000 in
theorem c_X3_lastTerm (l : Launch) (D : va_G) (cI cZ cJ : ClassId) (a : Nat → Nat) (σ : zF) (n : Nat) (hI : fl_Iv n σ) (b : Nat) (hb : b < n) : zM l D (tyL cI cZ cJ) yX3_lastTerm cX3_lastTerm 2 (some .int) (zR 0 0) [.ref (a 0), .int (nI (b))] [(shS a cI, σ)] 0 0 (fun r u => r = some (.int (fl_last σ b)) ∧ u = [(shS a cI, σ)]) := by
  have hn3 := hI.n3
  have hn7 := hI.n7
  refine z_of (by decide) (Nat.le_of_ble_eq_true rfl) rfl ?_
  intro p e s m args below meth c A C hr hin
  obtain ⟨Q, hQ⟩ : ∃ Q, Q = MQ below (zQ (fun r u => r = some (.int (fl_last σ b)) ∧ u = [(shS a cI, σ)]) D (tyL cI cZ cJ) A) args s 0 0 A := ⟨_, rfl⟩
  rw [← hQ]
  refine z_aload_n C dX3_lastTerm_0 rfl 0 rfl ?_
  refine z_getR C wu_X3 0 rfl 0 rfl rfl 12 (by decide) rfl wf_X3_37 dX3_lastTerm_1 ?_
  refine z_iload_n C dX3_lastTerm_4 rfl 1 rfl ?_
  refine z_iald C 0 rfl 8 0 rfl rfl dX3_lastTerm_5 (by omega) (by decide) ?_
  refine z_top (y := nI (fl_ln σ b)) (hI.ln (by omega)) ?_
  have hb_1 := hI.lnT (i := b) (by omega)
  refine z_if_neN C (tgt := 13) dX3_lastTerm_6 (by decide) (by omega) (fun c_6 => ?_) (fun c_6 => ?_)
  · refine z_aload_n C dX3_lastTerm_13 rfl 0 rfl ?_
    refine z_getR C wu_X3 0 rfl 0 rfl rfl 14 (by decide) rfl wf_X3_43 dX3_lastTerm_14 ?_
    refine z_bipush C (v := nI (10)) (by decide) dX3_lastTerm_17 ?_
    refine z_iload_n C dX3_lastTerm_19 rfl 1 rfl ?_
    refine z_imulN C dX3_lastTerm_20 ?_
    refine z_top (congrArg nI (Nat.mul_comm _ _)) ?_
    refine z_aload_n C dX3_lastTerm_21 rfl 0 rfl ?_
    refine z_getR C wu_X3 0 rfl 0 rfl rfl 12 (by decide) rfl wf_X3_37 dX3_lastTerm_22 ?_
    refine z_iload_n C dX3_lastTerm_25 rfl 1 rfl ?_
    refine z_iald C 0 rfl 8 0 rfl rfl dX3_lastTerm_26 (by omega) (by decide) ?_
    refine z_top (y := nI (fl_ln σ b)) (hI.ln (by omega)) ?_
    have hb_2 := hI.lnT (i := b) (by omega)
    refine z_iaddN C dX3_lastTerm_27 ?_
    refine z_iconst C (v := nI (1)) (by decide) dX3_lastTerm_28 ?_
    refine z_isubN C dX3_lastTerm_29 (by omega) ?_
    refine z_iald C 0 rfl 10 0 rfl rfl dX3_lastTerm_30 (by omega) (by decide) ?_
    rw [hQ]; exact z_iret C hr dX3_lastTerm_31 ⟨congrArg (fun x => some (Value.int x)) (by unfold fl_last; first | rw [if_pos (by omega)] | rw [if_neg (by omega)]), rfl⟩
  · refine z_iconst C (v := -1) (by decide) dX3_lastTerm_9 ?_
    refine z_goto C (tgt := 31) dX3_lastTerm_10 (by decide) ?_
    rw [hQ]; exact z_iret C hr dX3_lastTerm_31 ⟨congrArg (fun x => some (Value.int x)) (by unfold fl_last; first | rw [if_pos (by omega)] | rw [if_neg (by omega)]), rfl⟩
set_option maxHeartbeats 4000000 in
set_option maxRecDepth 100000 in
theorem c_X3_isAsNew (l : Launch) (D : va_G) (cI cZ cJ : ClassId) (a : Nat → Nat) (σ : zF) (n : Nat) (hI : fl_Iv n σ) (x : Nat) (y : Nat) (hx : x < n) (hy : y < n) : zM l D (tyL cI cZ cJ) yX3_isAsNew cX3_isAsNew 3 (some .boolean) (zR 1 21) [.ref (a 0), .int (nI (x)), .int (nI (y))] [(shS a cI, σ)] 0 0 (fun r u => r = some (.int (zb (fl_nw σ x y))) ∧ u = [(shS a cI, σ)]) := by
  have hn3 := hI.n3
  have hn7 := hI.n7
  refine z_of (by decide) (Nat.le_of_ble_eq_true rfl) rfl ?_
  intro p e s m args below meth c A C hr hin
  obtain ⟨Q, hQ⟩ : ∃ Q, Q = MQ below (zQ (fun r u => r = some (.int (zb (fl_nw σ x y))) ∧ u = [(shS a cI, σ)]) D (tyL cI cZ cJ) A) args s 0 0 A := ⟨_, rfl⟩
  rw [← hQ]
  refine z_aload_n C dX3_isAsNew_0 rfl 0 rfl ?_
  refine z_iload_n C dX3_isAsNew_1 rfl 1 rfl ?_
  refine z_cV C (st' := [.int (fl_last σ x)]) (B' := [(shS a cI, σ)]) [true] rfl (c_X3_lastTerm l D cI cZ cJ a σ n hI x (by omega)) wq_yX3_lastTerm wm_X3_75 ⟨wn_yX3_lastTerm, wo_yX3_lastTerm⟩ ⟨rfl, rfl, Nat.le_of_ble_eq_true rfl, Nat.le_of_ble_eq_true rfl⟩ 0 rfl 0 rfl rfl rfl rfl (Nat.le_of_ble_eq_true rfl) dX3_isAsNew_2 ⟨Nat.le_of_ble_eq_true rfl, Nat.le_of_ble_eq_true rfl⟩ rfl rfl ?_
  refine z_aload_n C dX3_isAsNew_5 rfl 0 rfl ?_
  refine z_iload_n C dX3_isAsNew_6 rfl 2 rfl ?_
  refine z_cV C (st' := [.int (fl_last σ y), .int (fl_last σ x)]) (B' := [(shS a cI, σ)]) [true] rfl (c_X3_lastTerm l D cI cZ cJ a σ n hI y (by omega)) wq_yX3_lastTerm wm_X3_75 ⟨wn_yX3_lastTerm, wo_yX3_lastTerm⟩ ⟨rfl, rfl, Nat.le_of_ble_eq_true rfl, Nat.le_of_ble_eq_true rfl⟩ 0 rfl 0 rfl rfl rfl rfl (Nat.le_of_ble_eq_true rfl) dX3_isAsNew_7 ⟨Nat.le_of_ble_eq_true rfl, Nat.le_of_ble_eq_true rfl⟩ rfl rfl ?_
  refine z_icmp_eq C (tgt := 34) dX3_isAsNew_10 (by decide) (fun c_10 => ?_) (fun c_10 => ?_)
  · refine z_aload_n C dX3_isAsNew_34 rfl 0 rfl ?_
    refine z_getR C wu_X3 0 rfl 0 rfl rfl 12 (by decide) rfl wf_X3_37 dX3_isAsNew_35 ?_
    refine z_iload_n C dX3_isAsNew_38 rfl 1 rfl ?_
    refine z_iald C 0 rfl 8 0 rfl rfl dX3_isAsNew_39 (by omega) (by decide) ?_
    refine z_top (y := nI (fl_ln σ x)) (hI.ln (by omega)) ?_
    have hb_1 := hI.lnT (i := x) (by omega)
    refine z_aload_n C dX3_isAsNew_40 rfl 0 rfl ?_
    refine z_getR C wu_X3 0 rfl 0 rfl rfl 12 (by decide) rfl wf_X3_37 dX3_isAsNew_41 ?_
    refine z_iload_n C dX3_isAsNew_44 rfl 2 rfl ?_
    refine z_iald C 0 rfl 8 0 rfl rfl dX3_isAsNew_45 (by omega) (by decide) ?_
    refine z_top (y := nI (fl_ln σ y)) (hI.ln (by omega)) ?_
    have hb_2 := hI.lnT (i := y) (by omega)
    refine z_icmp_ltN C (tgt := 53) dX3_isAsNew_46 (by decide) (by omega) (by omega) (fun c_46 => ?_) (fun c_46 => ?_)
    · refine z_iconst C (v := nI (0)) (by decide) dX3_isAsNew_53 ?_
      rw [hQ]; exact z_zret C hr (by decide) dX3_isAsNew_54 ⟨z_b0 (by first | (simp [fl_nw, c_10, c_46]; done) | (simp [fl_nw, c_10, c_46]; omega) | (simp [fl_nw, Int32.not_le.mp c_23]; done) | (simp [fl_nw, Int32.not_lt.mpr c_23, c_10]; done)), rfl⟩
    · refine z_iconst C (v := nI (1)) (by decide) dX3_isAsNew_49 ?_
      refine z_goto C (tgt := 54) dX3_isAsNew_50 (by decide) ?_
      rw [hQ]; exact z_zret C hr (by decide) dX3_isAsNew_54 ⟨z_b1 (by first | (simp [fl_nw, c_10, c_46]; done) | (simp [fl_nw, c_10, c_46]; omega) | (simp [fl_nw, Int32.not_le.mp c_23]; done) | (simp [fl_nw, Int32.not_lt.mpr c_23, c_10]; done)), rfl⟩
  · refine z_aload_n C dX3_isAsNew_13 rfl 0 rfl ?_
    refine z_iload_n C dX3_isAsNew_14 rfl 1 rfl ?_
    refine z_cV C (st' := [.int (fl_last σ x)]) (B' := [(shS a cI, σ)]) [true] rfl (c_X3_lastTerm l D cI cZ cJ a σ n hI x (by omega)) wq_yX3_lastTerm wm_X3_75 ⟨wn_yX3_lastTerm, wo_yX3_lastTerm⟩ ⟨rfl, rfl, Nat.le_of_ble_eq_true rfl, Nat.le_of_ble_eq_true rfl⟩ 0 rfl 0 rfl rfl rfl rfl (Nat.le_of_ble_eq_true rfl) dX3_isAsNew_15 ⟨Nat.le_of_ble_eq_true rfl, Nat.le_of_ble_eq_true rfl⟩ rfl rfl ?_
    refine z_aload_n C dX3_isAsNew_18 rfl 0 rfl ?_
    refine z_iload_n C dX3_isAsNew_19 rfl 2 rfl ?_
    refine z_cV C (st' := [.int (fl_last σ y), .int (fl_last σ x)]) (B' := [(shS a cI, σ)]) [true] rfl (c_X3_lastTerm l D cI cZ cJ a σ n hI y (by omega)) wq_yX3_lastTerm wm_X3_75 ⟨wn_yX3_lastTerm, wo_yX3_lastTerm⟩ ⟨rfl, rfl, Nat.le_of_ble_eq_true rfl, Nat.le_of_ble_eq_true rfl⟩ 0 rfl 0 rfl rfl rfl rfl (Nat.le_of_ble_eq_true rfl) dX3_isAsNew_20 ⟨Nat.le_of_ble_eq_true rfl, Nat.le_of_ble_eq_true rfl⟩ rfl rfl ?_
    refine z_icmp_le C (tgt := 30) dX3_isAsNew_23 (by decide) (fun c_23 => ?_) (fun c_23 => ?_)
    · refine z_iconst C (v := nI (0)) (by decide) dX3_isAsNew_30 ?_
      refine z_goto C (tgt := 54) dX3_isAsNew_31 (by decide) ?_
      rw [hQ]; exact z_zret C hr (by decide) dX3_isAsNew_54 ⟨z_b0 (by first | (simp [fl_nw, c_10, c_23]; done) | (simp [fl_nw, c_10, c_23]; omega) | (simp [fl_nw, Int32.not_le.mp c_23]; done) | (simp [fl_nw, Int32.not_lt.mpr c_23, c_10]; done)), rfl⟩
    · refine z_iconst C (v := nI (1)) (by decide) dX3_isAsNew_26 ?_
      refine z_goto C (tgt := 54) dX3_isAsNew_27 (by decide) ?_
      rw [hQ]; exact z_zret C hr (by decide) dX3_isAsNew_54 ⟨z_b1 (by first | (simp [fl_nw, c_10, c_23]; done) | (simp [fl_nw, c_10, c_23]; omega) | (simp [fl_nw, Int32.not_le.mp c_23]; done) | (simp [fl_nw, Int32.not_lt.mpr c_23, c_10]; done)), rfl⟩
set_option maxHeartbeats 4000000 in
set_option maxRecDepth 100000 in
theorem c_X3_add (l : Launch) (D : va_G) (cI cZ cJ : ClassId) (a : Nat → Nat) (σ : zF) (n : Nat) (hI : fl_Iv n σ) (b : Nat) (x : Int32) (y : Int32) (hb : b < n) (hk : fl_ln σ b < 10) : zM l D (tyL cI cZ cJ) yX3_add cX3_add 4 none (zR 0 0) [.ref (a 0), .int (nI (b)), .int (x), .int (y)] [(shS a cI, σ)] 0 0 (fun r u => r = none ∧ u = [(shS a cI, (fl_app σ b x y))]) := by
  have hn3 := hI.n3
  have hn7 := hI.n7
  refine z_of (by decide) (Nat.le_of_ble_eq_true rfl) rfl ?_
  intro p e s m args below meth c A C hr hin
  obtain ⟨Q, hQ⟩ : ∃ Q, Q = MQ below (zQ (fun r u => r = none ∧ u = [(shS a cI, (fl_app σ b x y))]) D (tyL cI cZ cJ) A) args s 0 0 A := ⟨_, rfl⟩
  rw [← hQ]
  refine z_aload_n C dX3_add_0 rfl 0 rfl ?_
  refine z_getR C wu_X3 0 rfl 0 rfl rfl 14 (by decide) rfl wf_X3_43 dX3_add_1 ?_
  refine z_bipush C (v := nI (10)) (by decide) dX3_add_4 ?_
  refine z_iload_n C dX3_add_6 rfl 1 rfl ?_
  refine z_imulN C dX3_add_7 ?_
  refine z_top (congrArg nI (Nat.mul_comm _ _)) ?_
  refine z_aload_n C dX3_add_8 rfl 0 rfl ?_
  refine z_getR C wu_X3 0 rfl 0 rfl rfl 12 (by decide) rfl wf_X3_37 dX3_add_9 ?_
  refine z_iload_n C dX3_add_12 rfl 1 rfl ?_
  refine z_iald C 0 rfl 8 0 rfl rfl dX3_add_13 (by omega) (by decide) ?_
  refine z_top (y := nI (fl_ln σ b)) (hI.ln (by omega)) ?_
  have hb_1 := hI.lnT (i := b) (by omega)
  refine z_iaddN C dX3_add_14 ?_
  refine z_iload_n C dX3_add_15 rfl 2 rfl ?_
  refine z_iast C (B' := [(shS a cI, (zU σ 10 ((b * 10) + (fl_ln σ b)) (x)))]) 0 rfl 10 0 rfl rfl dX3_add_16 (by omega) (by decide) rfl ?_
  refine z_aload_n C dX3_add_17 rfl 0 rfl ?_
  refine z_getR C wu_X3 0 rfl 0 rfl rfl 15 (by decide) rfl wf_X3_46 dX3_add_18 ?_
  refine z_bipush C (v := nI (10)) (by decide) dX3_add_21 ?_
  refine z_iload_n C dX3_add_23 rfl 1 rfl ?_
  refine z_imulN C dX3_add_24 ?_
  refine z_top (congrArg nI (Nat.mul_comm _ _)) ?_
  refine z_aload_n C dX3_add_25 rfl 0 rfl ?_
  refine z_getR C wu_X3 0 rfl 0 rfl rfl 12 (by decide) rfl wf_X3_37 dX3_add_26 ?_
  refine z_iload_n C dX3_add_29 rfl 1 rfl ?_
  refine z_iald C 0 rfl 8 0 rfl rfl dX3_add_30 (by omega) (by decide) ?_
  refine z_top (y := nI (fl_ln σ b)) (hI.ln (by omega)) ?_
  have hb_2 := hI.lnT (i := b) (by omega)
  refine z_iaddN C dX3_add_31 ?_
  refine z_iload_n C dX3_add_32 rfl 3 rfl ?_
  refine z_iast C (B' := [(shS a cI, (zU (zU σ 10 ((b * 10) + (fl_ln σ b)) (x)) 11 ((b * 10) + (fl_ln σ b)) (y)))]) 0 rfl 11 0 rfl rfl dX3_add_33 (by omega) (by decide) rfl ?_
  refine z_aload_n C dX3_add_34 rfl 0 rfl ?_
  refine z_getR C wu_X3 0 rfl 0 rfl rfl 12 (by decide) rfl wf_X3_37 dX3_add_35 ?_
  refine z_iload_n C dX3_add_38 rfl 1 rfl ?_
  refine z_dup2 C rfl rfl dX3_add_39 ?_
  refine z_iald C 0 rfl 8 0 rfl rfl dX3_add_40 (by omega) (by decide) ?_
  refine z_top (y := nI (fl_ln σ b)) (hI.ln (by omega)) ?_
  have hb_3 := hI.lnT (i := b) (by omega)
  refine z_iconst C (v := nI (1)) (by decide) dX3_add_41 ?_
  refine z_iaddN C dX3_add_42 ?_
  refine z_iast C (B' := [(shS a cI, (zU (zU (zU σ 10 ((b * 10) + (fl_ln σ b)) (x)) 11 ((b * 10) + (fl_ln σ b)) (y)) 8 (b) (nI ((fl_ln σ b) + 1))))]) 0 rfl 8 0 rfl rfl dX3_add_43 (by omega) (by decide) rfl ?_
  rw [hQ]; exact z_vret C hr dX3_add_44 ⟨rfl, congrArg (fun x => [(shS a cI, x)]) (by rfl)⟩
set_option maxHeartbeats 4000000 in
set_option maxRecDepth 100000 in
theorem c_X3_hearOf (l : Launch) (D : va_G) (cI cZ cJ : ClassId) (a : Nat → Nat) (σ : zF) (n : Nat) (hI : fl_Iv n σ) (b : Nat) (g : Int32) (hb : b < n) : zM l D (tyL cI cZ cJ) yX3_hearOf cX3_hearOf 3 none (zR 0 0) [.ref (a 0), .int (nI (b)), .int (g)] [(shS a cI, σ)] 0 0 (fun r u => r = none ∧ u = [(shS a cI, (fl_hof σ b g))]) := by
  have hn3 := hI.n3
  have hn7 := hI.n7
  refine z_of (by decide) (Nat.le_of_ble_eq_true rfl) rfl ?_
  intro p e s m args below meth c A C hr hin
  obtain ⟨Q, hQ⟩ : ∃ Q, Q = MQ below (zQ (fun r u => r = none ∧ u = [(shS a cI, (fl_hof σ b g))]) D (tyL cI cZ cJ) A) args s 0 0 A := ⟨_, rfl⟩
  rw [← hQ]
  refine z_iload_n C dX3_hearOf_0 rfl 2 rfl ?_
  refine z_aload_n C dX3_hearOf_1 rfl 0 rfl ?_
  refine z_getR C wu_X3 0 rfl 0 rfl rfl 7 (by decide) rfl wf_X3_22 dX3_hearOf_2 ?_
  refine z_iload_n C dX3_hearOf_5 rfl 1 rfl ?_
  refine z_iald C 0 rfl 3 0 rfl rfl dX3_hearOf_6 (by omega) (by decide) ?_
  refine z_icmp_gt C (tgt := 11) dX3_hearOf_7 (by decide) (fun c_7 => ?_) (fun c_7 => ?_)
  · refine z_aload_n C dX3_hearOf_11 rfl 0 rfl ?_
    refine z_getR C wu_X3 0 rfl 0 rfl rfl 7 (by decide) rfl wf_X3_22 dX3_hearOf_12 ?_
    refine z_iload_n C dX3_hearOf_15 rfl 1 rfl ?_
    refine z_iload_n C dX3_hearOf_16 rfl 2 rfl ?_
    refine z_iast C (B' := [(shS a cI, (zU σ 3 (b) (g)))]) 0 rfl 3 0 rfl rfl dX3_hearOf_17 (by omega) (by decide) rfl ?_
    refine z_aload_n C dX3_hearOf_18 rfl 0 rfl ?_
    refine z_getR C wu_X3 0 rfl 0 rfl rfl 8 (by decide) rfl wf_X3_25 dX3_hearOf_19 ?_
    refine z_iload_n C dX3_hearOf_22 rfl 1 rfl ?_
    refine z_iconst C (v := -1) (by decide) dX3_hearOf_23 ?_
    refine z_iast C (B' := [(shS a cI, (zU (zU σ 3 (b) (g)) 4 (b) (-1)))]) 0 rfl 4 0 rfl rfl dX3_hearOf_24 (by omega) (by decide) rfl ?_
    refine z_aload_n C dX3_hearOf_25 rfl 0 rfl ?_
    refine z_getR C wu_X3 0 rfl 0 rfl rfl 9 (by decide) rfl wf_X3_28 dX3_hearOf_26 ?_
    refine z_iload_n C dX3_hearOf_29 rfl 1 rfl ?_
    refine z_iconst C (v := nI (0)) (by decide) dX3_hearOf_30 ?_
    refine z_iast C (B' := [(shS a cI, (zU (zU (zU σ 3 (b) (g)) 4 (b) (-1)) 5 (b) (nI (0))))]) 0 rfl 5 0 rfl rfl dX3_hearOf_31 (by omega) (by decide) rfl ?_
    rw [hQ]; exact z_vret C hr dX3_hearOf_32 ⟨rfl, congrArg (fun x => [(shS a cI, x)]) (by first | rw [fl_hof, if_pos (Int32.not_lt.mp c_7)] | (rw [fl_hof, if_neg (fun q => absurd c_7 (Int32.not_lt.mpr q))]; rfl))⟩
  · rw [hQ]; exact z_vret C hr dX3_hearOf_10 ⟨rfl, congrArg (fun x => [(shS a cI, x)]) (by first | rw [fl_hof, if_pos (Int32.not_lt.mp c_7)] | (rw [fl_hof, if_neg (fun q => absurd c_7 (Int32.not_lt.mpr q))]; rfl))⟩
set_option maxHeartbeats 4000000 in
set_option maxRecDepth 100000 in
theorem c_X3_stand (l : Launch) (D : va_G) (cI cZ cJ : ClassId) (a : Nat → Nat) (σ : zF) (n : Nat) (hI : fl_Iv n σ) (b : Nat) (hb : b < n) : zM l D (tyL cI cZ cJ) yX3_stand cX3_stand 4 none (zR 2 43) [.ref (a 0), .int (nI (b))] [(shS a cI, σ)] 0 0 (fun r u => r = none ∧ u = [(shS a cI, (fl_stand n σ b))]) := by
  have hn3 := hI.n3
  have hn7 := hI.n7
  refine z_of (by decide) (Nat.le_of_ble_eq_true rfl) rfl ?_
  intro p e s m args below meth c A C hr hin
  obtain ⟨Q, hQ⟩ : ∃ Q, Q = MQ below (zQ (fun r u => r = none ∧ u = [(shS a cI, (fl_stand n σ b))]) D (tyL cI cZ cJ) A) args s 0 0 A := ⟨_, rfl⟩
  rw [← hQ]
  refine z_aload_n C dX3_stand_0 rfl 0 rfl ?_
  refine z_dup C rfl dX3_stand_1 ?_
  refine z_getI C wu_X3 0 rfl 0 rfl rfl 2 (by decide) rfl wf_X3_56 dX3_stand_2 ?_
  refine z_iconst C (v := nI (1)) (by decide) dX3_stand_5 ?_
  refine z_iadd C dX3_stand_6 ?_
  refine z_putI C (B' := [(shS a cI, (zU σ 0 (2) (σ 0 (2) + nI (1))))]) wu_X3 tyX3_ok nmX3 0 rfl 0 rfl rfl 2 (by decide) rfl wf_X3_56 rfl (by decide +kernel) dX3_stand_7 rfl ?_
  refine z_aload_n C dX3_stand_10 rfl 0 rfl ?_
  refine z_getR C wu_X3 0 rfl 0 rfl rfl 7 (by decide) rfl wf_X3_22 dX3_stand_11 ?_
  refine z_iload_n C dX3_stand_14 rfl 1 rfl ?_
  refine z_dup2 C rfl rfl dX3_stand_15 ?_
  refine z_iald C 0 rfl 3 0 rfl rfl dX3_stand_16 (by omega) (by decide) ?_
  refine z_top (y := σ 3 (b)) rfl ?_
  refine z_iconst C (v := nI (1)) (by decide) dX3_stand_17 ?_
  refine z_iadd C dX3_stand_18 ?_
  refine z_iast C (B' := [(shS a cI, (zU (zU σ 0 (2) (σ 0 (2) + nI (1))) 3 (b) (σ 3 (b) + nI (1))))]) 0 rfl 3 0 rfl rfl dX3_stand_19 (by omega) (by decide) rfl ?_
  refine z_aload_n C dX3_stand_20 rfl 0 rfl ?_
  refine z_getR C wu_X3 0 rfl 0 rfl rfl 9 (by decide) rfl wf_X3_28 dX3_stand_21 ?_
  refine z_iload_n C dX3_stand_24 rfl 1 rfl ?_
  refine z_iconst C (v := nI (1)) (by decide) dX3_stand_25 ?_
  refine z_iast C (B' := [(shS a cI, (zU (zU (zU σ 0 (2) (σ 0 (2) + nI (1))) 3 (b) (σ 3 (b) + nI (1))) 5 (b) (nI (1))))]) 0 rfl 5 0 rfl rfl dX3_stand_26 (by omega) (by decide) rfl ?_
  refine z_aload_n C dX3_stand_27 rfl 0 rfl ?_
  refine z_getR C wu_X3 0 rfl 0 rfl rfl 8 (by decide) rfl wf_X3_25 dX3_stand_28 ?_
  refine z_iload_n C dX3_stand_31 rfl 1 rfl ?_
  refine z_iload_n C dX3_stand_32 rfl 1 rfl ?_
  refine z_iast C (B' := [(shS a cI, (zU (zU (zU (zU σ 0 (2) (σ 0 (2) + nI (1))) 3 (b) (σ 3 (b) + nI (1))) 5 (b) (nI (1))) 4 (b) (nI (b))))]) 0 rfl 4 0 rfl rfl dX3_stand_33 (by omega) (by decide) rfl ?_
  refine z_aload_n C dX3_stand_34 rfl 0 rfl ?_
  refine z_getR C wu_X3 0 rfl 0 rfl rfl 6 (by decide) rfl wf_X3_19 dX3_stand_35 ?_
  refine z_iload_n C dX3_stand_38 rfl 1 rfl ?_
  refine z_aload_n C dX3_stand_39 rfl 0 rfl ?_
  refine z_getR C wu_X3 0 rfl 0 rfl rfl 5 (by decide) rfl wf_X3_15 dX3_stand_40 ?_
  refine z_iload_n C dX3_stand_43 rfl 1 rfl ?_
  refine z_iald C 0 rfl 1 0 rfl rfl dX3_stand_44 (by omega) (by decide) ?_
  refine z_top (y := σ 1 (b)) rfl ?_
  refine z_iast C (B' := [(shS a cI, (zU (zU (zU (zU (zU σ 0 (2) (σ 0 (2) + nI (1))) 3 (b) (σ 3 (b) + nI (1))) 5 (b) (nI (1))) 4 (b) (nI (b))) 2 (b) (σ 1 (b))))]) 0 rfl 2 0 rfl rfl dX3_stand_45 (by omega) (by decide) rfl ?_
  refine z_iconst C (v := nI (1)) (by decide) dX3_stand_46 ?_
  refine z_istore_n C (L' := [(2, .int (nI (1))), (0, .ref (a 0)), (1, .int (nI (b)))]) dX3_stand_47 rfl (by decide) rfl ?_
  refine z_iconst C (v := nI (0)) (by decide) dX3_stand_48 ?_
  refine z_istore_n C (L' := [(3, .int (nI (0))), (2, .int (nI (1))), (0, .ref (a 0)), (1, .int (nI (b)))]) dX3_stand_49 rfl (by decide) rfl ?_
  have loop_50 : ∀ (k_50 o : Nat) (v : Nat) (τ : zF), n < o + k_50 → o ≤ n → (hres : fl_ask n b o v τ = (fl_ask n b 0 1 (fl_std0 σ b))) → (hτ : fl_Iv n τ) → (hv : v ≤ o + 1) → (h5 : τ 5 b = nI 1) → zK p l e (zR 2 43) s m args below meth c D A 4 Q 0 0 50 [(3, .int (nI (o))), (2, .int (nI (v))), (1, .int (nI (b))), (0, .ref (a 0))] [] [(shS a cI, τ)] := by
    intro k_50
    induction k_50 with
    | zero => intro o v τ m1_50 m2_50; exact absurd m1_50 (by omega)
    | succ k_50 ih_50 =>
      intro o v τ m1_50 m2_50 hres hτ hv h5
      refine z_iload_n C dX3_stand_50 rfl 0 rfl ?_
      refine z_aload_n C dX3_stand_51 rfl 3 rfl ?_
      refine z_getI C wu_X3 0 rfl 0 rfl rfl 0 (by decide) rfl wf_X3_9 dX3_stand_52 ?_
      refine z_top (hτ.n0 : _ = nI n) ?_
      refine z_icmp_geN C (tgt := 168) dX3_stand_55 (by decide) (by omega) (by omega) (fun c_55 => ?_) (fun c_55 => ?_)
      · refine z_aload_n C dX3_stand_168 rfl 3 rfl ?_
        refine z_iload_n C dX3_stand_169 rfl 1 rfl ?_
        refine z_cV C (st' := [.int (zb (decide (n / 2 < v)))]) (B' := [(shS a cI, τ)]) [true] rfl (c_X3_isMore l D cI cZ cJ a τ n hτ v (by omega)) wq_yX3_isMore wm_X3_90 ⟨wn_yX3_isMore, wo_yX3_isMore⟩ ⟨rfl, rfl, Nat.le_of_ble_eq_true rfl, Nat.le_of_ble_eq_true rfl⟩ 0 rfl 0 rfl rfl rfl rfl (Nat.le_of_ble_eq_true rfl) dX3_stand_170 ⟨Nat.le_of_ble_eq_true rfl, Nat.le_of_ble_eq_true rfl⟩ rfl rfl ?_
        refine z_if_neB C (tgt := 177) dX3_stand_173 (by decide) (fun c_173 => ?_) (fun c_173 => ?_)
        · refine z_aload_n C dX3_stand_177 rfl 3 rfl ?_
          refine z_getR C wu_X3 0 rfl 0 rfl rfl 9 (by decide) rfl wf_X3_28 dX3_stand_178 ?_
          refine z_iload_n C dX3_stand_181 rfl 2 rfl ?_
          refine z_iconst C (v := nI (2)) (by decide) dX3_stand_182 ?_
          refine z_iast C (B' := [(shS a cI, (zU τ 5 (b) (nI (2))))]) 0 rfl 5 0 rfl rfl dX3_stand_183 (by omega) (by decide) rfl ?_
          refine z_aload_n C dX3_stand_184 rfl 3 rfl ?_
          refine z_dup C rfl dX3_stand_185 ?_
          refine z_getI C wu_X3 0 rfl 0 rfl rfl 3 (by decide) rfl wf_X3_59 dX3_stand_186 ?_
          refine z_top (y := τ 0 (3)) rfl ?_
          refine z_iconst C (v := nI (1)) (by decide) dX3_stand_189 ?_
          refine z_iadd C dX3_stand_190 ?_
          refine z_putI C (B' := [(shS a cI, (zU (zU τ 5 (b) (nI (2))) 0 (3) (τ 0 (3) + nI (1))))]) wu_X3 tyX3_ok nmX3 0 rfl 0 rfl rfl 3 (by decide) rfl wf_X3_59 rfl (by decide +kernel) dX3_stand_191 rfl ?_
          rw [hQ]; exact z_vret C hr dX3_stand_194 ⟨rfl, congrArg (fun x => [(shS a cI, x)]) (by rw [fl_stand, ← hres, fl_ask_end _ _ _ _ _ c_55]; exact (if_pos ⟨h5, of_decide_eq_true c_173⟩).symm)⟩
        · rw [hQ]; exact z_vret C hr dX3_stand_176 ⟨rfl, congrArg (fun x => [(shS a cI, x)]) (by rw [fl_stand, ← hres, fl_ask_end _ _ _ _ _ c_55]; exact (if_neg (fun q => absurd q.2 (of_decide_eq_false c_173))).symm)⟩
      · refine z_aload_n C dX3_stand_58 rfl 3 rfl ?_
        refine z_iload_n C dX3_stand_59 rfl 2 rfl ?_
        refine z_iload_n C dX3_stand_60 rfl 0 rfl ?_
        refine z_cV C (st' := [.int (zb (decide (b ≠ o) && fl_hear τ b o))]) (B' := [(shS a cI, τ)]) [true] rfl (c_X3_hear l D cI cZ cJ a τ n hτ b o (by omega) (by omega)) wq_yX3_hear wm_X3_79 ⟨wn_yX3_hear, wo_yX3_hear⟩ ⟨rfl, rfl, Nat.le_of_ble_eq_true rfl, Nat.le_of_ble_eq_true rfl⟩ 0 rfl 0 rfl rfl rfl rfl (Nat.le_of_ble_eq_true rfl) dX3_stand_61 ⟨Nat.le_of_ble_eq_true rfl, Nat.le_of_ble_eq_true rfl⟩ rfl rfl ?_
        refine z_if_neB C (tgt := 70) dX3_stand_64 (by decide) (fun c_64 => ?_) (fun c_64 => ?_)
        · refine z_aload_n C dX3_stand_70 rfl 3 rfl ?_
          refine z_getR C wu_X3 0 rfl 0 rfl rfl 7 (by decide) rfl wf_X3_22 dX3_stand_71 ?_
          refine z_iload_n C dX3_stand_74 rfl 0 rfl ?_
          refine z_iald C 0 rfl 3 0 rfl rfl dX3_stand_75 (by omega) (by decide) ?_
          refine z_aload_n C dX3_stand_76 rfl 3 rfl ?_
          refine z_getR C wu_X3 0 rfl 0 rfl rfl 7 (by decide) rfl wf_X3_22 dX3_stand_77 ?_
          refine z_iload_n C dX3_stand_80 rfl 2 rfl ?_
          refine z_iald C 0 rfl 3 0 rfl rfl dX3_stand_81 (by omega) (by decide) ?_
          refine z_icmp_le C (tgt := 97) dX3_stand_82 (by decide) (fun c_82 => ?_) (fun c_82 => ?_)
          · refine z_aload_n C dX3_stand_97 rfl 3 rfl ?_
            refine z_iload_n C dX3_stand_98 rfl 0 rfl ?_
            refine z_aload_n C dX3_stand_99 rfl 3 rfl ?_
            refine z_getR C wu_X3 0 rfl 0 rfl rfl 7 (by decide) rfl wf_X3_22 dX3_stand_100 ?_
            refine z_iload_n C dX3_stand_103 rfl 2 rfl ?_
            refine z_iald C 0 rfl 3 0 rfl rfl dX3_stand_104 (by omega) (by decide) ?_
            have hi_1 : fl_Iv n (fl_hof τ o (τ 3 (b))) := fl_hof_Iv hτ _ _
            refine z_cV C (st' := []) (B' := [(shS a cI, (fl_hof τ o (τ 3 (b))))]) [true] rfl (c_X3_hearOf l D cI cZ cJ a τ n hτ o (τ 3 (b)) (by omega)) wq_yX3_hearOf wm_X3_83 ⟨wn_yX3_hearOf, wo_yX3_hearOf⟩ ⟨rfl, rfl, Nat.le_of_ble_eq_true rfl, Nat.le_of_ble_eq_true rfl⟩ 0 rfl 0 rfl rfl rfl rfl (Nat.le_of_ble_eq_true rfl) dX3_stand_105 ⟨Nat.le_of_ble_eq_true rfl, Nat.le_of_ble_eq_true rfl⟩ rfl rfl ?_
            have hi_h := hi_1
            generalize hT : fl_hof τ o (τ 3 (b)) = T at hi_h ⊢
            refine z_aload_n C dX3_stand_108 rfl 3 rfl ?_
            refine z_getR C wu_X3 0 rfl 0 rfl rfl 8 (by decide) rfl wf_X3_25 dX3_stand_109 ?_
            refine z_iload_n C dX3_stand_112 rfl 0 rfl ?_
            refine z_iald C 0 rfl 4 0 rfl rfl dX3_stand_113 (by omega) (by decide) ?_
            refine z_iconst C (v := -1) (by decide) dX3_stand_114 ?_
            refine z_icmp_eq C (tgt := 128) dX3_stand_115 (by decide) (fun c_115 => ?_) (fun c_115 => ?_)
            · refine z_aload_n C dX3_stand_128 rfl 3 rfl ?_
              refine z_iload_n C dX3_stand_129 rfl 2 rfl ?_
              refine z_iload_n C dX3_stand_130 rfl 0 rfl ?_
              refine z_cV C (st' := [.int (zb (fl_nw T b o))]) (B' := [(shS a cI, T)]) [true] rfl (c_X3_isAsNew l D cI cZ cJ a T n hi_h b o (by omega) (by omega)) wq_yX3_isAsNew wm_X3_87 ⟨wn_yX3_isAsNew, wo_yX3_isAsNew⟩ ⟨rfl, rfl, Nat.le_of_ble_eq_true rfl, Nat.le_of_ble_eq_true rfl⟩ 0 rfl 0 rfl rfl rfl rfl (Nat.le_of_ble_eq_true rfl) dX3_stand_131 ⟨Nat.le_of_ble_eq_true rfl, Nat.le_of_ble_eq_true rfl⟩ rfl rfl ?_
              refine z_if_neB C (tgt := 140) dX3_stand_134 (by decide) (fun c_134 => ?_) (fun c_134 => ?_)
              · refine z_aload_n C dX3_stand_140 rfl 3 rfl ?_
                refine z_getR C wu_X3 0 rfl 0 rfl rfl 8 (by decide) rfl wf_X3_25 dX3_stand_141 ?_
                refine z_iload_n C dX3_stand_144 rfl 0 rfl ?_
                refine z_iload_n C dX3_stand_145 rfl 2 rfl ?_
                refine z_iast C (B' := [(shS a cI, (zU T 4 (o) (nI (b))))]) 0 rfl 4 0 rfl rfl dX3_stand_146 (by omega) (by decide) rfl ?_
                refine z_aload_n C dX3_stand_147 rfl 3 rfl ?_
                refine z_getR C wu_X3 0 rfl 0 rfl rfl 6 (by decide) rfl wf_X3_19 dX3_stand_148 ?_
                refine z_iload_n C dX3_stand_151 rfl 0 rfl ?_
                refine z_aload_n C dX3_stand_152 rfl 3 rfl ?_
                refine z_getR C wu_X3 0 rfl 0 rfl rfl 5 (by decide) rfl wf_X3_15 dX3_stand_153 ?_
                refine z_iload_n C dX3_stand_156 rfl 0 rfl ?_
                refine z_iald C 0 rfl 1 0 rfl rfl dX3_stand_157 (by omega) (by decide) ?_
                refine z_top (y := T 1 (o)) rfl ?_
                refine z_iast C (B' := [(shS a cI, (zU (zU T 4 (o) (nI (b))) 2 (o) (T 1 (o))))]) 0 rfl 2 0 rfl rfl dX3_stand_158 (by omega) (by decide) rfl ?_
                refine z_iinc C (L' := [(2, .int (nI (v + 1))), (3, .int (nI (o))), (1, .int (nI (b))), (0, .ref (a 0))]) dX3_stand_159 1 rfl (z_inc1 _) (by decide) rfl ?_
                refine z_iinc C (L' := [(3, .int (nI (o + 1))), (2, .int (nI (v + 1))), (1, .int (nI (b))), (0, .ref (a 0))]) dX3_stand_162 1 rfl (z_inc1 _) (by decide) rfl ?_
                refine z_goto C (tgt := 50) dX3_stand_165 (by decide) ?_
                refine z_sub (L' := [(3, .int (nI (o + 1))), (2, .int (nI (v + 1))), (1, .int (nI (b))), (0, .ref (a 0))]) [0, 1, 2, 3] rfl ?_
                exact ih_50 (o + 1) _ _ (by omega) (by omega) (Eq.trans (by rw [fl_ask_go n b o v τ (by omega) h5, if_pos (fl_yh c_64)]; simp [fl_votS, fl_votB, fl_votT, fl_vok, Int32.not_lt.mpr c_82, hT, c_115, c_134]) hres) ((hi_h.U 4 (o) (nI (b)) (by decide) (by decide) (by decide) (by decide)).U 2 (o) (T 1 (o)) (by decide) (by decide) (by decide) (by decide)) (by omega) (by show T 5 b = nI 1; rw [← hT, fl_hof_role _ _ (Ne.symm (fl_yh c_64).1)]; exact h5)
              · refine z_goto C (tgt := 162) dX3_stand_137 (by decide) ?_
                refine z_iinc C (L' := [(3, .int (nI (o + 1))), (2, .int (nI (v))), (1, .int (nI (b))), (0, .ref (a 0))]) dX3_stand_162 0 rfl (z_inc1 _) (by decide) rfl ?_
                refine z_goto C (tgt := 50) dX3_stand_165 (by decide) ?_
                refine z_sub (L' := [(3, .int (nI (o + 1))), (2, .int (nI (v))), (1, .int (nI (b))), (0, .ref (a 0))]) [0, 1, 2, 3] rfl ?_
                exact ih_50 (o + 1) _ _ (by omega) (by omega) (Eq.trans (by rw [fl_ask_go n b o v τ (by omega) h5, if_pos (fl_yh c_64)]; simp [fl_votS, fl_votB, fl_votT, fl_vok, Int32.not_lt.mpr c_82, hT, c_115, c_134]) hres) hi_h (by omega) (by rw [← hT, fl_hof_role _ _ (Ne.symm (fl_yh c_64).1)]; exact h5)
            · refine z_aload_n C dX3_stand_118 rfl 3 rfl ?_
              refine z_getR C wu_X3 0 rfl 0 rfl rfl 8 (by decide) rfl wf_X3_25 dX3_stand_119 ?_
              refine z_iload_n C dX3_stand_122 rfl 0 rfl ?_
              refine z_iald C 0 rfl 4 0 rfl rfl dX3_stand_123 (by omega) (by decide) ?_
              refine z_iload_n C dX3_stand_124 rfl 2 rfl ?_
              refine z_icmp_ne C (tgt := 162) dX3_stand_125 (by decide) (fun c_125 => ?_) (fun c_125 => ?_)
              · refine z_iinc C (L' := [(3, .int (nI (o + 1))), (2, .int (nI (v))), (1, .int (nI (b))), (0, .ref (a 0))]) dX3_stand_162 0 rfl (z_inc1 _) (by decide) rfl ?_
                refine z_goto C (tgt := 50) dX3_stand_165 (by decide) ?_
                refine z_sub (L' := [(3, .int (nI (o + 1))), (2, .int (nI (v))), (1, .int (nI (b))), (0, .ref (a 0))]) [0, 1, 2, 3] rfl ?_
                exact ih_50 (o + 1) _ _ (by omega) (by omega) (Eq.trans (by rw [fl_ask_go n b o v τ (by omega) h5, if_pos (fl_yh c_64)]; simp [fl_votS, fl_votB, fl_votT, fl_vok, Int32.not_lt.mpr c_82, hT, c_115, c_125]) hres) hi_h (by omega) (by rw [← hT, fl_hof_role _ _ (Ne.symm (fl_yh c_64).1)]; exact h5)
              · refine z_aload_n C dX3_stand_128 rfl 3 rfl ?_
                refine z_iload_n C dX3_stand_129 rfl 2 rfl ?_
                refine z_iload_n C dX3_stand_130 rfl 0 rfl ?_
                refine z_cV C (st' := [.int (zb (fl_nw T b o))]) (B' := [(shS a cI, T)]) [true] rfl (c_X3_isAsNew l D cI cZ cJ a T n hi_h b o (by omega) (by omega)) wq_yX3_isAsNew wm_X3_87 ⟨wn_yX3_isAsNew, wo_yX3_isAsNew⟩ ⟨rfl, rfl, Nat.le_of_ble_eq_true rfl, Nat.le_of_ble_eq_true rfl⟩ 0 rfl 0 rfl rfl rfl rfl (Nat.le_of_ble_eq_true rfl) dX3_stand_131 ⟨Nat.le_of_ble_eq_true rfl, Nat.le_of_ble_eq_true rfl⟩ rfl rfl ?_
                refine z_if_neB C (tgt := 140) dX3_stand_134 (by decide) (fun c_134 => ?_) (fun c_134 => ?_)
                · refine z_aload_n C dX3_stand_140 rfl 3 rfl ?_
                  refine z_getR C wu_X3 0 rfl 0 rfl rfl 8 (by decide) rfl wf_X3_25 dX3_stand_141 ?_
                  refine z_iload_n C dX3_stand_144 rfl 0 rfl ?_
                  refine z_iload_n C dX3_stand_145 rfl 2 rfl ?_
                  refine z_iast C (B' := [(shS a cI, (zU T 4 (o) (nI (b))))]) 0 rfl 4 0 rfl rfl dX3_stand_146 (by omega) (by decide) rfl ?_
                  refine z_aload_n C dX3_stand_147 rfl 3 rfl ?_
                  refine z_getR C wu_X3 0 rfl 0 rfl rfl 6 (by decide) rfl wf_X3_19 dX3_stand_148 ?_
                  refine z_iload_n C dX3_stand_151 rfl 0 rfl ?_
                  refine z_aload_n C dX3_stand_152 rfl 3 rfl ?_
                  refine z_getR C wu_X3 0 rfl 0 rfl rfl 5 (by decide) rfl wf_X3_15 dX3_stand_153 ?_
                  refine z_iload_n C dX3_stand_156 rfl 0 rfl ?_
                  refine z_iald C 0 rfl 1 0 rfl rfl dX3_stand_157 (by omega) (by decide) ?_
                  refine z_top (y := T 1 (o)) rfl ?_
                  refine z_iast C (B' := [(shS a cI, (zU (zU T 4 (o) (nI (b))) 2 (o) (T 1 (o))))]) 0 rfl 2 0 rfl rfl dX3_stand_158 (by omega) (by decide) rfl ?_
                  refine z_iinc C (L' := [(2, .int (nI (v + 1))), (3, .int (nI (o))), (1, .int (nI (b))), (0, .ref (a 0))]) dX3_stand_159 1 rfl (z_inc1 _) (by decide) rfl ?_
                  refine z_iinc C (L' := [(3, .int (nI (o + 1))), (2, .int (nI (v + 1))), (1, .int (nI (b))), (0, .ref (a 0))]) dX3_stand_162 1 rfl (z_inc1 _) (by decide) rfl ?_
                  refine z_goto C (tgt := 50) dX3_stand_165 (by decide) ?_
                  refine z_sub (L' := [(3, .int (nI (o + 1))), (2, .int (nI (v + 1))), (1, .int (nI (b))), (0, .ref (a 0))]) [0, 1, 2, 3] rfl ?_
                  exact ih_50 (o + 1) _ _ (by omega) (by omega) (Eq.trans (by rw [fl_ask_go n b o v τ (by omega) h5, if_pos (fl_yh c_64)]; simp [fl_votS, fl_votB, fl_votT, fl_vok, Int32.not_lt.mpr c_82, hT, c_115, c_125, c_134]) hres) ((hi_h.U 4 (o) (nI (b)) (by decide) (by decide) (by decide) (by decide)).U 2 (o) (T 1 (o)) (by decide) (by decide) (by decide) (by decide)) (by omega) (by show T 5 b = nI 1; rw [← hT, fl_hof_role _ _ (Ne.symm (fl_yh c_64).1)]; exact h5)
                · refine z_goto C (tgt := 162) dX3_stand_137 (by decide) ?_
                  refine z_iinc C (L' := [(3, .int (nI (o + 1))), (2, .int (nI (v))), (1, .int (nI (b))), (0, .ref (a 0))]) dX3_stand_162 0 rfl (z_inc1 _) (by decide) rfl ?_
                  refine z_goto C (tgt := 50) dX3_stand_165 (by decide) ?_
                  refine z_sub (L' := [(3, .int (nI (o + 1))), (2, .int (nI (v))), (1, .int (nI (b))), (0, .ref (a 0))]) [0, 1, 2, 3] rfl ?_
                  exact ih_50 (o + 1) _ _ (by omega) (by omega) (Eq.trans (by rw [fl_ask_go n b o v τ (by omega) h5, if_pos (fl_yh c_64)]; simp [fl_votS, fl_votB, fl_votT, fl_vok, Int32.not_lt.mpr c_82, hT, c_115, c_125, c_134]) hres) hi_h (by omega) (by rw [← hT, fl_hof_role _ _ (Ne.symm (fl_yh c_64).1)]; exact h5)
          · refine z_aload_n C dX3_stand_85 rfl 3 rfl ?_
            refine z_iload_n C dX3_stand_86 rfl 2 rfl ?_
            refine z_aload_n C dX3_stand_87 rfl 3 rfl ?_
            refine z_getR C wu_X3 0 rfl 0 rfl rfl 7 (by decide) rfl wf_X3_22 dX3_stand_88 ?_
            refine z_iload_n C dX3_stand_91 rfl 0 rfl ?_
            refine z_iald C 0 rfl 3 0 rfl rfl dX3_stand_92 (by omega) (by decide) ?_
            have hi_2 : fl_Iv n (fl_hof τ b (τ 3 (o))) := fl_hof_Iv hτ _ _
            refine z_cV C (st' := []) (B' := [(shS a cI, (fl_hof τ b (τ 3 (o))))]) [true] rfl (c_X3_hearOf l D cI cZ cJ a τ n hτ b (τ 3 (o)) (by omega)) wq_yX3_hearOf wm_X3_83 ⟨wn_yX3_hearOf, wo_yX3_hearOf⟩ ⟨rfl, rfl, Nat.le_of_ble_eq_true rfl, Nat.le_of_ble_eq_true rfl⟩ 0 rfl 0 rfl rfl rfl rfl (Nat.le_of_ble_eq_true rfl) dX3_stand_93 ⟨Nat.le_of_ble_eq_true rfl, Nat.le_of_ble_eq_true rfl⟩ rfl rfl ?_
            rw [hQ]; exact z_vret C hr dX3_stand_96 ⟨rfl, congrArg (fun x => [(shS a cI, x)]) (by rw [fl_stand, ← hres, fl_ask_ret (by omega) h5 (fl_yh c_64) (Int32.not_le.mp c_82)])⟩
        · refine z_goto C (tgt := 162) dX3_stand_67 (by decide) ?_
          refine z_iinc C (L' := [(3, .int (nI (o + 1))), (2, .int (nI (v))), (1, .int (nI (b))), (0, .ref (a 0))]) dX3_stand_162 0 rfl (z_inc1 _) (by decide) rfl ?_
          refine z_goto C (tgt := 50) dX3_stand_165 (by decide) ?_
          refine z_sub (L' := [(3, .int (nI (o + 1))), (2, .int (nI (v))), (1, .int (nI (b))), (0, .ref (a 0))]) [0, 1, 2, 3] rfl ?_
          exact ih_50 (o + 1) _ _ (by omega) (by omega) (Eq.trans (by rw [fl_ask_go n b o v τ (by omega) h5, if_neg (fl_nh c_64)]) hres) hτ (by omega) h5
  refine z_sub (L' := [(3, .int (nI (0))), (2, .int (nI (1))), (1, .int (nI (b))), (0, .ref (a 0))]) [0, 1, 3, 2] rfl ?_
  exact loop_50 (n + 1) 0 _ _ (by omega) (by omega) rfl (fl_std0_Iv hI b) (by omega) (fl_std0_rol σ b)
set_option maxHeartbeats 4000000 in
set_option maxRecDepth 100000 in
theorem c_X3_takeFrom (l : Launch) (D : va_G) (cI cZ cJ : ClassId) (a : Nat → Nat) (σ : zF) (n : Nat) (hI : fl_Iv n σ) (o : Nat) (t : Nat) (ho : o < n) (ht : t < n) : zM l D (tyL cI cZ cJ) yX3_takeFrom cX3_takeFrom 4 none (zR 1 23) [.ref (a 0), .int (nI (o)), .int (nI (t))] [(shS a cI, σ)] 0 0 (fun r u => r = none ∧ u = [(shS a cI, (fl_telT (fl_hof σ o (σ 3 t)) t o))]) := by
  have hn3 := hI.n3
  have hn7 := hI.n7
  refine z_of (by decide) (Nat.le_of_ble_eq_true rfl) rfl ?_
  intro p e s m args below meth c A C hr hin
  obtain ⟨Q, hQ⟩ : ∃ Q, Q = MQ below (zQ (fun r u => r = none ∧ u = [(shS a cI, (fl_telT (fl_hof σ o (σ 3 t)) t o))]) D (tyL cI cZ cJ) A) args s 0 0 A := ⟨_, rfl⟩
  rw [← hQ]
  refine z_aload_n C dX3_takeFrom_0 rfl 0 rfl ?_
  refine z_iload_n C dX3_takeFrom_1 rfl 1 rfl ?_
  refine z_aload_n C dX3_takeFrom_2 rfl 0 rfl ?_
  refine z_getR C wu_X3 0 rfl 0 rfl rfl 7 (by decide) rfl wf_X3_22 dX3_takeFrom_3 ?_
  refine z_iload_n C dX3_takeFrom_6 rfl 2 rfl ?_
  refine z_iald C 0 rfl 3 0 rfl rfl dX3_takeFrom_7 (by omega) (by decide) ?_
  have hi_1 : fl_Iv n (fl_hof σ o (σ 3 (t))) := fl_hof_Iv hI _ _
  refine z_cV C (st' := []) (B' := [(shS a cI, (fl_hof σ o (σ 3 (t))))]) [true] rfl (c_X3_hearOf l D cI cZ cJ a σ n hI o (σ 3 (t)) (by omega)) wq_yX3_hearOf wm_X3_83 ⟨wn_yX3_hearOf, wo_yX3_hearOf⟩ ⟨rfl, rfl, Nat.le_of_ble_eq_true rfl, Nat.le_of_ble_eq_true rfl⟩ 0 rfl 0 rfl rfl rfl rfl (Nat.le_of_ble_eq_true rfl) dX3_takeFrom_8 ⟨Nat.le_of_ble_eq_true rfl, Nat.le_of_ble_eq_true rfl⟩ rfl rfl ?_
  have hi_h := hi_1
  generalize hT : fl_hof σ o (σ 3 (t)) = T at hi_h ⊢
  refine z_aload_n C dX3_takeFrom_11 rfl 0 rfl ?_
  refine z_getR C wu_X3 0 rfl 0 rfl rfl 9 (by decide) rfl wf_X3_28 dX3_takeFrom_12 ?_
  refine z_iload_n C dX3_takeFrom_15 rfl 1 rfl ?_
  refine z_iconst C (v := nI (0)) (by decide) dX3_takeFrom_16 ?_
  refine z_iast C (B' := [(shS a cI, (zU T 5 (o) (nI (0))))]) 0 rfl 5 0 rfl rfl dX3_takeFrom_17 (by omega) (by decide) rfl ?_
  refine z_aload_n C dX3_takeFrom_18 rfl 0 rfl ?_
  refine z_getR C wu_X3 0 rfl 0 rfl rfl 6 (by decide) rfl wf_X3_19 dX3_takeFrom_19 ?_
  refine z_iload_n C dX3_takeFrom_22 rfl 1 rfl ?_
  refine z_aload_n C dX3_takeFrom_23 rfl 0 rfl ?_
  refine z_getR C wu_X3 0 rfl 0 rfl rfl 5 (by decide) rfl wf_X3_15 dX3_takeFrom_24 ?_
  refine z_iload_n C dX3_takeFrom_27 rfl 1 rfl ?_
  refine z_iald C 0 rfl 1 0 rfl rfl dX3_takeFrom_28 (by omega) (by decide) ?_
  refine z_top (y := T 1 (o)) rfl ?_
  refine z_iast C (B' := [(shS a cI, (zU (zU T 5 (o) (nI (0))) 2 (o) (T 1 (o))))]) 0 rfl 2 0 rfl rfl dX3_takeFrom_29 (by omega) (by decide) rfl ?_
  refine z_eq (B' := [(shS a cI, fl_got T o)]) rfl ?_
  have hi_g := fl_got_Iv hi_h o
  generalize hG : fl_got T o = G at hi_g ⊢
  refine z_aload_n C dX3_takeFrom_30 rfl 0 rfl ?_
  refine z_iload_n C dX3_takeFrom_31 rfl 2 rfl ?_
  refine z_iload_n C dX3_takeFrom_32 rfl 1 rfl ?_
  have hf_2 := fl_agr_m G t o
  have hf_3 := hi_g.lnT (i := t) (by omega)
  have hf_4 := hi_g.lnT (i := o) (by omega)
  refine z_cV C (st' := [.int (nI (fl_agr G t o))]) (B' := [(shS a cI, G)]) [true] rfl (c_X3_agree l D cI cZ cJ a G n hi_g t o (by omega) (by omega)) wq_yX3_agree wm_X3_94 ⟨wn_yX3_agree, wo_yX3_agree⟩ ⟨rfl, rfl, Nat.le_of_ble_eq_true rfl, Nat.le_of_ble_eq_true rfl⟩ 0 rfl 0 rfl rfl rfl rfl (Nat.le_of_ble_eq_true rfl) dX3_takeFrom_33 ⟨Nat.le_of_ble_eq_true rfl, Nat.le_of_ble_eq_true rfl⟩ rfl rfl ?_
  refine z_istore_n C (L' := [(3, .int (nI (fl_agr G t o))), (0, .ref (a 0)), (1, .int (nI (o))), (2, .int (nI (t)))]) dX3_takeFrom_36 rfl (by decide) rfl ?_
  refine z_aload_n C dX3_takeFrom_37 rfl 1 rfl ?_
  refine z_getR C wu_X3 0 rfl 0 rfl rfl 12 (by decide) rfl wf_X3_37 dX3_takeFrom_38 ?_
  refine z_iload_n C dX3_takeFrom_41 rfl 2 rfl ?_
  refine z_iald C 0 rfl 8 0 rfl rfl dX3_takeFrom_42 (by omega) (by decide) ?_
  refine z_top (y := nI (fl_ln G o)) (hi_g.ln (by omega)) ?_
  have hb_5 := hi_g.lnT (i := o) (by omega)
  refine z_iload_n C dX3_takeFrom_43 rfl 0 rfl ?_
  refine z_icmp_leN C (tgt := 70) dX3_takeFrom_44 (by decide) (by omega) (by omega) (fun c_44 => ?_) (fun c_44 => ?_)
  · refine z_aload_n C dX3_takeFrom_70 rfl 1 rfl ?_
    refine z_getR C wu_X3 0 rfl 0 rfl rfl 12 (by decide) rfl wf_X3_37 dX3_takeFrom_71 ?_
    refine z_iload_n C dX3_takeFrom_74 rfl 3 rfl ?_
    refine z_iald C 0 rfl 8 0 rfl rfl dX3_takeFrom_75 (by omega) (by decide) ?_
    refine z_top (y := nI (fl_ln G t)) (hi_g.ln (by omega)) ?_
    have hb_6 := hi_g.lnT (i := t) (by omega)
    refine z_iload_n C dX3_takeFrom_76 rfl 0 rfl ?_
    refine z_icmp_leN C (tgt := 107) dX3_takeFrom_77 (by decide) (by omega) (by omega) (fun c_77 => ?_) (fun c_77 => ?_)
    · refine z_eq (B' := [(shS a cI, fl_lose (fl_mend G t o) (fl_cut G t o))]) (congrArg (fun x => [(shS a cI, x)]) (by rw [fl_mend_n (t := t) (by omega) (by omega), fl_cut_f (by omega), fl_lose_f])) ?_
      have hi_m := fl_lose_Iv (fl_mend_Iv hi_g ht ho) (fl_cut G t o)
      generalize hM : fl_lose (fl_mend G t o) (fl_cut G t o) = M at hi_m ⊢
      refine z_aload_n C dX3_takeFrom_107 rfl 1 rfl ?_
      refine z_getR C wu_X3 0 rfl 0 rfl rfl 13 (by decide) rfl wf_X3_40 dX3_takeFrom_108 ?_
      refine z_iload_n C dX3_takeFrom_111 rfl 2 rfl ?_
      refine z_aload_n C dX3_takeFrom_112 rfl 1 rfl ?_
      refine z_getR C wu_X3 0 rfl 0 rfl rfl 13 (by decide) rfl wf_X3_40 dX3_takeFrom_113 ?_
      refine z_iload_n C dX3_takeFrom_116 rfl 2 rfl ?_
      refine z_iald C 0 rfl 9 0 rfl rfl dX3_takeFrom_117 (by omega) (by decide) ?_
      refine z_top (y := nI (fl_kn M o)) (hi_m.kn (by omega)) ?_
      have hb_7 := hi_m.knT (i := o) (by omega)
      refine z_aload_n C dX3_takeFrom_118 rfl 1 rfl ?_
      refine z_getR C wu_X3 0 rfl 0 rfl rfl 13 (by decide) rfl wf_X3_40 dX3_takeFrom_119 ?_
      refine z_iload_n C dX3_takeFrom_122 rfl 3 rfl ?_
      refine z_iald C 0 rfl 9 0 rfl rfl dX3_takeFrom_123 (by omega) (by decide) ?_
      refine z_top (y := nI (fl_kn M t)) (hi_m.kn (by omega)) ?_
      have hb_8 := hi_m.knT (i := t) (by omega)
      refine z_aload_n C dX3_takeFrom_124 rfl 1 rfl ?_
      refine z_iload_n C dX3_takeFrom_125 rfl 3 rfl ?_
      refine z_iload_n C dX3_takeFrom_126 rfl 2 rfl ?_
      have hf_9 := fl_agr_m M t o
      have hf_10 := hi_m.lnT (i := t) (by omega)
      have hf_11 := hi_m.lnT (i := o) (by omega)
      refine z_cV C (st' := [.int (nI (fl_agr M t o)), .int (nI (fl_kn M t)), .int (nI (fl_kn M o)), .int (nI (o)), .ref (a 9)]) (B' := [(shS a cI, M)]) [true] rfl (c_X3_agree l D cI cZ cJ a M n hi_m t o (by omega) (by omega)) wq_yX3_agree wm_X3_94 ⟨wn_yX3_agree, wo_yX3_agree⟩ ⟨rfl, rfl, Nat.le_of_ble_eq_true rfl, Nat.le_of_ble_eq_true rfl⟩ 0 rfl 0 rfl rfl rfl rfl (Nat.le_of_ble_eq_true rfl) dX3_takeFrom_127 ⟨Nat.le_of_ble_eq_true rfl, Nat.le_of_ble_eq_true rfl⟩ rfl rfl ?_
      refine z_mminN C wm_X3_102 ws_min wi_J9 wk_min ⟨(Nat.le_of_ble_eq_true rfl), (Nat.le_of_ble_eq_true rfl), (Nat.le_of_ble_eq_true rfl), (Nat.le_of_ble_eq_true rfl)⟩ dX3_takeFrom_130 (by omega) (by omega) ?_
      refine z_mmaxN C wm_X3_107 ws_max wi_J9 wk_max ⟨(Nat.le_of_ble_eq_true rfl), (Nat.le_of_ble_eq_true rfl), (Nat.le_of_ble_eq_true rfl), (Nat.le_of_ble_eq_true rfl)⟩ dX3_takeFrom_133 (by omega) (by omega) ?_
      refine z_iast C (B' := [(shS a cI, (zU M 9 (o) (nI (max (fl_kn M o) (min (fl_kn M t) (fl_agr M t o))))))]) 0 rfl 9 0 rfl rfl dX3_takeFrom_136 (by omega) (by decide) rfl ?_
      rw [hQ]; exact z_vret C hr dX3_takeFrom_137 ⟨rfl, congrArg (fun x => [(shS a cI, x)]) (by rw [hT, fl_telT, hG, hM]; rfl)⟩
    · refine z_aload_n C dX3_takeFrom_80 rfl 1 rfl ?_
      refine z_iload_n C dX3_takeFrom_81 rfl 2 rfl ?_
      refine z_aload_n C dX3_takeFrom_82 rfl 1 rfl ?_
      refine z_getR C wu_X3 0 rfl 0 rfl rfl 14 (by decide) rfl wf_X3_43 dX3_takeFrom_83 ?_
      refine z_bipush C (v := nI (10)) (by decide) dX3_takeFrom_86 ?_
      refine z_iload_n C dX3_takeFrom_88 rfl 3 rfl ?_
      refine z_imulN C dX3_takeFrom_89 ?_
      refine z_top (congrArg nI (Nat.mul_comm _ _)) ?_
      refine z_iload_n C dX3_takeFrom_90 rfl 0 rfl ?_
      refine z_iaddN C dX3_takeFrom_91 ?_
      refine z_iald C 0 rfl 10 0 rfl rfl dX3_takeFrom_92 (by omega) (by decide) ?_
      refine z_aload_n C dX3_takeFrom_93 rfl 1 rfl ?_
      refine z_getR C wu_X3 0 rfl 0 rfl rfl 15 (by decide) rfl wf_X3_46 dX3_takeFrom_94 ?_
      refine z_bipush C (v := nI (10)) (by decide) dX3_takeFrom_97 ?_
      refine z_iload_n C dX3_takeFrom_99 rfl 3 rfl ?_
      refine z_imulN C dX3_takeFrom_100 ?_
      refine z_top (congrArg nI (Nat.mul_comm _ _)) ?_
      refine z_iload_n C dX3_takeFrom_101 rfl 0 rfl ?_
      refine z_iaddN C dX3_takeFrom_102 ?_
      refine z_iald C 0 rfl 11 0 rfl rfl dX3_takeFrom_103 (by omega) (by decide) ?_
      have hi_12 : fl_Iv n (fl_app G o (G 10 ((t * 10) + (fl_agr G t o))) (G 11 ((t * 10) + (fl_agr G t o)))) := fl_app_Iv hi_g _ _ _ (by omega)
      refine z_cV C (st' := []) (B' := [(shS a cI, (fl_app G o (G 10 ((t * 10) + (fl_agr G t o))) (G 11 ((t * 10) + (fl_agr G t o)))))]) [true] rfl (c_X3_add l D cI cZ cJ a G n hi_g o (G 10 ((t * 10) + (fl_agr G t o))) (G 11 ((t * 10) + (fl_agr G t o))) (by omega) (by omega)) wq_yX3_add wm_X3_98 ⟨wn_yX3_add, wo_yX3_add⟩ ⟨rfl, rfl, Nat.le_of_ble_eq_true rfl, Nat.le_of_ble_eq_true rfl⟩ 0 rfl 0 rfl rfl rfl rfl (Nat.le_of_ble_eq_true rfl) dX3_takeFrom_104 ⟨Nat.le_of_ble_eq_true rfl, Nat.le_of_ble_eq_true rfl⟩ rfl rfl ?_
      refine z_eq (B' := [(shS a cI, fl_lose (fl_mend G t o) (fl_cut G t o))]) (congrArg (fun x => [(shS a cI, x)]) (by rw [fl_mend_a (t := t) (by omega) (by omega), fl_cut_f (by omega), fl_lose_f])) ?_
      have hi_m := fl_lose_Iv (fl_mend_Iv hi_g ht ho) (fl_cut G t o)
      generalize hM : fl_lose (fl_mend G t o) (fl_cut G t o) = M at hi_m ⊢
      refine z_aload_n C dX3_takeFrom_107 rfl 1 rfl ?_
      refine z_getR C wu_X3 0 rfl 0 rfl rfl 13 (by decide) rfl wf_X3_40 dX3_takeFrom_108 ?_
      refine z_iload_n C dX3_takeFrom_111 rfl 2 rfl ?_
      refine z_aload_n C dX3_takeFrom_112 rfl 1 rfl ?_
      refine z_getR C wu_X3 0 rfl 0 rfl rfl 13 (by decide) rfl wf_X3_40 dX3_takeFrom_113 ?_
      refine z_iload_n C dX3_takeFrom_116 rfl 2 rfl ?_
      refine z_iald C 0 rfl 9 0 rfl rfl dX3_takeFrom_117 (by omega) (by decide) ?_
      refine z_top (y := nI (fl_kn M o)) (hi_m.kn (by omega)) ?_
      have hb_13 := hi_m.knT (i := o) (by omega)
      refine z_aload_n C dX3_takeFrom_118 rfl 1 rfl ?_
      refine z_getR C wu_X3 0 rfl 0 rfl rfl 13 (by decide) rfl wf_X3_40 dX3_takeFrom_119 ?_
      refine z_iload_n C dX3_takeFrom_122 rfl 3 rfl ?_
      refine z_iald C 0 rfl 9 0 rfl rfl dX3_takeFrom_123 (by omega) (by decide) ?_
      refine z_top (y := nI (fl_kn M t)) (hi_m.kn (by omega)) ?_
      have hb_14 := hi_m.knT (i := t) (by omega)
      refine z_aload_n C dX3_takeFrom_124 rfl 1 rfl ?_
      refine z_iload_n C dX3_takeFrom_125 rfl 3 rfl ?_
      refine z_iload_n C dX3_takeFrom_126 rfl 2 rfl ?_
      have hf_15 := fl_agr_m M t o
      have hf_16 := hi_m.lnT (i := t) (by omega)
      have hf_17 := hi_m.lnT (i := o) (by omega)
      refine z_cV C (st' := [.int (nI (fl_agr M t o)), .int (nI (fl_kn M t)), .int (nI (fl_kn M o)), .int (nI (o)), .ref (a 9)]) (B' := [(shS a cI, M)]) [true] rfl (c_X3_agree l D cI cZ cJ a M n hi_m t o (by omega) (by omega)) wq_yX3_agree wm_X3_94 ⟨wn_yX3_agree, wo_yX3_agree⟩ ⟨rfl, rfl, Nat.le_of_ble_eq_true rfl, Nat.le_of_ble_eq_true rfl⟩ 0 rfl 0 rfl rfl rfl rfl (Nat.le_of_ble_eq_true rfl) dX3_takeFrom_127 ⟨Nat.le_of_ble_eq_true rfl, Nat.le_of_ble_eq_true rfl⟩ rfl rfl ?_
      refine z_mminN C wm_X3_102 ws_min wi_J9 wk_min ⟨(Nat.le_of_ble_eq_true rfl), (Nat.le_of_ble_eq_true rfl), (Nat.le_of_ble_eq_true rfl), (Nat.le_of_ble_eq_true rfl)⟩ dX3_takeFrom_130 (by omega) (by omega) ?_
      refine z_mmaxN C wm_X3_107 ws_max wi_J9 wk_max ⟨(Nat.le_of_ble_eq_true rfl), (Nat.le_of_ble_eq_true rfl), (Nat.le_of_ble_eq_true rfl), (Nat.le_of_ble_eq_true rfl)⟩ dX3_takeFrom_133 (by omega) (by omega) ?_
      refine z_iast C (B' := [(shS a cI, (zU M 9 (o) (nI (max (fl_kn M o) (min (fl_kn M t) (fl_agr M t o))))))]) 0 rfl 9 0 rfl rfl dX3_takeFrom_136 (by omega) (by decide) rfl ?_
      rw [hQ]; exact z_vret C hr dX3_takeFrom_137 ⟨rfl, congrArg (fun x => [(shS a cI, x)]) (by rw [hT, fl_telT, hG, hM]; rfl)⟩
  · refine z_aload_n C dX3_takeFrom_47 rfl 1 rfl ?_
    refine z_getR C wu_X3 0 rfl 0 rfl rfl 12 (by decide) rfl wf_X3_37 dX3_takeFrom_48 ?_
    refine z_iload_n C dX3_takeFrom_51 rfl 2 rfl ?_
    refine z_dup2 C rfl rfl dX3_takeFrom_52 ?_
    refine z_iald C 0 rfl 8 0 rfl rfl dX3_takeFrom_53 (by omega) (by decide) ?_
    refine z_top (y := nI (fl_ln G o)) (hi_g.ln (by omega)) ?_
    have hb_18 := hi_g.lnT (i := o) (by omega)
    refine z_iconst C (v := nI (1)) (by decide) dX3_takeFrom_54 ?_
    refine z_isubN C dX3_takeFrom_55 (by omega) ?_
    refine z_iast C (B' := [(shS a cI, (zU G 8 (o) (nI ((fl_ln G o) - 1))))]) 0 rfl 8 0 rfl rfl dX3_takeFrom_56 (by omega) (by decide) rfl ?_
    refine z_aload_n C dX3_takeFrom_57 rfl 1 rfl ?_
    refine z_dup C rfl dX3_takeFrom_58 ?_
    refine z_getI C wu_X3 0 rfl 0 rfl rfl 4 (by decide) rfl wf_X3_62 dX3_takeFrom_59 ?_
    refine z_top (y := G 0 (4)) rfl ?_
    refine z_iconst C (v := nI (1)) (by decide) dX3_takeFrom_62 ?_
    refine z_iadd C dX3_takeFrom_63 ?_
    refine z_putI C (B' := [(shS a cI, (zU (zU G 8 (o) (nI ((fl_ln G o) - 1))) 0 (4) (G 0 (4) + nI (1))))]) wu_X3 tyX3_ok nmX3 0 rfl 0 rfl rfl 4 (by decide) rfl wf_X3_62 rfl (by decide +kernel) dX3_takeFrom_64 rfl ?_
    refine z_goto C (tgt := 107) dX3_takeFrom_67 (by decide) ?_
    refine z_eq (B' := [(shS a cI, fl_lose (fl_mend G t o) (fl_cut G t o))]) (congrArg (fun x => [(shS a cI, x)]) (by rw [fl_mend_c (t := t) (by omega), fl_cut_t (by omega), fl_lose_t]; rfl)) ?_
    have hi_m := fl_lose_Iv (fl_mend_Iv hi_g ht ho) (fl_cut G t o)
    generalize hM : fl_lose (fl_mend G t o) (fl_cut G t o) = M at hi_m ⊢
    refine z_aload_n C dX3_takeFrom_107 rfl 1 rfl ?_
    refine z_getR C wu_X3 0 rfl 0 rfl rfl 13 (by decide) rfl wf_X3_40 dX3_takeFrom_108 ?_
    refine z_iload_n C dX3_takeFrom_111 rfl 2 rfl ?_
    refine z_aload_n C dX3_takeFrom_112 rfl 1 rfl ?_
    refine z_getR C wu_X3 0 rfl 0 rfl rfl 13 (by decide) rfl wf_X3_40 dX3_takeFrom_113 ?_
    refine z_iload_n C dX3_takeFrom_116 rfl 2 rfl ?_
    refine z_iald C 0 rfl 9 0 rfl rfl dX3_takeFrom_117 (by omega) (by decide) ?_
    refine z_top (y := nI (fl_kn M o)) (hi_m.kn (by omega)) ?_
    have hb_19 := hi_m.knT (i := o) (by omega)
    refine z_aload_n C dX3_takeFrom_118 rfl 1 rfl ?_
    refine z_getR C wu_X3 0 rfl 0 rfl rfl 13 (by decide) rfl wf_X3_40 dX3_takeFrom_119 ?_
    refine z_iload_n C dX3_takeFrom_122 rfl 3 rfl ?_
    refine z_iald C 0 rfl 9 0 rfl rfl dX3_takeFrom_123 (by omega) (by decide) ?_
    refine z_top (y := nI (fl_kn M t)) (hi_m.kn (by omega)) ?_
    have hb_20 := hi_m.knT (i := t) (by omega)
    refine z_aload_n C dX3_takeFrom_124 rfl 1 rfl ?_
    refine z_iload_n C dX3_takeFrom_125 rfl 3 rfl ?_
    refine z_iload_n C dX3_takeFrom_126 rfl 2 rfl ?_
    have hf_21 := fl_agr_m M t o
    have hf_22 := hi_m.lnT (i := t) (by omega)
    have hf_23 := hi_m.lnT (i := o) (by omega)
    refine z_cV C (st' := [.int (nI (fl_agr M t o)), .int (nI (fl_kn M t)), .int (nI (fl_kn M o)), .int (nI (o)), .ref (a 9)]) (B' := [(shS a cI, M)]) [true] rfl (c_X3_agree l D cI cZ cJ a M n hi_m t o (by omega) (by omega)) wq_yX3_agree wm_X3_94 ⟨wn_yX3_agree, wo_yX3_agree⟩ ⟨rfl, rfl, Nat.le_of_ble_eq_true rfl, Nat.le_of_ble_eq_true rfl⟩ 0 rfl 0 rfl rfl rfl rfl (Nat.le_of_ble_eq_true rfl) dX3_takeFrom_127 ⟨Nat.le_of_ble_eq_true rfl, Nat.le_of_ble_eq_true rfl⟩ rfl rfl ?_
    refine z_mminN C wm_X3_102 ws_min wi_J9 wk_min ⟨(Nat.le_of_ble_eq_true rfl), (Nat.le_of_ble_eq_true rfl), (Nat.le_of_ble_eq_true rfl), (Nat.le_of_ble_eq_true rfl)⟩ dX3_takeFrom_130 (by omega) (by omega) ?_
    refine z_mmaxN C wm_X3_107 ws_max wi_J9 wk_max ⟨(Nat.le_of_ble_eq_true rfl), (Nat.le_of_ble_eq_true rfl), (Nat.le_of_ble_eq_true rfl), (Nat.le_of_ble_eq_true rfl)⟩ dX3_takeFrom_133 (by omega) (by omega) ?_
    refine z_iast C (B' := [(shS a cI, (zU M 9 (o) (nI (max (fl_kn M o) (min (fl_kn M t) (fl_agr M t o))))))]) 0 rfl 9 0 rfl rfl dX3_takeFrom_136 (by omega) (by decide) rfl ?_
    rw [hQ]; exact z_vret C hr dX3_takeFrom_137 ⟨rfl, congrArg (fun x => [(shS a cI, x)]) (by rw [hT, fl_telT, hG, hM]; rfl)⟩
set_option maxHeartbeats 4000000 in
set_option maxRecDepth 100000 in
theorem c_X3_tell (l : Launch) (D : va_G) (cI cZ cJ : ClassId) (a : Nat → Nat) (σ : zF) (n : Nat) (hI : fl_Iv n σ) (t : Nat) (ht : t < n) (h50 : σ 5 t = nI 2) : zM l D (tyL cI cZ cJ) yX3_tell cX3_tell 3 none (zR 2 46) [.ref (a 0), .int (nI (t))] [(shS a cI, σ)] 0 0 (fun r u => r = none ∧ u = [(shS a cI, (fl_tells n t 0 σ))]) := by
  have hn3 := hI.n3
  have hn7 := hI.n7
  refine z_of (by decide) (Nat.le_of_ble_eq_true rfl) rfl ?_
  intro p e s m args below meth c A C hr hin
  obtain ⟨Q, hQ⟩ : ∃ Q, Q = MQ below (zQ (fun r u => r = none ∧ u = [(shS a cI, (fl_tells n t 0 σ))]) D (tyL cI cZ cJ) A) args s 0 0 A := ⟨_, rfl⟩
  rw [← hQ]
  refine z_iconst C (v := nI (0)) (by decide) dX3_tell_0 ?_
  refine z_istore_n C (L' := [(2, .int (nI (0))), (0, .ref (a 0)), (1, .int (nI (t)))]) dX3_tell_1 rfl (by decide) rfl ?_
  have loop_2 : ∀ (k_2 o : Nat) (τ : zF), n < o + k_2 → o ≤ n → (hres : fl_tells n t o τ = fl_tells n t 0 σ) → (hτ : fl_Iv n τ) → (h5 : τ 5 t = nI 2) → zK p l e (zR 2 46) s m args below meth c D A 3 Q 0 0 2 [(2, .int (nI (o))), (1, .int (nI (t))), (0, .ref (a 0))] [] [(shS a cI, τ)] := by
    intro k_2
    induction k_2 with
    | zero => intro o τ m1_2 m2_2; exact absurd m1_2 (by omega)
    | succ k_2 ih_2 =>
      intro o τ m1_2 m2_2 hres hτ h5
      refine z_iload_n C dX3_tell_2 rfl 0 rfl ?_
      refine z_aload_n C dX3_tell_3 rfl 2 rfl ?_
      refine z_getI C wu_X3 0 rfl 0 rfl rfl 0 (by decide) rfl wf_X3_9 dX3_tell_4 ?_
      refine z_top (hτ.n0 : _ = nI n) ?_
      refine z_icmp_geN C (tgt := 61) dX3_tell_7 (by decide) (by omega) (by omega) (fun c_7 => ?_) (fun c_7 => ?_)
      · rw [hQ]; exact z_vret C hr dX3_tell_61 ⟨rfl, congrArg (fun x => [(shS a cI, x)]) (by rw [← hres, fl_tells_end _ _ _ _ c_7])⟩
      · refine z_aload_n C dX3_tell_10 rfl 2 rfl ?_
        refine z_iload_n C dX3_tell_11 rfl 1 rfl ?_
        refine z_iload_n C dX3_tell_12 rfl 0 rfl ?_
        refine z_cV C (st' := [.int (zb (decide (t ≠ o) && fl_hear τ t o))]) (B' := [(shS a cI, τ)]) [true] rfl (c_X3_hear l D cI cZ cJ a τ n hτ t o (by omega) (by omega)) wq_yX3_hear wm_X3_79 ⟨wn_yX3_hear, wo_yX3_hear⟩ ⟨rfl, rfl, Nat.le_of_ble_eq_true rfl, Nat.le_of_ble_eq_true rfl⟩ 0 rfl 0 rfl rfl rfl rfl (Nat.le_of_ble_eq_true rfl) dX3_tell_13 ⟨Nat.le_of_ble_eq_true rfl, Nat.le_of_ble_eq_true rfl⟩ rfl rfl ?_
        refine z_if_neB C (tgt := 22) dX3_tell_16 (by decide) (fun c_16 => ?_) (fun c_16 => ?_)
        · refine z_aload_n C dX3_tell_22 rfl 2 rfl ?_
          refine z_getR C wu_X3 0 rfl 0 rfl rfl 7 (by decide) rfl wf_X3_22 dX3_tell_23 ?_
          refine z_iload_n C dX3_tell_26 rfl 0 rfl ?_
          refine z_iald C 0 rfl 3 0 rfl rfl dX3_tell_27 (by omega) (by decide) ?_
          refine z_aload_n C dX3_tell_28 rfl 2 rfl ?_
          refine z_getR C wu_X3 0 rfl 0 rfl rfl 7 (by decide) rfl wf_X3_22 dX3_tell_29 ?_
          refine z_iload_n C dX3_tell_32 rfl 1 rfl ?_
          refine z_iald C 0 rfl 3 0 rfl rfl dX3_tell_33 (by omega) (by decide) ?_
          refine z_icmp_le C (tgt := 49) dX3_tell_34 (by decide) (fun c_34 => ?_) (fun c_34 => ?_)
          · refine z_aload_n C dX3_tell_49 rfl 2 rfl ?_
            refine z_iload_n C dX3_tell_50 rfl 0 rfl ?_
            refine z_iload_n C dX3_tell_51 rfl 1 rfl ?_
            have hi_1 : fl_Iv n (fl_telT (fl_hof τ o (τ 3 t)) t o) := fl_telT_Iv (fl_hof_Iv hτ _ _) (by omega) (by omega)
            refine z_cV C (st' := []) (B' := [(shS a cI, (fl_telT (fl_hof τ o (τ 3 t)) t o))]) [true] rfl (c_X3_takeFrom l D cI cZ cJ a τ n hτ o t (by omega) (by omega)) wq_yX3_takeFrom wm_X3_110 ⟨wn_yX3_takeFrom, wo_yX3_takeFrom⟩ ⟨rfl, rfl, Nat.le_of_ble_eq_true rfl, Nat.le_of_ble_eq_true rfl⟩ 0 rfl 0 rfl rfl rfl rfl (Nat.le_of_ble_eq_true rfl) dX3_tell_52 ⟨Nat.le_of_ble_eq_true rfl, Nat.le_of_ble_eq_true rfl⟩ rfl rfl ?_
            refine z_iinc C (L' := [(2, .int (nI (o + 1))), (1, .int (nI (t))), (0, .ref (a 0))]) dX3_tell_55 0 rfl (z_inc1 _) (by decide) rfl ?_
            refine z_goto C (tgt := 2) dX3_tell_58 (by decide) ?_
            refine z_sub (L' := [(2, .int (nI (o + 1))), (1, .int (nI (t))), (0, .ref (a 0))]) [0, 1, 2] rfl ?_
            exact ih_2 (o + 1) _ (by omega) (by omega) (Eq.trans (by rw [fl_tells_go n t o τ (by omega) h5, if_pos (fl_yh c_16), fl_tel, if_neg (Int32.not_lt.mpr c_34)]) hres) hi_1 (by rw [fl_telT_role _ (Ne.symm (fl_yh c_16).1), fl_hof_role _ _ (Ne.symm (fl_yh c_16).1)]; exact h5)
          · refine z_aload_n C dX3_tell_37 rfl 2 rfl ?_
            refine z_iload_n C dX3_tell_38 rfl 1 rfl ?_
            refine z_aload_n C dX3_tell_39 rfl 2 rfl ?_
            refine z_getR C wu_X3 0 rfl 0 rfl rfl 7 (by decide) rfl wf_X3_22 dX3_tell_40 ?_
            refine z_iload_n C dX3_tell_43 rfl 0 rfl ?_
            refine z_iald C 0 rfl 3 0 rfl rfl dX3_tell_44 (by omega) (by decide) ?_
            have hi_2 : fl_Iv n (fl_hof τ t (τ 3 (o))) := fl_hof_Iv hτ _ _
            refine z_cV C (st' := []) (B' := [(shS a cI, (fl_hof τ t (τ 3 (o))))]) [true] rfl (c_X3_hearOf l D cI cZ cJ a τ n hτ t (τ 3 (o)) (by omega)) wq_yX3_hearOf wm_X3_83 ⟨wn_yX3_hearOf, wo_yX3_hearOf⟩ ⟨rfl, rfl, Nat.le_of_ble_eq_true rfl, Nat.le_of_ble_eq_true rfl⟩ 0 rfl 0 rfl rfl rfl rfl (Nat.le_of_ble_eq_true rfl) dX3_tell_45 ⟨Nat.le_of_ble_eq_true rfl, Nat.le_of_ble_eq_true rfl⟩ rfl rfl ?_
            rw [hQ]; exact z_vret C hr dX3_tell_48 ⟨rfl, congrArg (fun x => [(shS a cI, x)]) (by rw [← hres, fl_tells_ret (by omega) h5 (fl_yh c_16) (Int32.not_le.mp c_34)])⟩
        · refine z_goto C (tgt := 55) dX3_tell_19 (by decide) ?_
          refine z_iinc C (L' := [(2, .int (nI (o + 1))), (1, .int (nI (t))), (0, .ref (a 0))]) dX3_tell_55 0 rfl (z_inc1 _) (by decide) rfl ?_
          refine z_goto C (tgt := 2) dX3_tell_58 (by decide) ?_
          refine z_sub (L' := [(2, .int (nI (o + 1))), (1, .int (nI (t))), (0, .ref (a 0))]) [0, 1, 2] rfl ?_
          exact ih_2 (o + 1) _ (by omega) (by omega) (Eq.trans (by rw [fl_tells_go n t o τ (by omega) h5, if_neg (fl_nh c_16)]) hres) hτ h5
  refine z_sub (L' := [(2, .int (nI (0))), (1, .int (nI (t))), (0, .ref (a 0))]) [0, 2, 1] rfl ?_
  exact loop_2 (n + 1) 0 _ (by omega) (by omega) rfl hI h50
set_option maxHeartbeats 4000000 in
set_option maxRecDepth 100000 in
theorem c_X3_commit (l : Launch) (D : va_G) (cI cZ cJ : ClassId) (a : Nat → Nat) (σ : zF) (n : Nat) (hI : fl_Iv n σ) (b : Nat) (hb : b < n) (hup : ¬ σ 7 b = 0) : zM l D (tyL cI cZ cJ) yX3_commit cX3_commit 5 none (zR 1 23) [.ref (a 0), .int (nI (b))] [(shS a cI, σ)] 0 0 (fun r u => r = none ∧ u = [(shS a cI, (fl_com n σ b))]) := by
  have hn3 := hI.n3
  have hn7 := hI.n7
  refine z_of (by decide) (Nat.le_of_ble_eq_true rfl) rfl ?_
  intro p e s m args below meth c A C hr hin
  obtain ⟨Q, hQ⟩ : ∃ Q, Q = MQ below (zQ (fun r u => r = none ∧ u = [(shS a cI, (fl_com n σ b))]) D (tyL cI cZ cJ) A) args s 0 0 A := ⟨_, rfl⟩
  rw [← hQ]
  have hlb := hI.lnT hb
  refine z_aload_n C dX3_commit_0 rfl 0 rfl ?_
  refine z_getR C wu_X3 0 rfl 0 rfl rfl 12 (by decide) rfl wf_X3_37 dX3_commit_1 ?_
  refine z_iload_n C dX3_commit_4 rfl 1 rfl ?_
  refine z_iald C 0 rfl 8 0 rfl rfl dX3_commit_5 (by omega) (by decide) ?_
  refine z_top (y := nI (fl_ln σ b)) (hI.ln (by omega)) ?_
  have hb_1 := hI.lnT (i := b) (by omega)
  refine z_istore_n C (L' := [(2, .int (nI (fl_ln σ b))), (0, .ref (a 0)), (1, .int (nI (b)))]) dX3_commit_6 rfl (by decide) rfl ?_
  have loop_7 : ∀ (k : Nat), (hk : k ≤ fl_ln σ b) → (hres : fl_comL n σ b k = fl_com n σ b) → zK p l e (zR 1 23) s m args below meth c D A 5 Q 0 0 7 [(2, .int (nI (k))), (1, .int (nI (b))), (0, .ref (a 0))] [] [(shS a cI, σ)] := by
    intro k
    induction k with
    | zero =>
      intro  hk hres
      refine z_iload_n C dX3_commit_7 rfl 0 rfl ?_
      refine z_aload_n C dX3_commit_8 rfl 2 rfl ?_
      refine z_getR C wu_X3 0 rfl 0 rfl rfl 13 (by decide) rfl wf_X3_40 dX3_commit_9 ?_
      refine z_iload_n C dX3_commit_12 rfl 1 rfl ?_
      refine z_iald C 0 rfl 9 0 rfl rfl dX3_commit_13 (by omega) (by decide) ?_
      refine z_top (y := nI (fl_kn σ b)) (hI.kn (by omega)) ?_
      have hb_2 := hI.knT (i := b) (by omega)
      refine z_icmp_leN C (tgt := 116) dX3_commit_14 (by decide) (by omega) (by omega) (fun c_14 => ?_) (fun c_14 => ?_)
      · rw [hQ]; exact z_vret C hr dX3_commit_116 ⟨rfl, congrArg (fun x => [(shS a cI, x)]) (by refine Eq.trans ?_ hres; first | exact (fl_com_0 _ _ _ _ (by omega)).symm | (rw [fl_comL, if_pos c_14]; exact (if_pos ⟨by rw [show b * 10 + (k + 1) - 1 = b * 10 + k by omega] at c_36; exact c_36, by rw [← hcs]; exact of_decide_eq_true c_96⟩).symm))⟩
      · exact absurd c_14 (by omega)
    | succ k ih_7 =>
      intro  hk hres
      refine z_iload_n C dX3_commit_7 rfl 0 rfl ?_
      refine z_aload_n C dX3_commit_8 rfl 2 rfl ?_
      refine z_getR C wu_X3 0 rfl 0 rfl rfl 13 (by decide) rfl wf_X3_40 dX3_commit_9 ?_
      refine z_iload_n C dX3_commit_12 rfl 1 rfl ?_
      refine z_iald C 0 rfl 9 0 rfl rfl dX3_commit_13 (by omega) (by decide) ?_
      refine z_top (y := nI (fl_kn σ b)) (hI.kn (by omega)) ?_
      have hb_3 := hI.knT (i := b) (by omega)
      refine z_icmp_leN C (tgt := 116) dX3_commit_14 (by decide) (by omega) (by omega) (fun c_14 => ?_) (fun c_14 => ?_)
      · rw [hQ]; exact z_vret C hr dX3_commit_116 ⟨rfl, congrArg (fun x => [(shS a cI, x)]) (by refine Eq.trans ?_ hres; first | exact (fl_com_0 _ _ _ _ (by omega)).symm | (rw [fl_comL, if_pos c_14]; exact (if_pos ⟨by rw [show b * 10 + (k + 1) - 1 = b * 10 + k by omega] at c_36; exact c_36, by rw [← hcs]; exact of_decide_eq_true c_96⟩).symm))⟩
      · refine z_aload_n C dX3_commit_17 rfl 2 rfl ?_
        refine z_getR C wu_X3 0 rfl 0 rfl rfl 14 (by decide) rfl wf_X3_43 dX3_commit_18 ?_
        refine z_bipush C (v := nI (10)) (by decide) dX3_commit_21 ?_
        refine z_iload_n C dX3_commit_23 rfl 1 rfl ?_
        refine z_imulN C dX3_commit_24 ?_
        refine z_top (congrArg nI (Nat.mul_comm _ _)) ?_
        refine z_iload_n C dX3_commit_25 rfl 0 rfl ?_
        refine z_iaddN C dX3_commit_26 ?_
        refine z_iconst C (v := nI (1)) (by decide) dX3_commit_27 ?_
        refine z_isubN C dX3_commit_28 (by omega) ?_
        refine z_iald C 0 rfl 10 0 rfl rfl dX3_commit_29 (by omega) (by decide) ?_
        refine z_aload_n C dX3_commit_30 rfl 2 rfl ?_
        refine z_getR C wu_X3 0 rfl 0 rfl rfl 7 (by decide) rfl wf_X3_22 dX3_commit_31 ?_
        refine z_iload_n C dX3_commit_34 rfl 1 rfl ?_
        refine z_iald C 0 rfl 3 0 rfl rfl dX3_commit_35 (by omega) (by decide) ?_
        refine z_icmp_eq C (tgt := 42) dX3_commit_36 (by decide) (fun c_36 => ?_) (fun c_36 => ?_)
        · refine z_iconst C (v := nI (1)) (by decide) dX3_commit_42 ?_
          refine z_istore_n C (L' := [(3, .int (nI (1))), (2, .int (nI (k + 1))), (1, .int (nI (b))), (0, .ref (a 0))]) dX3_commit_43 rfl (by decide) rfl ?_
          refine z_iconst C (v := nI (0)) (by decide) dX3_commit_44 ?_
          refine z_istore C (L' := [(4, .int (nI (0))), (3, .int (nI (1))), (2, .int (nI (k + 1))), (1, .int (nI (b))), (0, .ref (a 0))]) dX3_commit_45 (by decide) rfl ?_
          have loop_47 : ∀ (k_47 o : Nat) (v : Nat), n < o + k_47 → o ≤ n → (hv : v = 1 + fl_ct (fun o => decide (b ≠ o) && fl_agrees σ b (k + 1) o) o) → (hv1 : v ≤ o + 1) → zK p l e (zR 1 23) s m args below meth c D A 5 Q 0 0 47 [(4, .int (nI (o))), (3, .int (nI (v))), (2, .int (nI (k + 1))), (1, .int (nI (b))), (0, .ref (a 0))] [] [(shS a cI, σ)] := by
            intro k_47
            induction k_47 with
            | zero => intro o v m1_47 m2_47; exact absurd m1_47 (by omega)
            | succ k_47 ih_47 =>
              intro o v m1_47 m2_47 hv hv1
              refine z_iload C dX3_commit_47 0 rfl ?_
              refine z_aload_n C dX3_commit_49 rfl 4 rfl ?_
              refine z_getI C wu_X3 0 rfl 0 rfl rfl 0 (by decide) rfl wf_X3_9 dX3_commit_50 ?_
              refine z_top (hI.n0 : _ = nI n) ?_
              refine z_icmp_geN C (tgt := 91) dX3_commit_53 (by decide) (by omega) (by omega) (fun c_53 => ?_) (fun c_53 => ?_)
              · have hcs : v = fl_cnt n σ b (k + 1) := by rw [hv, show o = n by omega]; exact fl_cnt_self hb hup (by omega)
                refine z_aload_n C dX3_commit_91 rfl 4 rfl ?_
                refine z_iload_n C dX3_commit_92 rfl 1 rfl ?_
                refine z_cV C (st' := [.int (zb (decide (n / 2 < v)))]) (B' := [(shS a cI, σ)]) [true] rfl (c_X3_isMore l D cI cZ cJ a σ n hI v (by omega)) wq_yX3_isMore wm_X3_90 ⟨wn_yX3_isMore, wo_yX3_isMore⟩ ⟨rfl, rfl, Nat.le_of_ble_eq_true rfl, Nat.le_of_ble_eq_true rfl⟩ 0 rfl 0 rfl rfl rfl rfl (Nat.le_of_ble_eq_true rfl) dX3_commit_93 ⟨Nat.le_of_ble_eq_true rfl, Nat.le_of_ble_eq_true rfl⟩ rfl rfl ?_
                refine z_if_neB C (tgt := 102) dX3_commit_96 (by decide) (fun c_96 => ?_) (fun c_96 => ?_)
                · refine z_aload_n C dX3_commit_102 rfl 4 rfl ?_
                  refine z_getR C wu_X3 0 rfl 0 rfl rfl 13 (by decide) rfl wf_X3_40 dX3_commit_103 ?_
                  refine z_iload_n C dX3_commit_106 rfl 3 rfl ?_
                  refine z_iload_n C dX3_commit_107 rfl 2 rfl ?_
                  refine z_iast C (B' := [(shS a cI, (zU σ 9 (b) (nI (k + 1))))]) 0 rfl 9 0 rfl rfl dX3_commit_108 (by omega) (by decide) rfl ?_
                  rw [hQ]; exact z_vret C hr dX3_commit_109 ⟨rfl, congrArg (fun x => [(shS a cI, x)]) (by refine Eq.trans ?_ hres; first | exact (fl_com_0 _ _ _ _ (by omega)).symm | (rw [fl_comL, if_pos c_14]; exact (if_pos ⟨by rw [show b * 10 + (k + 1) - 1 = b * 10 + k by omega] at c_36; exact c_36, by rw [← hcs]; exact of_decide_eq_true c_96⟩).symm))⟩
                · refine z_goto C (tgt := 110) dX3_commit_99 (by decide) ?_
                  refine z_iinc C (L' := [(2, .int (nI (k + 1 - 1))), (4, .int (nI (o))), (3, .int (nI (v))), (1, .int (nI (b))), (0, .ref (a 0))]) dX3_commit_110 2 rfl (z_dec1 (by omega)) (by decide) rfl ?_
                  refine z_goto C (tgt := 7) dX3_commit_113 (by decide) ?_
                  refine z_sub (L' := [(2, .int (nI (k + 1 - 1))), (1, .int (nI (b))), (0, .ref (a 0))]) [0, 3, 4] rfl ?_
                  exact ih_7  (by omega) (Eq.trans (by rw [fl_comL, if_pos c_14, if_neg (fun q => absurd q.2 (by rw [← hcs]; exact of_decide_eq_false c_96))]) hres)
              · refine z_iload_n C dX3_commit_56 rfl 1 rfl ?_
                refine z_aload_n C dX3_commit_57 rfl 4 rfl ?_
                refine z_iload_n C dX3_commit_58 rfl 3 rfl ?_
                refine z_iload C dX3_commit_59 0 rfl ?_
                refine z_cV C (st' := [.int (zb (decide (b ≠ o) && fl_hear σ b o)), .int (nI (v))]) (B' := [(shS a cI, σ)]) [true] rfl (c_X3_hear l D cI cZ cJ a σ n hI b o (by omega) (by omega)) wq_yX3_hear wm_X3_79 ⟨wn_yX3_hear, wo_yX3_hear⟩ ⟨rfl, rfl, Nat.le_of_ble_eq_true rfl, Nat.le_of_ble_eq_true rfl⟩ 0 rfl 0 rfl rfl rfl rfl (Nat.le_of_ble_eq_true rfl) dX3_commit_61 ⟨Nat.le_of_ble_eq_true rfl, Nat.le_of_ble_eq_true rfl⟩ rfl rfl ?_
                refine z_if_eqB C (tgt := 82) dX3_commit_64 (by decide) (fun c_64 => ?_) (fun c_64 => ?_)
                · refine z_iconst C (v := nI (0)) (by decide) dX3_commit_82 ?_
                  refine z_iaddN C dX3_commit_83 ?_
                  refine z_istore_n C (L' := [(3, .int (nI (v + 0))), (4, .int (nI (o))), (2, .int (nI (k + 1))), (1, .int (nI (b))), (0, .ref (a 0))]) dX3_commit_84 rfl (by decide) rfl ?_
                  refine z_iinc C (L' := [(4, .int (nI (o + 1))), (3, .int (nI (v + 0))), (2, .int (nI (k + 1))), (1, .int (nI (b))), (0, .ref (a 0))]) dX3_commit_85 1 rfl (z_inc1 _) (by decide) rfl ?_
                  refine z_goto C (tgt := 47) dX3_commit_88 (by decide) ?_
                  refine z_sub (L' := [(4, .int (nI (o + 1))), (3, .int (nI (v + 0))), (2, .int (nI (k + 1))), (1, .int (nI (b))), (0, .ref (a 0))]) [0, 1, 2, 3, 4] rfl ?_
                  exact ih_47 (o + 1) _ (by omega) (by omega) (by rw [fl_ct, if_neg (by unfold fl_agrees; intro q; rw [Bool.and_eq_true, Bool.and_eq_true] at q; rw [Bool.and_eq_false_iff] at c_64; simp [q.1, q.2.1] at c_64)]; exact hv) (by omega)
                · refine z_aload_n C dX3_commit_67 rfl 4 rfl ?_
                  refine z_iload_n C dX3_commit_68 rfl 3 rfl ?_
                  refine z_iload C dX3_commit_69 0 rfl ?_
                  have hf_4 := fl_agr_m σ b o
                  have hf_5 := hI.lnT (i := b) (by omega)
                  have hf_6 := hI.lnT (i := o) (by omega)
                  refine z_cV C (st' := [.int (nI (fl_agr σ b o)), .int (nI (v))]) (B' := [(shS a cI, σ)]) [true] rfl (c_X3_agree l D cI cZ cJ a σ n hI b o (by omega) (by omega)) wq_yX3_agree wm_X3_94 ⟨wn_yX3_agree, wo_yX3_agree⟩ ⟨rfl, rfl, Nat.le_of_ble_eq_true rfl, Nat.le_of_ble_eq_true rfl⟩ 0 rfl 0 rfl rfl rfl rfl (Nat.le_of_ble_eq_true rfl) dX3_commit_71 ⟨Nat.le_of_ble_eq_true rfl, Nat.le_of_ble_eq_true rfl⟩ rfl rfl ?_
                  refine z_iload_n C dX3_commit_74 rfl 2 rfl ?_
                  refine z_icmp_ltN C (tgt := 82) dX3_commit_75 (by decide) (by omega) (by omega) (fun c_75 => ?_) (fun c_75 => ?_)
                  · refine z_iconst C (v := nI (0)) (by decide) dX3_commit_82 ?_
                    refine z_iaddN C dX3_commit_83 ?_
                    refine z_istore_n C (L' := [(3, .int (nI (v + 0))), (4, .int (nI (o))), (2, .int (nI (k + 1))), (1, .int (nI (b))), (0, .ref (a 0))]) dX3_commit_84 rfl (by decide) rfl ?_
                    refine z_iinc C (L' := [(4, .int (nI (o + 1))), (3, .int (nI (v + 0))), (2, .int (nI (k + 1))), (1, .int (nI (b))), (0, .ref (a 0))]) dX3_commit_85 1 rfl (z_inc1 _) (by decide) rfl ?_
                    refine z_goto C (tgt := 47) dX3_commit_88 (by decide) ?_
                    refine z_sub (L' := [(4, .int (nI (o + 1))), (3, .int (nI (v + 0))), (2, .int (nI (k + 1))), (1, .int (nI (b))), (0, .ref (a 0))]) [0, 1, 2, 3, 4] rfl ?_
                    exact ih_47 (o + 1) _ (by omega) (by omega) (by simp only [fl_agrees] at hv ⊢; rw [fl_ct]; simp at c_64; simp [c_64, c_75, hv]; try omega) (by omega)
                  · refine z_iconst C (v := nI (1)) (by decide) dX3_commit_78 ?_
                    refine z_goto C (tgt := 83) dX3_commit_79 (by decide) ?_
                    refine z_iaddN C dX3_commit_83 ?_
                    refine z_istore_n C (L' := [(3, .int (nI (v + 1))), (4, .int (nI (o))), (2, .int (nI (k + 1))), (1, .int (nI (b))), (0, .ref (a 0))]) dX3_commit_84 rfl (by decide) rfl ?_
                    refine z_iinc C (L' := [(4, .int (nI (o + 1))), (3, .int (nI (v + 1))), (2, .int (nI (k + 1))), (1, .int (nI (b))), (0, .ref (a 0))]) dX3_commit_85 1 rfl (z_inc1 _) (by decide) rfl ?_
                    refine z_goto C (tgt := 47) dX3_commit_88 (by decide) ?_
                    refine z_sub (L' := [(4, .int (nI (o + 1))), (3, .int (nI (v + 1))), (2, .int (nI (k + 1))), (1, .int (nI (b))), (0, .ref (a 0))]) [0, 1, 2, 3, 4] rfl ?_
                    exact ih_47 (o + 1) _ (by omega) (by omega) (by simp only [fl_agrees] at hv ⊢; rw [fl_ct]; simp at c_64; simp [c_64, c_75, hv]; try omega) (by omega)
          refine z_sub (L' := [(4, .int (nI (0))), (3, .int (nI (1))), (2, .int (nI (k + 1))), (1, .int (nI (b))), (0, .ref (a 0))]) [0, 1, 2, 3, 4] rfl ?_
          exact loop_47 (n + 1) 0 _ (by omega) (by omega) rfl (by omega)
        · refine z_goto C (tgt := 110) dX3_commit_39 (by decide) ?_
          refine z_iinc C (L' := [(2, .int (nI (k + 1 - 1))), (1, .int (nI (b))), (0, .ref (a 0))]) dX3_commit_110 0 rfl (z_dec1 (by omega)) (by decide) rfl ?_
          refine z_goto C (tgt := 7) dX3_commit_113 (by decide) ?_
          refine z_sub (L' := [(2, .int (nI (k + 1 - 1))), (1, .int (nI (b))), (0, .ref (a 0))]) [0, 1, 2] rfl ?_
          exact ih_7  (by omega) (Eq.trans (by rw [fl_comL, if_pos c_14, if_neg (fun q => c_36 (by rw [show b * 10 + (k + 1) - 1 = b * 10 + k by omega]; exact q.1))]) hres)
  refine z_sub (L' := [(2, .int (nI (fl_ln σ b))), (1, .int (nI (b))), (0, .ref (a 0))]) [0, 2, 1] rfl ?_
  exact loop_7 _  (Nat.le_refl _) rfl
set_option maxHeartbeats 4000000 in
set_option maxRecDepth 100000 in
theorem c_X3_pass (l : Launch) (D : va_G) (cI cZ cJ : ClassId) (a : Nat → Nat) (σ : zF) (n : Nat) (hI : fl_Iv n σ) : zM l D (tyL cI cZ cJ) yX3_pass cX3_pass 2 none (zR 3 68) [.ref (a 0)] [(shS a cI, σ)] 0 0 (fun r u => r = none ∧ u = [(shS a cI, (fl_hour n σ))]) := by
  have hn3 := hI.n3
  have hn7 := hI.n7
  refine z_of (by decide) (Nat.le_of_ble_eq_true rfl) rfl ?_
  intro p e s m args below meth c A C hr hin
  obtain ⟨Q, hQ⟩ : ∃ Q, Q = MQ below (zQ (fun r u => r = none ∧ u = [(shS a cI, (fl_hour n σ))]) D (tyL cI cZ cJ) A) args s 0 0 A := ⟨_, rfl⟩
  rw [← hQ]
  refine z_iconst C (v := nI (0)) (by decide) dX3_pass_0 ?_
  refine z_istore_n C (L' := [(1, .int (nI (0))), (0, .ref (a 0))]) dX3_pass_1 rfl (by decide) rfl ?_
  have loop_2 : ∀ (k_2 o : Nat) (τ1 : zF), n < o + k_2 → o ≤ n → (hres1 : τ1 = fl_fold (fl_clk1 n) o σ) → (hτ1 : fl_Iv n τ1) → zK p l e (zR 3 68) s m args below meth c D A 2 Q 0 0 2 [(1, .int (nI (o))), (0, .ref (a 0))] [] [(shS a cI, τ1)] := by
    intro k_2
    induction k_2 with
    | zero => intro o τ1 m1_2 m2_2; exact absurd m1_2 (by omega)
    | succ k_2 ih_2 =>
      intro o τ1 m1_2 m2_2 hres1 hτ1
      refine z_iload_n C dX3_pass_2 rfl 0 rfl ?_
      refine z_aload_n C dX3_pass_3 rfl 1 rfl ?_
      refine z_getI C wu_X3 0 rfl 0 rfl rfl 0 (by decide) rfl wf_X3_9 dX3_pass_4 ?_
      refine z_top (hτ1.n0 : _ = nI n) ?_
      refine z_icmp_geN C (tgt := 62) dX3_pass_7 (by decide) (by omega) (by omega) (fun c_7 => ?_) (fun c_7 => ?_)
      · rw [show o = n by omega] at hres1
        refine z_iconst C (v := nI (0)) (by decide) dX3_pass_62 ?_
        refine z_istore_n C (L' := [(1, .int (nI (0))), (0, .ref (a 0))]) dX3_pass_63 rfl (by decide) rfl ?_
        have loop_64 : ∀ (k_64 o : Nat) (τ2 : zF), n < o + k_64 → o ≤ n → (hres2 : τ2 = fl_fold (fl_tls1 n) o τ1) → (hτ2 : fl_Iv n τ2) → zK p l e (zR 3 68) s m args below meth c D A 2 Q 0 0 64 [(1, .int (nI (o))), (0, .ref (a 0))] [] [(shS a cI, τ2)] := by
          intro k_64
          induction k_64 with
          | zero => intro o τ2 m1_64 m2_64; exact absurd m1_64 (by omega)
          | succ k_64 ih_64 =>
            intro o τ2 m1_64 m2_64 hres2 hτ2
            refine z_iload_n C dX3_pass_64 rfl 0 rfl ?_
            refine z_aload_n C dX3_pass_65 rfl 1 rfl ?_
            refine z_getI C wu_X3 0 rfl 0 rfl rfl 0 (by decide) rfl wf_X3_9 dX3_pass_66 ?_
            refine z_top (hτ2.n0 : _ = nI n) ?_
            refine z_icmp_geN C (tgt := 92) dX3_pass_69 (by decide) (by omega) (by omega) (fun c_69 => ?_) (fun c_69 => ?_)
            · rw [show o = n by omega] at hres2
              refine z_iconst C (v := nI (0)) (by decide) dX3_pass_92 ?_
              refine z_istore_n C (L' := [(1, .int (nI (0))), (0, .ref (a 0))]) dX3_pass_93 rfl (by decide) rfl ?_
              have loop_94 : ∀ (k_94 o : Nat) (τ3 : zF), n < o + k_94 → o ≤ n → (hres3 : τ3 = fl_fold (fl_coms1 n) o τ2) → (hτ3 : fl_Iv n τ3) → zK p l e (zR 3 68) s m args below meth c D A 2 Q 0 0 94 [(1, .int (nI (o))), (0, .ref (a 0))] [] [(shS a cI, τ3)] := by
                intro k_94
                induction k_94 with
                | zero => intro o τ3 m1_94 m2_94; exact absurd m1_94 (by omega)
                | succ k_94 ih_94 =>
                  intro o τ3 m1_94 m2_94 hres3 hτ3
                  refine z_iload_n C dX3_pass_94 rfl 0 rfl ?_
                  refine z_aload_n C dX3_pass_95 rfl 1 rfl ?_
                  refine z_getI C wu_X3 0 rfl 0 rfl rfl 0 (by decide) rfl wf_X3_9 dX3_pass_96 ?_
                  refine z_top (hτ3.n0 : _ = nI n) ?_
                  refine z_icmp_geN C (tgt := 122) dX3_pass_99 (by decide) (by omega) (by omega) (fun c_99 => ?_) (fun c_99 => ?_)
                  · rw [show o = n by omega] at hres3
                    refine z_aload_n C dX3_pass_122 rfl 1 rfl ?_
                    refine z_dup C rfl dX3_pass_123 ?_
                    refine z_getI C wu_X3 0 rfl 0 rfl rfl 1 (by decide) rfl wf_X3_53 dX3_pass_124 ?_
                    refine z_iconst C (v := nI (1)) (by decide) dX3_pass_127 ?_
                    refine z_iadd C dX3_pass_128 ?_
                    refine z_putI C (B' := [(shS a cI, (zU τ3 0 (1) (τ3 0 (1) + nI (1))))]) wu_X3 tyX3_ok nmX3 0 rfl 0 rfl rfl 1 (by decide) rfl wf_X3_53 rfl (by decide +kernel) dX3_pass_129 rfl ?_
                    rw [hQ]; exact z_vret C hr dX3_pass_132 ⟨rfl, congrArg (fun x => [(shS a cI, x)]) (by rw [fl_hour, ← hres1, ← hres2, ← hres3]; rfl)⟩
                  · refine z_aload_n C dX3_pass_102 rfl 1 rfl ?_
                    refine z_iload_n C dX3_pass_103 rfl 0 rfl ?_
                    refine z_iconst C (v := nI (2)) (by decide) dX3_pass_104 ?_
                    refine z_cV C (st' := [.int (zb (fl_lead τ3 o))]) (B' := [(shS a cI, τ3)]) [true] rfl (c_X3_isUp l D cI cZ cJ a τ3 n hτ3 o 2 (by omega)) wq_yX3_isUp wm_X3_116 ⟨wn_yX3_isUp, wo_yX3_isUp⟩ ⟨rfl, rfl, Nat.le_of_ble_eq_true rfl, Nat.le_of_ble_eq_true rfl⟩ 0 rfl 0 rfl rfl rfl rfl (Nat.le_of_ble_eq_true rfl) dX3_pass_105 ⟨Nat.le_of_ble_eq_true rfl, Nat.le_of_ble_eq_true rfl⟩ rfl rfl ?_
                    refine z_if_eqB C (tgt := 116) dX3_pass_108 (by decide) (fun c_108 => ?_) (fun c_108 => ?_)
                    · refine z_iinc C (L' := [(1, .int (nI (o + 1))), (0, .ref (a 0))]) dX3_pass_116 0 rfl (z_inc1 _) (by decide) rfl ?_
                      refine z_goto C (tgt := 94) dX3_pass_119 (by decide) ?_
                      refine z_sub (L' := [(1, .int (nI (o + 1))), (0, .ref (a 0))]) [0, 1] rfl ?_
                      exact ih_94 (o + 1) _ (by omega) (by omega) (by rw [fl_fold, ← hres3, fl_coms1]; simp [c_108]) hτ3
                    · refine z_aload_n C dX3_pass_111 rfl 1 rfl ?_
                      refine z_iload_n C dX3_pass_112 rfl 0 rfl ?_
                      have hi_1 : fl_Iv n (fl_com n τ3 o) := fl_com_Iv hτ3 (by omega)
                      refine z_cV C (st' := []) (B' := [(shS a cI, (fl_com n τ3 o))]) [true] rfl (c_X3_commit l D cI cZ cJ a τ3 n hτ3 o (by omega) (fl_lead_u c_108)) wq_yX3_commit wm_X3_122 ⟨wn_yX3_commit, wo_yX3_commit⟩ ⟨rfl, rfl, Nat.le_of_ble_eq_true rfl, Nat.le_of_ble_eq_true rfl⟩ 0 rfl 0 rfl rfl rfl rfl (Nat.le_of_ble_eq_true rfl) dX3_pass_113 ⟨Nat.le_of_ble_eq_true rfl, Nat.le_of_ble_eq_true rfl⟩ rfl rfl ?_
                      refine z_iinc C (L' := [(1, .int (nI (o + 1))), (0, .ref (a 0))]) dX3_pass_116 0 rfl (z_inc1 _) (by decide) rfl ?_
                      refine z_goto C (tgt := 94) dX3_pass_119 (by decide) ?_
                      refine z_sub (L' := [(1, .int (nI (o + 1))), (0, .ref (a 0))]) [0, 1] rfl ?_
                      exact ih_94 (o + 1) _ (by omega) (by omega) (by rw [fl_fold, ← hres3, fl_coms1]; simp [c_108]) hi_1
              refine z_sub (L' := [(1, .int (nI (0))), (0, .ref (a 0))]) [0, 1] rfl ?_
              exact loop_94 (n + 1) 0 _ (by omega) (by omega) rfl hτ2
            · refine z_aload_n C dX3_pass_72 rfl 1 rfl ?_
              refine z_iload_n C dX3_pass_73 rfl 0 rfl ?_
              refine z_iconst C (v := nI (2)) (by decide) dX3_pass_74 ?_
              refine z_cV C (st' := [.int (zb (fl_lead τ2 o))]) (B' := [(shS a cI, τ2)]) [true] rfl (c_X3_isUp l D cI cZ cJ a τ2 n hτ2 o 2 (by omega)) wq_yX3_isUp wm_X3_116 ⟨wn_yX3_isUp, wo_yX3_isUp⟩ ⟨rfl, rfl, Nat.le_of_ble_eq_true rfl, Nat.le_of_ble_eq_true rfl⟩ 0 rfl 0 rfl rfl rfl rfl (Nat.le_of_ble_eq_true rfl) dX3_pass_75 ⟨Nat.le_of_ble_eq_true rfl, Nat.le_of_ble_eq_true rfl⟩ rfl rfl ?_
              refine z_if_eqB C (tgt := 86) dX3_pass_78 (by decide) (fun c_78 => ?_) (fun c_78 => ?_)
              · refine z_iinc C (L' := [(1, .int (nI (o + 1))), (0, .ref (a 0))]) dX3_pass_86 0 rfl (z_inc1 _) (by decide) rfl ?_
                refine z_goto C (tgt := 64) dX3_pass_89 (by decide) ?_
                refine z_sub (L' := [(1, .int (nI (o + 1))), (0, .ref (a 0))]) [0, 1] rfl ?_
                exact ih_64 (o + 1) _ (by omega) (by omega) (by rw [fl_fold, ← hres2, fl_tls1]; simp [c_78]) hτ2
              · refine z_aload_n C dX3_pass_81 rfl 1 rfl ?_
                refine z_iload_n C dX3_pass_82 rfl 0 rfl ?_
                have hi_2 : fl_Iv n (fl_tells n o 0 τ2) := fl_tells_Iv hτ2 (by omega)
                refine z_cV C (st' := []) (B' := [(shS a cI, (fl_tells n o 0 τ2))]) [true] rfl (c_X3_tell l D cI cZ cJ a τ2 n hτ2 o (by omega) (fl_lead_r c_78)) wq_yX3_tell wm_X3_119 ⟨wn_yX3_tell, wo_yX3_tell⟩ ⟨rfl, rfl, Nat.le_of_ble_eq_true rfl, Nat.le_of_ble_eq_true rfl⟩ 0 rfl 0 rfl rfl rfl rfl (Nat.le_of_ble_eq_true rfl) dX3_pass_83 ⟨Nat.le_of_ble_eq_true rfl, Nat.le_of_ble_eq_true rfl⟩ rfl rfl ?_
                refine z_iinc C (L' := [(1, .int (nI (o + 1))), (0, .ref (a 0))]) dX3_pass_86 0 rfl (z_inc1 _) (by decide) rfl ?_
                refine z_goto C (tgt := 64) dX3_pass_89 (by decide) ?_
                refine z_sub (L' := [(1, .int (nI (o + 1))), (0, .ref (a 0))]) [0, 1] rfl ?_
                exact ih_64 (o + 1) _ (by omega) (by omega) (by rw [fl_fold, ← hres2, fl_tls1]; simp [c_78]) hi_2
        refine z_sub (L' := [(1, .int (nI (0))), (0, .ref (a 0))]) [0, 1] rfl ?_
        exact loop_64 (n + 1) 0 _ (by omega) (by omega) rfl hτ1
      · refine z_aload_n C dX3_pass_10 rfl 1 rfl ?_
        refine z_getR C wu_X3 0 rfl 0 rfl rfl 11 (by decide) rfl wf_X3_34 dX3_pass_11 ?_
        refine z_iload_n C dX3_pass_14 rfl 0 rfl ?_
        refine z_iald C 0 rfl 7 0 rfl rfl dX3_pass_15 (by omega) (by decide) ?_
        refine z_if_eq C (tgt := 56) dX3_pass_16 (by decide) (fun c_16 => ?_) (fun c_16 => ?_)
        · refine z_iinc C (L' := [(1, .int (nI (o + 1))), (0, .ref (a 0))]) dX3_pass_56 0 rfl (z_inc1 _) (by decide) rfl ?_
          refine z_goto C (tgt := 2) dX3_pass_59 (by decide) ?_
          refine z_sub (L' := [(1, .int (nI (o + 1))), (0, .ref (a 0))]) [0, 1] rfl ?_
          exact ih_2 (o + 1) _ (by omega) (by omega) (by rw [fl_fold, ← hres1, fl_clk1]; simp [c_16]) hτ1
        · refine z_aload_n C dX3_pass_19 rfl 1 rfl ?_
          refine z_getR C wu_X3 0 rfl 0 rfl rfl 9 (by decide) rfl wf_X3_28 dX3_pass_20 ?_
          refine z_iload_n C dX3_pass_23 rfl 0 rfl ?_
          refine z_iald C 0 rfl 5 0 rfl rfl dX3_pass_24 (by omega) (by decide) ?_
          refine z_iconst C (v := nI (2)) (by decide) dX3_pass_25 ?_
          refine z_icmp_ne C (tgt := 32) dX3_pass_26 (by decide) (fun c_26 => ?_) (fun c_26 => ?_)
          · refine z_aload_n C dX3_pass_32 rfl 1 rfl ?_
            refine z_getR C wu_X3 0 rfl 0 rfl rfl 6 (by decide) rfl wf_X3_19 dX3_pass_33 ?_
            refine z_iload_n C dX3_pass_36 rfl 0 rfl ?_
            refine z_dup2 C rfl rfl dX3_pass_37 ?_
            refine z_iald C 0 rfl 2 0 rfl rfl dX3_pass_38 (by omega) (by decide) ?_
            refine z_iconst C (v := nI (1)) (by decide) dX3_pass_39 ?_
            refine z_isub C dX3_pass_40 ?_
            refine z_iast C (B' := [(shS a cI, (zU τ1 2 (o) (τ1 2 (o) - nI (1))))]) 0 rfl 2 0 rfl rfl dX3_pass_41 (by omega) (by decide) rfl ?_
            refine z_aload_n C dX3_pass_42 rfl 1 rfl ?_
            refine z_getR C wu_X3 0 rfl 0 rfl rfl 6 (by decide) rfl wf_X3_19 dX3_pass_43 ?_
            refine z_iload_n C dX3_pass_46 rfl 0 rfl ?_
            refine z_iald C 0 rfl 2 0 rfl rfl dX3_pass_47 (by omega) (by decide) ?_
            refine z_top (y := τ1 2 (o) - nI (1)) (zU_self _ _ _ _) ?_
            refine z_if_ne C (tgt := 56) dX3_pass_48 (by decide) (fun c_48 => ?_) (fun c_48 => ?_)
            · refine z_iinc C (L' := [(1, .int (nI (o + 1))), (0, .ref (a 0))]) dX3_pass_56 0 rfl (z_inc1 _) (by decide) rfl ?_
              refine z_goto C (tgt := 2) dX3_pass_59 (by decide) ?_
              refine z_sub (L' := [(1, .int (nI (o + 1))), (0, .ref (a 0))]) [0, 1] rfl ?_
              exact ih_2 (o + 1) _ (by omega) (by omega) (by rw [fl_fold, ← hres1, fl_clk1]; simp [c_16, c_26, c_48]) (hτ1.U 2 (o) (τ1 2 (o) - nI (1)) (by decide) (by decide) (by decide) (by decide))
            · refine z_aload_n C dX3_pass_51 rfl 1 rfl ?_
              refine z_iload_n C dX3_pass_52 rfl 0 rfl ?_
              have hi_3 : fl_Iv n (zU τ1 2 (o) (τ1 2 (o) - nI (1))) := (hτ1.U 2 (o) (τ1 2 (o) - nI (1)) (by decide) (by decide) (by decide) (by decide))
              have hi_4 : fl_Iv n (fl_stand n ((zU τ1 2 (o) (τ1 2 (o) - nI (1)))) o) := fl_stand_Iv hi_3 _
              refine z_cV C (st' := []) (B' := [(shS a cI, (fl_stand n ((zU τ1 2 (o) (τ1 2 (o) - nI (1)))) o))]) [true] rfl (c_X3_stand l D cI cZ cJ a ((zU τ1 2 (o) (τ1 2 (o) - nI (1)))) n hi_3 o (by omega)) wq_yX3_stand wm_X3_113 ⟨wn_yX3_stand, wo_yX3_stand⟩ ⟨rfl, rfl, Nat.le_of_ble_eq_true rfl, Nat.le_of_ble_eq_true rfl⟩ 0 rfl 0 rfl rfl rfl rfl (Nat.le_of_ble_eq_true rfl) dX3_pass_53 ⟨Nat.le_of_ble_eq_true rfl, Nat.le_of_ble_eq_true rfl⟩ rfl rfl ?_
              refine z_iinc C (L' := [(1, .int (nI (o + 1))), (0, .ref (a 0))]) dX3_pass_56 0 rfl (z_inc1 _) (by decide) rfl ?_
              refine z_goto C (tgt := 2) dX3_pass_59 (by decide) ?_
              refine z_sub (L' := [(1, .int (nI (o + 1))), (0, .ref (a 0))]) [0, 1] rfl ?_
              exact ih_2 (o + 1) _ (by omega) (by omega) (by rw [fl_fold, ← hres1, fl_clk1]; simp [c_16, c_26, c_48]) hi_4
          · refine z_goto C (tgt := 56) dX3_pass_29 (by decide) ?_
            refine z_iinc C (L' := [(1, .int (nI (o + 1))), (0, .ref (a 0))]) dX3_pass_56 0 rfl (z_inc1 _) (by decide) rfl ?_
            refine z_goto C (tgt := 2) dX3_pass_59 (by decide) ?_
            refine z_sub (L' := [(1, .int (nI (o + 1))), (0, .ref (a 0))]) [0, 1] rfl ?_
            exact ih_2 (o + 1) _ (by omega) (by omega) (by rw [fl_fold, ← hres1, fl_clk1]; simp [c_16, c_26]) hτ1
  refine z_sub (L' := [(1, .int (nI (0))), (0, .ref (a 0))]) [0, 1] rfl ?_
  exact loop_2 (n + 1) 0 _ (by omega) (by omega) rfl hI
set_option maxHeartbeats 4000000 in
set_option maxRecDepth 100000 in
theorem c_X3_passOn (l : Launch) (D : va_G) (cI cZ cJ : ClassId) (a : Nat → Nat) (σ : zF) (n : Nat) (hI : fl_Iv n σ) (h : Nat) (hh : h < 2 ^ 31) : zM l D (tyL cI cZ cJ) yX3_passOn cX3_passOn 3 none (zR 4 89) [.ref (a 0), .int (nI (h))] [(shS a cI, σ)] 0 0 (fun r u => r = none ∧ u = [(shS a cI, (fl_hours n h σ))]) := by
  have hn3 := hI.n3
  have hn7 := hI.n7
  refine z_of (by decide) (Nat.le_of_ble_eq_true rfl) rfl ?_
  intro p e s m args below meth c A C hr hin
  obtain ⟨Q, hQ⟩ : ∃ Q, Q = MQ below (zQ (fun r u => r = none ∧ u = [(shS a cI, (fl_hours n h σ))]) D (tyL cI cZ cJ) A) args s 0 0 A := ⟨_, rfl⟩
  rw [← hQ]
  refine z_iconst C (v := nI (0)) (by decide) dX3_passOn_0 ?_
  refine z_istore_n C (L' := [(2, .int (nI (0))), (0, .ref (a 0)), (1, .int (nI (h)))]) dX3_passOn_1 rfl (by decide) rfl ?_
  have loop_2 : ∀ (k_2 o : Nat) (τ : zF), h < o + k_2 → o ≤ h → (hres : τ = fl_hours n o σ) → (hτ : fl_Iv n τ) → zK p l e (zR 4 89) s m args below meth c D A 3 Q 0 0 2 [(2, .int (nI (o))), (1, .int (nI (h))), (0, .ref (a 0))] [] [(shS a cI, τ)] := by
    intro k_2
    induction k_2 with
    | zero => intro o τ m1_2 m2_2; exact absurd m1_2 (by omega)
    | succ k_2 ih_2 =>
      intro o τ m1_2 m2_2 hres hτ
      refine z_iload_n C dX3_passOn_2 rfl 0 rfl ?_
      refine z_iload_n C dX3_passOn_3 rfl 1 rfl ?_
      refine z_icmp_geN C (tgt := 17) dX3_passOn_4 (by decide) (by omega) (by omega) (fun c_4 => ?_) (fun c_4 => ?_)
      · rw [hQ]; exact z_vret C hr dX3_passOn_17 ⟨rfl, congrArg (fun x => [(shS a cI, x)]) (by rw [hres, show o = h by omega])⟩
      · refine z_aload_n C dX3_passOn_7 rfl 2 rfl ?_
        have hi_1 : fl_Iv n (fl_hour n τ) := fl_hour_Iv hτ
        refine z_cV C (st' := []) (B' := [(shS a cI, (fl_hour n τ))]) [true] rfl (c_X3_pass l D cI cZ cJ a τ n hτ  ) wq_yX3_pass wm_X3_125 ⟨wn_yX3_pass, wo_yX3_pass⟩ ⟨rfl, rfl, Nat.le_of_ble_eq_true rfl, Nat.le_of_ble_eq_true rfl⟩ 0 rfl 0 rfl rfl rfl rfl (Nat.le_of_ble_eq_true rfl) dX3_passOn_8 ⟨Nat.le_of_ble_eq_true rfl, Nat.le_of_ble_eq_true rfl⟩ rfl rfl ?_
        refine z_iinc C (L' := [(2, .int (nI (o + 1))), (1, .int (nI (h))), (0, .ref (a 0))]) dX3_passOn_11 0 rfl (z_inc1 _) (by decide) rfl ?_
        refine z_goto C (tgt := 2) dX3_passOn_14 (by decide) ?_
        refine z_sub (L' := [(2, .int (nI (o + 1))), (1, .int (nI (h))), (0, .ref (a 0))]) [0, 1, 2] rfl ?_
        exact ih_2 (o + 1) _ (by omega) (by omega) (by rw [fl_hours, ← hres]) (fl_hour_Iv hτ)
  refine z_sub (L' := [(2, .int (nI (0))), (1, .int (nI (h))), (0, .ref (a 0))]) [0, 2, 1] rfl ?_
  exact loop_2 (h + 1) 0 _ (by omega) (by omega) rfl hI
set_option maxHeartbeats 4000000 in
set_option maxRecDepth 100000 in
theorem c_X3_counted (l : Launch) (D : va_G) (cI cZ cJ : ClassId) (a : Nat → Nat) (σ : zF) (n : Nat) (hI : fl_Iv n σ) (w : Nat) (hw : w < 10) : zM l D (tyL cI cZ cJ) yX3_counted cX3_counted 8 (some .int) (zR 1 22) [.ref (a 0), .int (nI (w))] [(shS a cI, σ)] 0 0 (fun r u => r = some (.int (fl_ofF n σ w)) ∧ u = [(shS a cI, σ)]) := by
  have hn3 := hI.n3
  have hn7 := hI.n7
  refine z_of (by decide) (Nat.le_of_ble_eq_true rfl) rfl ?_
  intro p e s m args below meth c A C hr hin
  obtain ⟨Q, hQ⟩ : ∃ Q, Q = MQ below (zQ (fun r u => r = some (.int (fl_ofF n σ w)) ∧ u = [(shS a cI, σ)]) D (tyL cI cZ cJ) A) args s 0 0 A := ⟨_, rfl⟩
  rw [← hQ]
  refine z_iconst C (v := nI (0)) (by decide) dX3_counted_0 ?_
  refine z_istore_n C (L' := [(2, .int (nI (0))), (0, .ref (a 0)), (1, .int (nI (w)))]) dX3_counted_1 rfl (by decide) rfl ?_
  refine z_iconst C (v := nI (0)) (by decide) dX3_counted_2 ?_
  refine z_istore_n C (L' := [(3, .int (nI (0))), (2, .int (nI (0))), (0, .ref (a 0)), (1, .int (nI (w)))]) dX3_counted_3 rfl (by decide) rfl ?_
  refine z_bipush C (v := nI (10)) (by decide) dX3_counted_4 ?_
  refine z_istore C (L' := [(4, .int (nI (10))), (3, .int (nI (0))), (2, .int (nI (0))), (0, .ref (a 0)), (1, .int (nI (w)))]) dX3_counted_6 (by decide) rfl ?_
  refine z_iconst C (v := nI (0)) (by decide) dX3_counted_8 ?_
  refine z_istore C (L' := [(5, .int (nI (0))), (4, .int (nI (10))), (3, .int (nI (0))), (2, .int (nI (0))), (0, .ref (a 0)), (1, .int (nI (w)))]) dX3_counted_9 (by decide) rfl ?_
  refine z_iconst C (v := nI (0)) (by decide) dX3_counted_11 ?_
  refine z_istore C (L' := [(6, .int (nI (0))), (5, .int (nI (0))), (4, .int (nI (10))), (3, .int (nI (0))), (2, .int (nI (0))), (0, .ref (a 0)), (1, .int (nI (w)))]) dX3_counted_12 (by decide) rfl ?_
  refine z_iconst C (v := nI (0)) (by decide) dX3_counted_14 ?_
  refine z_istore C (L' := [(7, .int (nI (0))), (6, .int (nI (0))), (5, .int (nI (0))), (4, .int (nI (10))), (3, .int (nI (0))), (2, .int (nI (0))), (0, .ref (a 0)), (1, .int (nI (w)))]) dX3_counted_15 (by decide) rfl ?_
  have loop_17 : ∀ (k_17 o : Nat) (v2 : Nat) (v6 : Nat) (v5 : Int32) (v3 : Int32) (v4 : Int32), n < o + k_17 → o ≤ n → (hv2 : v2 = fl_ct (fun b => decide (¬ σ 7 b = 0)) o) → (hv6 : v6 = fl_ct (fl_lead σ) o) → (hv5 : v5 = fl_max (σ 3) o) → (hv3 : v3 = fl_max (σ 9) o) → (hv4 : v4 = fl_min (σ 9) o) → zK p l e (zR 1 22) s m args below meth c D A 8 Q 0 0 17 [(7, .int (nI (o))), (6, .int (nI (v6))), (5, .int (v5)), (4, .int (v4)), (3, .int (v3)), (2, .int (nI (v2))), (1, .int (nI (w))), (0, .ref (a 0))] [] [(shS a cI, σ)] := by
    intro k_17
    induction k_17 with
    | zero => intro o v2 v6 v5 v3 v4 m1_17 m2_17; exact absurd m1_17 (by omega)
    | succ k_17 ih_17 =>
      intro o v2 v6 v5 v3 v4 m1_17 m2_17 hv2 hv6 hv5 hv3 hv4
      refine z_iload C dX3_counted_17 0 rfl ?_
      refine z_aload_n C dX3_counted_19 rfl 7 rfl ?_
      refine z_getI C wu_X3 0 rfl 0 rfl rfl 0 (by decide) rfl wf_X3_9 dX3_counted_20 ?_
      refine z_top (hI.n0 : _ = nI n) ?_
      refine z_icmp_geN C (tgt := 102) dX3_counted_23 (by decide) (by omega) (by omega) (fun c_23 => ?_) (fun c_23 => ?_)
      · refine z_iload_n C dX3_counted_102 rfl 6 rfl ?_
        rcases (show w = 0 ∨ w = 1 ∨ w = 2 ∨ w = 3 ∨ w = 4 ∨ w = 5 ∨ w = 6 ∨ w = 7 ∨ w = 8 ∨ w = 9 by omega) with rfl | rfl | rfl | rfl | rfl | rfl | rfl | rfl | rfl | rfl
        · refine z_tabI C (tgt := 152) dX3_counted_103 (by decide) (by decide) rfl (by decide) ?_
          refine z_aload_n C dX3_counted_152 rfl 7 rfl ?_
          refine z_getI C wu_X3 0 rfl 0 rfl rfl 1 (by decide) rfl wf_X3_53 dX3_counted_153 ?_
          rw [hQ]; exact z_iret C hr dX3_counted_156 ⟨congrArg (fun x => some (Value.int x)) (by first | rfl | (rw [hv2, show o = n by omega]; rfl) | (rw [hv6, show o = n by omega]; rfl) | (rw [hv5, show o = n by omega]; rfl) | (rw [hv3, show o = n by omega]; rfl) | (rw [hv4, show o = n by omega]; rfl)), rfl⟩
        · refine z_tabI C (tgt := 157) dX3_counted_103 (by decide) (by decide) rfl (by decide) ?_
          refine z_aload_n C dX3_counted_157 rfl 7 rfl ?_
          refine z_getI C wu_X3 0 rfl 0 rfl rfl 0 (by decide) rfl wf_X3_9 dX3_counted_158 ?_
          refine z_top (hI.n0 : _ = nI n) ?_
          rw [hQ]; exact z_iret C hr dX3_counted_161 ⟨congrArg (fun x => some (Value.int x)) (by first | rfl | (rw [hv2, show o = n by omega]; rfl) | (rw [hv6, show o = n by omega]; rfl) | (rw [hv5, show o = n by omega]; rfl) | (rw [hv3, show o = n by omega]; rfl) | (rw [hv4, show o = n by omega]; rfl)), rfl⟩
        · refine z_tabI C (tgt := 162) dX3_counted_103 (by decide) (by decide) rfl (by decide) ?_
          refine z_iload_n C dX3_counted_162 rfl 5 rfl ?_
          rw [hQ]; exact z_iret C hr dX3_counted_163 ⟨congrArg (fun x => some (Value.int x)) (by first | rfl | (rw [hv2, show o = n by omega]; rfl) | (rw [hv6, show o = n by omega]; rfl) | (rw [hv5, show o = n by omega]; rfl) | (rw [hv3, show o = n by omega]; rfl) | (rw [hv4, show o = n by omega]; rfl)), rfl⟩
        · refine z_tabI C (tgt := 164) dX3_counted_103 (by decide) (by decide) rfl (by decide) ?_
          refine z_iload C dX3_counted_164 1 rfl ?_
          rw [hQ]; exact z_iret C hr dX3_counted_166 ⟨congrArg (fun x => some (Value.int x)) (by first | rfl | (rw [hv2, show o = n by omega]; rfl) | (rw [hv6, show o = n by omega]; rfl) | (rw [hv5, show o = n by omega]; rfl) | (rw [hv3, show o = n by omega]; rfl) | (rw [hv4, show o = n by omega]; rfl)), rfl⟩
        · refine z_tabI C (tgt := 167) dX3_counted_103 (by decide) (by decide) rfl (by decide) ?_
          refine z_iload C dX3_counted_167 2 rfl ?_
          rw [hQ]; exact z_iret C hr dX3_counted_169 ⟨congrArg (fun x => some (Value.int x)) (by first | rfl | (rw [hv2, show o = n by omega]; rfl) | (rw [hv6, show o = n by omega]; rfl) | (rw [hv5, show o = n by omega]; rfl) | (rw [hv3, show o = n by omega]; rfl) | (rw [hv4, show o = n by omega]; rfl)), rfl⟩
        · refine z_tabI C (tgt := 170) dX3_counted_103 (by decide) (by decide) rfl (by decide) ?_
          refine z_aload_n C dX3_counted_170 rfl 7 rfl ?_
          refine z_getI C wu_X3 0 rfl 0 rfl rfl 2 (by decide) rfl wf_X3_56 dX3_counted_171 ?_
          rw [hQ]; exact z_iret C hr dX3_counted_174 ⟨congrArg (fun x => some (Value.int x)) (by first | rfl | (rw [hv2, show o = n by omega]; rfl) | (rw [hv6, show o = n by omega]; rfl) | (rw [hv5, show o = n by omega]; rfl) | (rw [hv3, show o = n by omega]; rfl) | (rw [hv4, show o = n by omega]; rfl)), rfl⟩
        · refine z_tabI C (tgt := 175) dX3_counted_103 (by decide) (by decide) rfl (by decide) ?_
          refine z_aload_n C dX3_counted_175 rfl 7 rfl ?_
          refine z_getI C wu_X3 0 rfl 0 rfl rfl 3 (by decide) rfl wf_X3_59 dX3_counted_176 ?_
          rw [hQ]; exact z_iret C hr dX3_counted_179 ⟨congrArg (fun x => some (Value.int x)) (by first | rfl | (rw [hv2, show o = n by omega]; rfl) | (rw [hv6, show o = n by omega]; rfl) | (rw [hv5, show o = n by omega]; rfl) | (rw [hv3, show o = n by omega]; rfl) | (rw [hv4, show o = n by omega]; rfl)), rfl⟩
        · refine z_tabI C (tgt := 180) dX3_counted_103 (by decide) (by decide) rfl (by decide) ?_
          refine z_aload_n C dX3_counted_180 rfl 7 rfl ?_
          refine z_getI C wu_X3 0 rfl 0 rfl rfl 4 (by decide) rfl wf_X3_62 dX3_counted_181 ?_
          rw [hQ]; exact z_iret C hr dX3_counted_184 ⟨congrArg (fun x => some (Value.int x)) (by first | rfl | (rw [hv2, show o = n by omega]; rfl) | (rw [hv6, show o = n by omega]; rfl) | (rw [hv5, show o = n by omega]; rfl) | (rw [hv3, show o = n by omega]; rfl) | (rw [hv4, show o = n by omega]; rfl)), rfl⟩
        · refine z_tabI C (tgt := 185) dX3_counted_103 (by decide) (by decide) rfl (by decide) ?_
          refine z_iload_n C dX3_counted_185 rfl 4 rfl ?_
          rw [hQ]; exact z_iret C hr dX3_counted_186 ⟨congrArg (fun x => some (Value.int x)) (by first | rfl | (rw [hv2, show o = n by omega]; rfl) | (rw [hv6, show o = n by omega]; rfl) | (rw [hv5, show o = n by omega]; rfl) | (rw [hv3, show o = n by omega]; rfl) | (rw [hv4, show o = n by omega]; rfl)), rfl⟩
        · refine z_tabO C (tgt := 187) dX3_counted_103 (by decide) (by decide) ?_
          refine z_iload C dX3_counted_187 3 rfl ?_
          rw [hQ]; exact z_iret C hr dX3_counted_189 ⟨congrArg (fun x => some (Value.int x)) (by first | rfl | (rw [hv2, show o = n by omega]; rfl) | (rw [hv6, show o = n by omega]; rfl) | (rw [hv5, show o = n by omega]; rfl) | (rw [hv3, show o = n by omega]; rfl) | (rw [hv4, show o = n by omega]; rfl)), rfl⟩
      · refine z_iload_n C dX3_counted_26 rfl 5 rfl ?_
        refine z_aload_n C dX3_counted_27 rfl 7 rfl ?_
        refine z_getR C wu_X3 0 rfl 0 rfl rfl 11 (by decide) rfl wf_X3_34 dX3_counted_28 ?_
        refine z_iload C dX3_counted_31 0 rfl ?_
        refine z_iald C 0 rfl 7 0 rfl rfl dX3_counted_33 (by omega) (by decide) ?_
        rcases hI.up (i := o) (by omega) with hu | hu
        · refine z_top (y := nI (0)) hu ?_
          refine z_iaddN C dX3_counted_34 ?_
          refine z_istore_n C (L' := [(2, .int (nI (v2 + 0))), (7, .int (nI (o))), (6, .int (nI (v6))), (5, .int (v5)), (4, .int (v4)), (3, .int (v3)), (1, .int (nI (w))), (0, .ref (a 0))]) dX3_counted_35 rfl (by decide) rfl ?_
          refine z_iload C dX3_counted_36 2 rfl ?_
          refine z_aload_n C dX3_counted_38 rfl 7 rfl ?_
          refine z_iload C dX3_counted_39 1 rfl ?_
          refine z_iconst C (v := nI (2)) (by decide) dX3_counted_41 ?_
          refine z_cV C (st' := [.int (zb (fl_lead σ o)), .int (nI (v6))]) (B' := [(shS a cI, σ)]) [true] rfl (c_X3_isUp l D cI cZ cJ a σ n hI o 2 (by omega)) wq_yX3_isUp wm_X3_116 ⟨wn_yX3_isUp, wo_yX3_isUp⟩ ⟨rfl, rfl, Nat.le_of_ble_eq_true rfl, Nat.le_of_ble_eq_true rfl⟩ 0 rfl 0 rfl rfl rfl rfl (Nat.le_of_ble_eq_true rfl) dX3_counted_42 ⟨Nat.le_of_ble_eq_true rfl, Nat.le_of_ble_eq_true rfl⟩ rfl rfl ?_
          refine z_if_eqB C (tgt := 52) dX3_counted_45 (by decide) (fun c_45 => ?_) (fun c_45 => ?_)
          · refine z_iconst C (v := nI (0)) (by decide) dX3_counted_52 ?_
            refine z_iaddN C dX3_counted_53 ?_
            refine z_istore C (L' := [(6, .int (nI (v6 + 0))), (2, .int (nI (v2 + 0))), (7, .int (nI (o))), (5, .int (v5)), (4, .int (v4)), (3, .int (v3)), (1, .int (nI (w))), (0, .ref (a 0))]) dX3_counted_54 (by decide) rfl ?_
            refine z_iload C dX3_counted_56 3 rfl ?_
            refine z_aload_n C dX3_counted_58 rfl 7 rfl ?_
            refine z_getR C wu_X3 0 rfl 0 rfl rfl 7 (by decide) rfl wf_X3_22 dX3_counted_59 ?_
            refine z_iload C dX3_counted_62 2 rfl ?_
            refine z_iald C 0 rfl 3 0 rfl rfl dX3_counted_64 (by omega) (by decide) ?_
            refine z_mmax C wm_X3_107 ws_max wi_J9 wk_max ⟨(Nat.le_of_ble_eq_true rfl), (Nat.le_of_ble_eq_true rfl), (Nat.le_of_ble_eq_true rfl), (Nat.le_of_ble_eq_true rfl)⟩ dX3_counted_65 ?_
            refine z_istore C (L' := [(5, .int (if v5 < σ 3 (o) then σ 3 (o) else v5)), (6, .int (nI (v6 + 0))), (2, .int (nI (v2 + 0))), (7, .int (nI (o))), (4, .int (v4)), (3, .int (v3)), (1, .int (nI (w))), (0, .ref (a 0))]) dX3_counted_68 (by decide) rfl ?_
            refine z_iload_n C dX3_counted_70 rfl 5 rfl ?_
            refine z_aload_n C dX3_counted_71 rfl 7 rfl ?_
            refine z_getR C wu_X3 0 rfl 0 rfl rfl 13 (by decide) rfl wf_X3_40 dX3_counted_72 ?_
            refine z_iload C dX3_counted_75 3 rfl ?_
            refine z_iald C 0 rfl 9 0 rfl rfl dX3_counted_77 (by omega) (by decide) ?_
            refine z_top (y := nI (fl_kn σ o)) (hI.kn (by omega)) ?_
            have hb_1 := hI.knT (i := o) (by omega)
            refine z_mmax C wm_X3_107 ws_max wi_J9 wk_max ⟨(Nat.le_of_ble_eq_true rfl), (Nat.le_of_ble_eq_true rfl), (Nat.le_of_ble_eq_true rfl), (Nat.le_of_ble_eq_true rfl)⟩ dX3_counted_78 ?_
            refine z_istore_n C (L' := [(3, .int (if v3 < nI (fl_kn σ o) then nI (fl_kn σ o) else v3)), (5, .int (if v5 < σ 3 (o) then σ 3 (o) else v5)), (6, .int (nI (v6 + 0))), (2, .int (nI (v2 + 0))), (7, .int (nI (o))), (4, .int (v4)), (1, .int (nI (w))), (0, .ref (a 0))]) dX3_counted_81 rfl (by decide) rfl ?_
            refine z_iload C dX3_counted_82 5 rfl ?_
            refine z_aload_n C dX3_counted_84 rfl 7 rfl ?_
            refine z_getR C wu_X3 0 rfl 0 rfl rfl 13 (by decide) rfl wf_X3_40 dX3_counted_85 ?_
            refine z_iload C dX3_counted_88 4 rfl ?_
            refine z_iald C 0 rfl 9 0 rfl rfl dX3_counted_90 (by omega) (by decide) ?_
            refine z_top (y := nI (fl_kn σ o)) (hI.kn (by omega)) ?_
            have hb_2 := hI.knT (i := o) (by omega)
            refine z_mmin C wm_X3_102 ws_min wi_J9 wk_min ⟨(Nat.le_of_ble_eq_true rfl), (Nat.le_of_ble_eq_true rfl), (Nat.le_of_ble_eq_true rfl), (Nat.le_of_ble_eq_true rfl)⟩ dX3_counted_91 ?_
            refine z_istore C (L' := [(4, .int (if nI (fl_kn σ o) < v4 then nI (fl_kn σ o) else v4)), (3, .int (if v3 < nI (fl_kn σ o) then nI (fl_kn σ o) else v3)), (5, .int (if v5 < σ 3 (o) then σ 3 (o) else v5)), (6, .int (nI (v6 + 0))), (2, .int (nI (v2 + 0))), (7, .int (nI (o))), (1, .int (nI (w))), (0, .ref (a 0))]) dX3_counted_94 (by decide) rfl ?_
            refine z_iinc C (L' := [(7, .int (nI (o + 1))), (4, .int (if nI (fl_kn σ o) < v4 then nI (fl_kn σ o) else v4)), (3, .int (if v3 < nI (fl_kn σ o) then nI (fl_kn σ o) else v3)), (5, .int (if v5 < σ 3 (o) then σ 3 (o) else v5)), (6, .int (nI (v6 + 0))), (2, .int (nI (v2 + 0))), (1, .int (nI (w))), (0, .ref (a 0))]) dX3_counted_96 5 rfl (z_inc1 _) (by decide) rfl ?_
            refine z_goto C (tgt := 17) dX3_counted_99 (by decide) ?_
            refine z_sub (L' := [(7, .int (nI (o + 1))), (6, .int (nI (v6 + 0))), (5, .int (if v5 < σ 3 (o) then σ 3 (o) else v5)), (4, .int (if nI (fl_kn σ o) < v4 then nI (fl_kn σ o) else v4)), (3, .int (if v3 < nI (fl_kn σ o) then nI (fl_kn σ o) else v3)), (2, .int (nI (v2 + 0))), (1, .int (nI (w))), (0, .ref (a 0))]) [0, 4, 3, 1, 2, 5, 6, 7] rfl ?_
            exact ih_17 (o + 1) _ _ _ _ _ (by omega) (by omega) (by rw [fl_ct]; simp [hu, nI_10, hv2]) (by rw [fl_ct]; simp [c_45, hv6]) (by rw [fl_max, ← hv5]) (by rw [fl_max, ← hv3, hI.kn (by omega)]) (by rw [fl_min, ← hv4, hI.kn (by omega)])
          · refine z_iconst C (v := nI (1)) (by decide) dX3_counted_48 ?_
            refine z_goto C (tgt := 53) dX3_counted_49 (by decide) ?_
            refine z_iaddN C dX3_counted_53 ?_
            refine z_istore C (L' := [(6, .int (nI (v6 + 1))), (2, .int (nI (v2 + 0))), (7, .int (nI (o))), (5, .int (v5)), (4, .int (v4)), (3, .int (v3)), (1, .int (nI (w))), (0, .ref (a 0))]) dX3_counted_54 (by decide) rfl ?_
            refine z_iload C dX3_counted_56 3 rfl ?_
            refine z_aload_n C dX3_counted_58 rfl 7 rfl ?_
            refine z_getR C wu_X3 0 rfl 0 rfl rfl 7 (by decide) rfl wf_X3_22 dX3_counted_59 ?_
            refine z_iload C dX3_counted_62 2 rfl ?_
            refine z_iald C 0 rfl 3 0 rfl rfl dX3_counted_64 (by omega) (by decide) ?_
            refine z_mmax C wm_X3_107 ws_max wi_J9 wk_max ⟨(Nat.le_of_ble_eq_true rfl), (Nat.le_of_ble_eq_true rfl), (Nat.le_of_ble_eq_true rfl), (Nat.le_of_ble_eq_true rfl)⟩ dX3_counted_65 ?_
            refine z_istore C (L' := [(5, .int (if v5 < σ 3 (o) then σ 3 (o) else v5)), (6, .int (nI (v6 + 1))), (2, .int (nI (v2 + 0))), (7, .int (nI (o))), (4, .int (v4)), (3, .int (v3)), (1, .int (nI (w))), (0, .ref (a 0))]) dX3_counted_68 (by decide) rfl ?_
            refine z_iload_n C dX3_counted_70 rfl 5 rfl ?_
            refine z_aload_n C dX3_counted_71 rfl 7 rfl ?_
            refine z_getR C wu_X3 0 rfl 0 rfl rfl 13 (by decide) rfl wf_X3_40 dX3_counted_72 ?_
            refine z_iload C dX3_counted_75 3 rfl ?_
            refine z_iald C 0 rfl 9 0 rfl rfl dX3_counted_77 (by omega) (by decide) ?_
            refine z_top (y := nI (fl_kn σ o)) (hI.kn (by omega)) ?_
            have hb_3 := hI.knT (i := o) (by omega)
            refine z_mmax C wm_X3_107 ws_max wi_J9 wk_max ⟨(Nat.le_of_ble_eq_true rfl), (Nat.le_of_ble_eq_true rfl), (Nat.le_of_ble_eq_true rfl), (Nat.le_of_ble_eq_true rfl)⟩ dX3_counted_78 ?_
            refine z_istore_n C (L' := [(3, .int (if v3 < nI (fl_kn σ o) then nI (fl_kn σ o) else v3)), (5, .int (if v5 < σ 3 (o) then σ 3 (o) else v5)), (6, .int (nI (v6 + 1))), (2, .int (nI (v2 + 0))), (7, .int (nI (o))), (4, .int (v4)), (1, .int (nI (w))), (0, .ref (a 0))]) dX3_counted_81 rfl (by decide) rfl ?_
            refine z_iload C dX3_counted_82 5 rfl ?_
            refine z_aload_n C dX3_counted_84 rfl 7 rfl ?_
            refine z_getR C wu_X3 0 rfl 0 rfl rfl 13 (by decide) rfl wf_X3_40 dX3_counted_85 ?_
            refine z_iload C dX3_counted_88 4 rfl ?_
            refine z_iald C 0 rfl 9 0 rfl rfl dX3_counted_90 (by omega) (by decide) ?_
            refine z_top (y := nI (fl_kn σ o)) (hI.kn (by omega)) ?_
            have hb_4 := hI.knT (i := o) (by omega)
            refine z_mmin C wm_X3_102 ws_min wi_J9 wk_min ⟨(Nat.le_of_ble_eq_true rfl), (Nat.le_of_ble_eq_true rfl), (Nat.le_of_ble_eq_true rfl), (Nat.le_of_ble_eq_true rfl)⟩ dX3_counted_91 ?_
            refine z_istore C (L' := [(4, .int (if nI (fl_kn σ o) < v4 then nI (fl_kn σ o) else v4)), (3, .int (if v3 < nI (fl_kn σ o) then nI (fl_kn σ o) else v3)), (5, .int (if v5 < σ 3 (o) then σ 3 (o) else v5)), (6, .int (nI (v6 + 1))), (2, .int (nI (v2 + 0))), (7, .int (nI (o))), (1, .int (nI (w))), (0, .ref (a 0))]) dX3_counted_94 (by decide) rfl ?_
            refine z_iinc C (L' := [(7, .int (nI (o + 1))), (4, .int (if nI (fl_kn σ o) < v4 then nI (fl_kn σ o) else v4)), (3, .int (if v3 < nI (fl_kn σ o) then nI (fl_kn σ o) else v3)), (5, .int (if v5 < σ 3 (o) then σ 3 (o) else v5)), (6, .int (nI (v6 + 1))), (2, .int (nI (v2 + 0))), (1, .int (nI (w))), (0, .ref (a 0))]) dX3_counted_96 5 rfl (z_inc1 _) (by decide) rfl ?_
            refine z_goto C (tgt := 17) dX3_counted_99 (by decide) ?_
            refine z_sub (L' := [(7, .int (nI (o + 1))), (6, .int (nI (v6 + 1))), (5, .int (if v5 < σ 3 (o) then σ 3 (o) else v5)), (4, .int (if nI (fl_kn σ o) < v4 then nI (fl_kn σ o) else v4)), (3, .int (if v3 < nI (fl_kn σ o) then nI (fl_kn σ o) else v3)), (2, .int (nI (v2 + 0))), (1, .int (nI (w))), (0, .ref (a 0))]) [0, 4, 3, 1, 2, 5, 6, 7] rfl ?_
            exact ih_17 (o + 1) _ _ _ _ _ (by omega) (by omega) (by rw [fl_ct]; simp [hu, nI_10, hv2]) (by rw [fl_ct]; simp [c_45, hv6]) (by rw [fl_max, ← hv5]) (by rw [fl_max, ← hv3, hI.kn (by omega)]) (by rw [fl_min, ← hv4, hI.kn (by omega)])
        · refine z_top (y := nI (1)) hu ?_
          refine z_iaddN C dX3_counted_34 ?_
          refine z_istore_n C (L' := [(2, .int (nI (v2 + 1))), (7, .int (nI (o))), (6, .int (nI (v6))), (5, .int (v5)), (4, .int (v4)), (3, .int (v3)), (1, .int (nI (w))), (0, .ref (a 0))]) dX3_counted_35 rfl (by decide) rfl ?_
          refine z_iload C dX3_counted_36 2 rfl ?_
          refine z_aload_n C dX3_counted_38 rfl 7 rfl ?_
          refine z_iload C dX3_counted_39 1 rfl ?_
          refine z_iconst C (v := nI (2)) (by decide) dX3_counted_41 ?_
          refine z_cV C (st' := [.int (zb (fl_lead σ o)), .int (nI (v6))]) (B' := [(shS a cI, σ)]) [true] rfl (c_X3_isUp l D cI cZ cJ a σ n hI o 2 (by omega)) wq_yX3_isUp wm_X3_116 ⟨wn_yX3_isUp, wo_yX3_isUp⟩ ⟨rfl, rfl, Nat.le_of_ble_eq_true rfl, Nat.le_of_ble_eq_true rfl⟩ 0 rfl 0 rfl rfl rfl rfl (Nat.le_of_ble_eq_true rfl) dX3_counted_42 ⟨Nat.le_of_ble_eq_true rfl, Nat.le_of_ble_eq_true rfl⟩ rfl rfl ?_
          refine z_if_eqB C (tgt := 52) dX3_counted_45 (by decide) (fun c_45 => ?_) (fun c_45 => ?_)
          · refine z_iconst C (v := nI (0)) (by decide) dX3_counted_52 ?_
            refine z_iaddN C dX3_counted_53 ?_
            refine z_istore C (L' := [(6, .int (nI (v6 + 0))), (2, .int (nI (v2 + 1))), (7, .int (nI (o))), (5, .int (v5)), (4, .int (v4)), (3, .int (v3)), (1, .int (nI (w))), (0, .ref (a 0))]) dX3_counted_54 (by decide) rfl ?_
            refine z_iload C dX3_counted_56 3 rfl ?_
            refine z_aload_n C dX3_counted_58 rfl 7 rfl ?_
            refine z_getR C wu_X3 0 rfl 0 rfl rfl 7 (by decide) rfl wf_X3_22 dX3_counted_59 ?_
            refine z_iload C dX3_counted_62 2 rfl ?_
            refine z_iald C 0 rfl 3 0 rfl rfl dX3_counted_64 (by omega) (by decide) ?_
            refine z_mmax C wm_X3_107 ws_max wi_J9 wk_max ⟨(Nat.le_of_ble_eq_true rfl), (Nat.le_of_ble_eq_true rfl), (Nat.le_of_ble_eq_true rfl), (Nat.le_of_ble_eq_true rfl)⟩ dX3_counted_65 ?_
            refine z_istore C (L' := [(5, .int (if v5 < σ 3 (o) then σ 3 (o) else v5)), (6, .int (nI (v6 + 0))), (2, .int (nI (v2 + 1))), (7, .int (nI (o))), (4, .int (v4)), (3, .int (v3)), (1, .int (nI (w))), (0, .ref (a 0))]) dX3_counted_68 (by decide) rfl ?_
            refine z_iload_n C dX3_counted_70 rfl 5 rfl ?_
            refine z_aload_n C dX3_counted_71 rfl 7 rfl ?_
            refine z_getR C wu_X3 0 rfl 0 rfl rfl 13 (by decide) rfl wf_X3_40 dX3_counted_72 ?_
            refine z_iload C dX3_counted_75 3 rfl ?_
            refine z_iald C 0 rfl 9 0 rfl rfl dX3_counted_77 (by omega) (by decide) ?_
            refine z_top (y := nI (fl_kn σ o)) (hI.kn (by omega)) ?_
            have hb_5 := hI.knT (i := o) (by omega)
            refine z_mmax C wm_X3_107 ws_max wi_J9 wk_max ⟨(Nat.le_of_ble_eq_true rfl), (Nat.le_of_ble_eq_true rfl), (Nat.le_of_ble_eq_true rfl), (Nat.le_of_ble_eq_true rfl)⟩ dX3_counted_78 ?_
            refine z_istore_n C (L' := [(3, .int (if v3 < nI (fl_kn σ o) then nI (fl_kn σ o) else v3)), (5, .int (if v5 < σ 3 (o) then σ 3 (o) else v5)), (6, .int (nI (v6 + 0))), (2, .int (nI (v2 + 1))), (7, .int (nI (o))), (4, .int (v4)), (1, .int (nI (w))), (0, .ref (a 0))]) dX3_counted_81 rfl (by decide) rfl ?_
            refine z_iload C dX3_counted_82 5 rfl ?_
            refine z_aload_n C dX3_counted_84 rfl 7 rfl ?_
            refine z_getR C wu_X3 0 rfl 0 rfl rfl 13 (by decide) rfl wf_X3_40 dX3_counted_85 ?_
            refine z_iload C dX3_counted_88 4 rfl ?_
            refine z_iald C 0 rfl 9 0 rfl rfl dX3_counted_90 (by omega) (by decide) ?_
            refine z_top (y := nI (fl_kn σ o)) (hI.kn (by omega)) ?_
            have hb_6 := hI.knT (i := o) (by omega)
            refine z_mmin C wm_X3_102 ws_min wi_J9 wk_min ⟨(Nat.le_of_ble_eq_true rfl), (Nat.le_of_ble_eq_true rfl), (Nat.le_of_ble_eq_true rfl), (Nat.le_of_ble_eq_true rfl)⟩ dX3_counted_91 ?_
            refine z_istore C (L' := [(4, .int (if nI (fl_kn σ o) < v4 then nI (fl_kn σ o) else v4)), (3, .int (if v3 < nI (fl_kn σ o) then nI (fl_kn σ o) else v3)), (5, .int (if v5 < σ 3 (o) then σ 3 (o) else v5)), (6, .int (nI (v6 + 0))), (2, .int (nI (v2 + 1))), (7, .int (nI (o))), (1, .int (nI (w))), (0, .ref (a 0))]) dX3_counted_94 (by decide) rfl ?_
            refine z_iinc C (L' := [(7, .int (nI (o + 1))), (4, .int (if nI (fl_kn σ o) < v4 then nI (fl_kn σ o) else v4)), (3, .int (if v3 < nI (fl_kn σ o) then nI (fl_kn σ o) else v3)), (5, .int (if v5 < σ 3 (o) then σ 3 (o) else v5)), (6, .int (nI (v6 + 0))), (2, .int (nI (v2 + 1))), (1, .int (nI (w))), (0, .ref (a 0))]) dX3_counted_96 5 rfl (z_inc1 _) (by decide) rfl ?_
            refine z_goto C (tgt := 17) dX3_counted_99 (by decide) ?_
            refine z_sub (L' := [(7, .int (nI (o + 1))), (6, .int (nI (v6 + 0))), (5, .int (if v5 < σ 3 (o) then σ 3 (o) else v5)), (4, .int (if nI (fl_kn σ o) < v4 then nI (fl_kn σ o) else v4)), (3, .int (if v3 < nI (fl_kn σ o) then nI (fl_kn σ o) else v3)), (2, .int (nI (v2 + 1))), (1, .int (nI (w))), (0, .ref (a 0))]) [0, 4, 3, 1, 2, 5, 6, 7] rfl ?_
            exact ih_17 (o + 1) _ _ _ _ _ (by omega) (by omega) (by rw [fl_ct]; simp [hu, nI_10, hv2]) (by rw [fl_ct]; simp [c_45, hv6]) (by rw [fl_max, ← hv5]) (by rw [fl_max, ← hv3, hI.kn (by omega)]) (by rw [fl_min, ← hv4, hI.kn (by omega)])
          · refine z_iconst C (v := nI (1)) (by decide) dX3_counted_48 ?_
            refine z_goto C (tgt := 53) dX3_counted_49 (by decide) ?_
            refine z_iaddN C dX3_counted_53 ?_
            refine z_istore C (L' := [(6, .int (nI (v6 + 1))), (2, .int (nI (v2 + 1))), (7, .int (nI (o))), (5, .int (v5)), (4, .int (v4)), (3, .int (v3)), (1, .int (nI (w))), (0, .ref (a 0))]) dX3_counted_54 (by decide) rfl ?_
            refine z_iload C dX3_counted_56 3 rfl ?_
            refine z_aload_n C dX3_counted_58 rfl 7 rfl ?_
            refine z_getR C wu_X3 0 rfl 0 rfl rfl 7 (by decide) rfl wf_X3_22 dX3_counted_59 ?_
            refine z_iload C dX3_counted_62 2 rfl ?_
            refine z_iald C 0 rfl 3 0 rfl rfl dX3_counted_64 (by omega) (by decide) ?_
            refine z_mmax C wm_X3_107 ws_max wi_J9 wk_max ⟨(Nat.le_of_ble_eq_true rfl), (Nat.le_of_ble_eq_true rfl), (Nat.le_of_ble_eq_true rfl), (Nat.le_of_ble_eq_true rfl)⟩ dX3_counted_65 ?_
            refine z_istore C (L' := [(5, .int (if v5 < σ 3 (o) then σ 3 (o) else v5)), (6, .int (nI (v6 + 1))), (2, .int (nI (v2 + 1))), (7, .int (nI (o))), (4, .int (v4)), (3, .int (v3)), (1, .int (nI (w))), (0, .ref (a 0))]) dX3_counted_68 (by decide) rfl ?_
            refine z_iload_n C dX3_counted_70 rfl 5 rfl ?_
            refine z_aload_n C dX3_counted_71 rfl 7 rfl ?_
            refine z_getR C wu_X3 0 rfl 0 rfl rfl 13 (by decide) rfl wf_X3_40 dX3_counted_72 ?_
            refine z_iload C dX3_counted_75 3 rfl ?_
            refine z_iald C 0 rfl 9 0 rfl rfl dX3_counted_77 (by omega) (by decide) ?_
            refine z_top (y := nI (fl_kn σ o)) (hI.kn (by omega)) ?_
            have hb_7 := hI.knT (i := o) (by omega)
            refine z_mmax C wm_X3_107 ws_max wi_J9 wk_max ⟨(Nat.le_of_ble_eq_true rfl), (Nat.le_of_ble_eq_true rfl), (Nat.le_of_ble_eq_true rfl), (Nat.le_of_ble_eq_true rfl)⟩ dX3_counted_78 ?_
            refine z_istore_n C (L' := [(3, .int (if v3 < nI (fl_kn σ o) then nI (fl_kn σ o) else v3)), (5, .int (if v5 < σ 3 (o) then σ 3 (o) else v5)), (6, .int (nI (v6 + 1))), (2, .int (nI (v2 + 1))), (7, .int (nI (o))), (4, .int (v4)), (1, .int (nI (w))), (0, .ref (a 0))]) dX3_counted_81 rfl (by decide) rfl ?_
            refine z_iload C dX3_counted_82 5 rfl ?_
            refine z_aload_n C dX3_counted_84 rfl 7 rfl ?_
            refine z_getR C wu_X3 0 rfl 0 rfl rfl 13 (by decide) rfl wf_X3_40 dX3_counted_85 ?_
            refine z_iload C dX3_counted_88 4 rfl ?_
            refine z_iald C 0 rfl 9 0 rfl rfl dX3_counted_90 (by omega) (by decide) ?_
            refine z_top (y := nI (fl_kn σ o)) (hI.kn (by omega)) ?_
            have hb_8 := hI.knT (i := o) (by omega)
            refine z_mmin C wm_X3_102 ws_min wi_J9 wk_min ⟨(Nat.le_of_ble_eq_true rfl), (Nat.le_of_ble_eq_true rfl), (Nat.le_of_ble_eq_true rfl), (Nat.le_of_ble_eq_true rfl)⟩ dX3_counted_91 ?_
            refine z_istore C (L' := [(4, .int (if nI (fl_kn σ o) < v4 then nI (fl_kn σ o) else v4)), (3, .int (if v3 < nI (fl_kn σ o) then nI (fl_kn σ o) else v3)), (5, .int (if v5 < σ 3 (o) then σ 3 (o) else v5)), (6, .int (nI (v6 + 1))), (2, .int (nI (v2 + 1))), (7, .int (nI (o))), (1, .int (nI (w))), (0, .ref (a 0))]) dX3_counted_94 (by decide) rfl ?_
            refine z_iinc C (L' := [(7, .int (nI (o + 1))), (4, .int (if nI (fl_kn σ o) < v4 then nI (fl_kn σ o) else v4)), (3, .int (if v3 < nI (fl_kn σ o) then nI (fl_kn σ o) else v3)), (5, .int (if v5 < σ 3 (o) then σ 3 (o) else v5)), (6, .int (nI (v6 + 1))), (2, .int (nI (v2 + 1))), (1, .int (nI (w))), (0, .ref (a 0))]) dX3_counted_96 5 rfl (z_inc1 _) (by decide) rfl ?_
            refine z_goto C (tgt := 17) dX3_counted_99 (by decide) ?_
            refine z_sub (L' := [(7, .int (nI (o + 1))), (6, .int (nI (v6 + 1))), (5, .int (if v5 < σ 3 (o) then σ 3 (o) else v5)), (4, .int (if nI (fl_kn σ o) < v4 then nI (fl_kn σ o) else v4)), (3, .int (if v3 < nI (fl_kn σ o) then nI (fl_kn σ o) else v3)), (2, .int (nI (v2 + 1))), (1, .int (nI (w))), (0, .ref (a 0))]) [0, 4, 3, 1, 2, 5, 6, 7] rfl ?_
            exact ih_17 (o + 1) _ _ _ _ _ (by omega) (by omega) (by rw [fl_ct]; simp [hu, nI_10, hv2]) (by rw [fl_ct]; simp [c_45, hv6]) (by rw [fl_max, ← hv5]) (by rw [fl_max, ← hv3, hI.kn (by omega)]) (by rw [fl_min, ← hv4, hI.kn (by omega)])
  refine z_sub (L' := [(7, .int (nI (0))), (6, .int (nI (0))), (5, .int (nI (0))), (4, .int (nI (10))), (3, .int (nI (0))), (2, .int (nI (0))), (1, .int (nI (w))), (0, .ref (a 0))]) [0, 1, 2, 3, 4, 5, 7, 6] rfl ?_
  exact loop_17 (n + 1) 0 _ _ _ _ _ (by omega) (by omega) rfl rfl rfl rfl rfl
set_option maxHeartbeats 4000000 in
set_option maxRecDepth 100000 in
theorem c_X3_isLed (l : Launch) (D : va_G) (cI cZ cJ : ClassId) (a : Nat → Nat) (σ : zF) (n : Nat) (hI : fl_Iv n σ) : zM l D (tyL cI cZ cJ) yX3_isLed cX3_isLed 4 (some .boolean) (zR 1 22) [.ref (a 0)] [(shS a cI, σ)] 0 0 (fun r u => r = some (.int (zb (fl_led n σ))) ∧ u = [(shS a cI, σ)]) := by
  have hn3 := hI.n3
  have hn7 := hI.n7
  refine z_of (by decide) (Nat.le_of_ble_eq_true rfl) rfl ?_
  intro p e s m args below meth c A C hr hin
  obtain ⟨Q, hQ⟩ : ∃ Q, Q = MQ below (zQ (fun r u => r = some (.int (zb (fl_led n σ))) ∧ u = [(shS a cI, σ)]) D (tyL cI cZ cJ) A) args s 0 0 A := ⟨_, rfl⟩
  rw [← hQ]
  refine z_iconst C (v := nI (0)) (by decide) dX3_isLed_0 ?_
  refine z_istore_n C (L' := [(1, .int (nI (0))), (0, .ref (a 0))]) dX3_isLed_1 rfl (by decide) rfl ?_
  have loop_2 : ∀ (k_2 b : Nat), n < b + k_2 → b ≤ n → (hn : fl_any (fl_led1 n σ) b = false) → zK p l e (zR 1 22) s m args below meth c D A 4 Q 0 0 2 [(1, .int (nI (b))), (0, .ref (a 0))] [] [(shS a cI, σ)] := by
    intro k_2
    induction k_2 with
    | zero => intro b  m1_2 m2_2; exact absurd m1_2 (by omega)
    | succ k_2 ih_2 =>
      intro b  m1_2 m2_2 hn
      refine z_iload_n C dX3_isLed_2 rfl 0 rfl ?_
      refine z_aload_n C dX3_isLed_3 rfl 1 rfl ?_
      refine z_getI C wu_X3 0 rfl 0 rfl rfl 0 (by decide) rfl wf_X3_9 dX3_isLed_4 ?_
      refine z_top (hI.n0 : _ = nI n) ?_
      refine z_icmp_geN C (tgt := 73) dX3_isLed_7 (by decide) (by omega) (by omega) (fun c_7 => ?_) (fun c_7 => ?_)
      · refine z_iconst C (v := nI (0)) (by decide) dX3_isLed_73 ?_
        rw [hQ]; exact z_zret C hr (by decide) dX3_isLed_74 ⟨z_b0 (by first | (exact fl_any_of (i := b) (by rw [fl_led1, c_16, ← hcs, c_62]; rfl) n (by omega)) | (rw [fl_led, show n = b by omega]; rw [show n = b by omega] at hn; exact hn)), rfl⟩
      · refine z_aload_n C dX3_isLed_10 rfl 1 rfl ?_
        refine z_iload_n C dX3_isLed_11 rfl 0 rfl ?_
        refine z_iconst C (v := nI (2)) (by decide) dX3_isLed_12 ?_
        refine z_cV C (st' := [.int (zb (fl_lead σ b))]) (B' := [(shS a cI, σ)]) [true] rfl (c_X3_isUp l D cI cZ cJ a σ n hI b 2 (by omega)) wq_yX3_isUp wm_X3_116 ⟨wn_yX3_isUp, wo_yX3_isUp⟩ ⟨rfl, rfl, Nat.le_of_ble_eq_true rfl, Nat.le_of_ble_eq_true rfl⟩ 0 rfl 0 rfl rfl rfl rfl (Nat.le_of_ble_eq_true rfl) dX3_isLed_13 ⟨Nat.le_of_ble_eq_true rfl, Nat.le_of_ble_eq_true rfl⟩ rfl rfl ?_
        refine z_if_neB C (tgt := 22) dX3_isLed_16 (by decide) (fun c_16 => ?_) (fun c_16 => ?_)
        · refine z_iconst C (v := nI (1)) (by decide) dX3_isLed_22 ?_
          refine z_istore_n C (L' := [(2, .int (nI (1))), (1, .int (nI (b))), (0, .ref (a 0))]) dX3_isLed_23 rfl (by decide) rfl ?_
          refine z_iconst C (v := nI (0)) (by decide) dX3_isLed_24 ?_
          refine z_istore_n C (L' := [(3, .int (nI (0))), (2, .int (nI (1))), (1, .int (nI (b))), (0, .ref (a 0))]) dX3_isLed_25 rfl (by decide) rfl ?_
          have loop_26 : ∀ (k_26 q : Nat) (v : Nat), n < q + k_26 → q ≤ n → (hv : v = 1 + fl_ct (fun o => decide (b ≠ o) && fl_hear σ b o) q) → (hv1 : v ≤ q + 1) → zK p l e (zR 1 22) s m args below meth c D A 4 Q 0 0 26 [(3, .int (nI (q))), (2, .int (nI (v))), (1, .int (nI (b))), (0, .ref (a 0))] [] [(shS a cI, σ)] := by
            intro k_26
            induction k_26 with
            | zero => intro q v m1_26 m2_26; exact absurd m1_26 (by omega)
            | succ k_26 ih_26 =>
              intro q v m1_26 m2_26 hv hv1
              refine z_iload_n C dX3_isLed_26 rfl 0 rfl ?_
              refine z_aload_n C dX3_isLed_27 rfl 3 rfl ?_
              refine z_getI C wu_X3 0 rfl 0 rfl rfl 0 (by decide) rfl wf_X3_9 dX3_isLed_28 ?_
              refine z_top (hI.n0 : _ = nI n) ?_
              refine z_icmp_geN C (tgt := 57) dX3_isLed_31 (by decide) (by omega) (by omega) (fun c_31 => ?_) (fun c_31 => ?_)
              · have hcs : v = fl_upIn n σ (σ 6 b) := by rw [hv, show q = n by omega]; exact fl_upIn_self (by omega) (fl_lead_u c_16)
                refine z_aload_n C dX3_isLed_57 rfl 3 rfl ?_
                refine z_iload_n C dX3_isLed_58 rfl 1 rfl ?_
                refine z_cV C (st' := [.int (zb (decide (n / 2 < v)))]) (B' := [(shS a cI, σ)]) [true] rfl (c_X3_isMore l D cI cZ cJ a σ n hI v (by omega)) wq_yX3_isMore wm_X3_90 ⟨wn_yX3_isMore, wo_yX3_isMore⟩ ⟨rfl, rfl, Nat.le_of_ble_eq_true rfl, Nat.le_of_ble_eq_true rfl⟩ 0 rfl 0 rfl rfl rfl rfl (Nat.le_of_ble_eq_true rfl) dX3_isLed_59 ⟨Nat.le_of_ble_eq_true rfl, Nat.le_of_ble_eq_true rfl⟩ rfl rfl ?_
                refine z_if_eqB C (tgt := 67) dX3_isLed_62 (by decide) (fun c_62 => ?_) (fun c_62 => ?_)
                · refine z_iinc C (L' := [(1, .int (nI (b + 1))), (3, .int (nI (q))), (2, .int (nI (v))), (0, .ref (a 0))]) dX3_isLed_67 2 rfl (z_inc1 _) (by decide) rfl ?_
                  refine z_goto C (tgt := 2) dX3_isLed_70 (by decide) ?_
                  refine z_sub (L' := [(1, .int (nI (b + 1))), (0, .ref (a 0))]) [0, 3] rfl ?_
                  exact ih_2 (b + 1)  (by omega) (by omega) (fl_any_no hn (by rw [fl_led1, c_16, ← hcs, c_62]; rfl))
                · refine z_iconst C (v := nI (1)) (by decide) dX3_isLed_65 ?_
                  rw [hQ]; exact z_zret C hr (by decide) dX3_isLed_66 ⟨z_b1 (by first | (exact fl_any_of (i := b) (by rw [fl_led1, c_16, ← hcs, c_62]; rfl) n (by omega)) | (rw [fl_led, show n = b by omega]; rw [show n = b by omega] at hn; exact hn)), rfl⟩
              · refine z_iload_n C dX3_isLed_34 rfl 1 rfl ?_
                refine z_aload_n C dX3_isLed_35 rfl 3 rfl ?_
                refine z_iload_n C dX3_isLed_36 rfl 2 rfl ?_
                refine z_iload_n C dX3_isLed_37 rfl 0 rfl ?_
                refine z_cV C (st' := [.int (zb (decide (b ≠ q) && fl_hear σ b q)), .int (nI (v))]) (B' := [(shS a cI, σ)]) [true] rfl (c_X3_hear l D cI cZ cJ a σ n hI b q (by omega) (by omega)) wq_yX3_hear wm_X3_79 ⟨wn_yX3_hear, wo_yX3_hear⟩ ⟨rfl, rfl, Nat.le_of_ble_eq_true rfl, Nat.le_of_ble_eq_true rfl⟩ 0 rfl 0 rfl rfl rfl rfl (Nat.le_of_ble_eq_true rfl) dX3_isLed_38 ⟨Nat.le_of_ble_eq_true rfl, Nat.le_of_ble_eq_true rfl⟩ rfl rfl ?_
                refine z_if_eqB C (tgt := 48) dX3_isLed_41 (by decide) (fun c_41 => ?_) (fun c_41 => ?_)
                · refine z_iconst C (v := nI (0)) (by decide) dX3_isLed_48 ?_
                  refine z_iaddN C dX3_isLed_49 ?_
                  refine z_istore_n C (L' := [(2, .int (nI (v + 0))), (3, .int (nI (q))), (1, .int (nI (b))), (0, .ref (a 0))]) dX3_isLed_50 rfl (by decide) rfl ?_
                  refine z_iinc C (L' := [(3, .int (nI (q + 1))), (2, .int (nI (v + 0))), (1, .int (nI (b))), (0, .ref (a 0))]) dX3_isLed_51 1 rfl (z_inc1 _) (by decide) rfl ?_
                  refine z_goto C (tgt := 26) dX3_isLed_54 (by decide) ?_
                  refine z_sub (L' := [(3, .int (nI (q + 1))), (2, .int (nI (v + 0))), (1, .int (nI (b))), (0, .ref (a 0))]) [0, 1, 2, 3] rfl ?_
                  exact ih_26 (q + 1) _ (by omega) (by omega) (by rw [fl_ct]; simp only [c_41, hv]; simp; try omega) (by omega)
                · refine z_iconst C (v := nI (1)) (by decide) dX3_isLed_44 ?_
                  refine z_goto C (tgt := 49) dX3_isLed_45 (by decide) ?_
                  refine z_iaddN C dX3_isLed_49 ?_
                  refine z_istore_n C (L' := [(2, .int (nI (v + 1))), (3, .int (nI (q))), (1, .int (nI (b))), (0, .ref (a 0))]) dX3_isLed_50 rfl (by decide) rfl ?_
                  refine z_iinc C (L' := [(3, .int (nI (q + 1))), (2, .int (nI (v + 1))), (1, .int (nI (b))), (0, .ref (a 0))]) dX3_isLed_51 1 rfl (z_inc1 _) (by decide) rfl ?_
                  refine z_goto C (tgt := 26) dX3_isLed_54 (by decide) ?_
                  refine z_sub (L' := [(3, .int (nI (q + 1))), (2, .int (nI (v + 1))), (1, .int (nI (b))), (0, .ref (a 0))]) [0, 1, 2, 3] rfl ?_
                  exact ih_26 (q + 1) _ (by omega) (by omega) (by rw [fl_ct]; simp only [c_41, hv]; simp; try omega) (by omega)
          refine z_sub (L' := [(3, .int (nI (0))), (2, .int (nI (1))), (1, .int (nI (b))), (0, .ref (a 0))]) [0, 1, 2, 3] rfl ?_
          exact loop_26 (n + 1) 0 _ (by omega) (by omega) rfl (by omega)
        · refine z_goto C (tgt := 67) dX3_isLed_19 (by decide) ?_
          refine z_iinc C (L' := [(1, .int (nI (b + 1))), (0, .ref (a 0))]) dX3_isLed_67 0 rfl (z_inc1 _) (by decide) rfl ?_
          refine z_goto C (tgt := 2) dX3_isLed_70 (by decide) ?_
          refine z_sub (L' := [(1, .int (nI (b + 1))), (0, .ref (a 0))]) [0, 1] rfl ?_
          exact ih_2 (b + 1)  (by omega) (by omega) (fl_any_no hn (by rw [fl_led1, c_16]; rfl))
  refine z_sub (L' := [(1, .int (nI (0))), (0, .ref (a 0))]) [0, 1] rfl ?_
  exact loop_2 (n + 1) 0  (by omega) (by omega) rfl
