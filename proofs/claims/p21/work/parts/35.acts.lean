/-! What is done to a fleet keeps it safe; and what follows for what is told of it -/
section ACTS
variable {n N : Nat} {σ : zF}
theorem fA.iv (h : fA n N σ) : fl_Iv n σ := h.1
theorem fA.mono {N' : Nat} (h : fA n N σ) (hN : N ≤ N') : fA n N' σ := by
  obtain ⟨h1, ⟨s, g, s1, s2, s3, s4, s5⟩, h3, h4⟩ := h
  exact ⟨h1, ⟨s, g, s1, s2, s3, by omega, s5⟩, h3, h4⟩
theorem fS.cells {τ : zF} (h : fS n N σ) (h0 : τ 0 = σ 0) (h3 : τ 3 = σ 3) : fS n N τ := by
  obtain ⟨s, g, s1, s2, s3, s4, s5⟩ := h
  exact ⟨s, g, by rw [h0]; exact s1, by rw [h0]; exact s2, s3, s4, s5.cell h3⟩
theorem fA_pat (h : fA n N σ) (b : Nat) {k : Nat} (h2 : 2 ≤ k) (h9 : k ≤ 9) : fA n N (zU σ 1 b (nI k)) := by
  obtain ⟨hI, hS, hC, ld, tl, cm, J⟩ := h
  have e : ∀ c, c ≠ 1 → zU σ 1 b (nI k) c = σ c := fun c hc => zU_ne hc
  refine ⟨hI.P 1 b _ (by omega), hS.cells (e 0 (by decide)) (e 3 (by decide)), fun i hi => ?_, ld, tl, cm, fJ_cells J (e _ (by decide)) (e _ (by decide)) (e _ (by decide)) (e _ (by decide)) (e _ (by decide)) (e _ (by decide)) (e _ (by decide))⟩
  obtain ⟨q, c⟩ := hC i hi
  rw [e 2 (by decide)]
  refine ⟨?_, c⟩
  by_cases hib : i = b
  · rw [hib, zU_self]
    exact ⟨k, h2, h9, rfl⟩
  · rw [zU_oth _ _ _ hib]
    exact q
theorem fA_port (h : fA n N σ) (b : Nat) (v : Int32) : fA n N (zU σ 6 b v) := by
  obtain ⟨hI, hS, hC, ld, tl, cm, J⟩ := h
  have e : ∀ c, c ≠ 6 → zU σ 6 b v c = σ c := fun c hc => zU_ne hc
  exact ⟨hI.P 6 b _ (by omega), hS.cells (e 0 (by decide)) (e 3 (by decide)), hC.cells (e 1 (by decide)) (e 2 (by decide)), ld, tl, cm, fJ_cells J (e _ (by decide)) (e _ (by decide)) (e _ (by decide)) (e _ (by decide)) (e _ (by decide)) (e _ (by decide)) (e _ (by decide))⟩
theorem fA_down (h : fA n N σ) (b : Nat) : fA n N (zU σ 7 b (nI 0)) := by
  obtain ⟨hI, hS, hC, ld, tl, cm, J⟩ := h
  have e : ∀ c, c ≠ 7 → zU σ 7 b (nI 0) c = σ c := fun c hc => zU_ne hc
  exact ⟨hI.U7 b (Or.inl (by decide)), hS.cells (e 0 (by decide)) (e 3 (by decide)), hC.cells (e 1 (by decide)) (e 2 (by decide)), ld, tl, cm, fJ_cells J (e _ (by decide)) (e _ (by decide)) (e _ (by decide)) (e _ (by decide)) (e _ (by decide)) (e _ (by decide)) (e _ (by decide))⟩
theorem fA_raise (h : fA n N σ) (b : Nat) : fA n N (fl_raise σ b) := by
  obtain ⟨hI, hS, hC, ld, tl, cm, J⟩ := h
  have e : ∀ c, c ≠ 7 → c ≠ 5 → c ≠ 2 → c ≠ 9 → fl_raise σ b c = σ c := fun c h7 h5 h2 h9 => by
    unfold fl_raise
    rw [zU_ne h9, zU_ne h2, zU_ne h5, zU_ne h7]
  refine ⟨fl_raise_Iv hI b, hS.cells (e 0 (by decide) (by decide) (by decide) (by decide)) (e 3 (by decide) (by decide) (by decide) (by decide)), hC.set (o := b) (e 1 (by decide) (by decide) (by decide) (by decide)) (fun j => ?_), ld, tl, cm, ?_⟩
  · unfold fl_raise
    rw [zU_ne (by decide), zU_at]
    split
    · rename_i q
      rw [q.2]
      exact Or.inr rfl
    · rw [zU_ne (by decide), zU_ne (by decide)]
      exact Or.inl rfl
  · unfold fJ
    rw [fL_cells (τ := σ) (e 8 (by decide) (by decide) (by decide) (by decide)) (e 10 (by decide) (by decide) (by decide) (by decide)) (e 11 (by decide) (by decide) (by decide) (by decide)), fT_cells (τ := σ) (e 3 (by decide) (by decide) (by decide) (by decide)), e 4 (by decide) (by decide) (by decide) (by decide)]
    refine rf_raise J (b := b) ?_ ?_ (fun j hj => ?_) (fun j hj => ?_)
    · simp [fl_raise, zU_at]
      decide
    · unfold fl_raise
      rw [fl_kn_U9 _ b b 0 (by decide), if_pos rfl]
    · simp [fl_raise, zU_at, hj]
    · unfold fl_raise
      rw [fl_kn_U9 _ b j 0 (by decide), if_neg hj]
      exact congrFun (fl_kn_cells (by rw [zU_ne (by decide), zU_ne (by decide), zU_ne (by decide)])) j
theorem fA_write (h : fA n N σ) {b : Nat} (hb : b < n) (hl : fl_lead σ b = true) (hk : fl_ln σ b < 10) (f : Int32) : fA n N (fl_app σ b (σ 3 b) f) := by
  obtain ⟨hI, hS, hC, ld, tl, cm, J⟩ := h
  have e : ∀ c, c ≠ 8 → c ≠ 10 → c ≠ 11 → fl_app σ b (σ 3 b) f c = σ c := fun c h8 h10 h11 => by
    unfold fl_app
    rw [zU_ne h8, zU_ne h11, zU_ne h10]
  have hL : ∀ j, j < n → fL (fl_app σ b (σ 3 b) f) j = if j = b then fL σ b ++ [(σ 3 b, f)] else fL σ j := fun j hj => by
    by_cases hjb : j = b
    · rw [if_pos hjb, hjb]
      exact fL_app σ b _ _ hk
    · rw [if_neg hjb]
      exact fL_appo σ b _ _ hk hjb (hI.lnT hj)
  obtain ⟨tl', J'⟩ := rf_write J (L' := fun j => if j = b then fL σ b ++ [(σ 3 b, f)] else fL σ j) (e := (σ 3 b, f)) hb (lead_iff.mp hl).2 rfl (by simp) (fun j hj => by simp [hj])
  refine ⟨fl_app_Iv hI b _ _ hk, hS.cells (e 0 (by decide) (by decide) (by decide)) (e 3 (by decide) (by decide) (by decide)), hC.cells (e 1 (by decide) (by decide) (by decide)) (e 2 (by decide) (by decide) (by decide)), ld, tl', cm, ?_⟩
  unfold fJ
  rw [fl_kn_cells (τ := σ) (e 9 (by decide) (by decide) (by decide)), fT_cells (τ := σ) (e 3 (by decide) (by decide) (by decide)), e 4 (by decide) (by decide) (by decide), e 5 (by decide) (by decide) (by decide)]
  exact rfI_L J' hL
theorem begP_c {n : Nat} (σ : zF) {k j : Nat} (h0 : k ≠ 0) (hk : k < 10) (hj : j < n) : fl_begP n n σ k j = fl_b0 k j := by
  unfold fl_begP
  rw [if_neg h0, if_pos ⟨hk, hj⟩]
theorem fA_beg (h3 : 3 ≤ n) (h7 : n ≤ 7) (hu : ∀ i, i < 7 → σ 7 i = 0 ∨ σ 7 i = nI 1) : fA n 0 (fl_begP n n σ) := by
  refine ⟨fl_begP_Iv h3 h7 (Nat.le_refl n) hu, ⟨0, 0, rfl, rfl, Nat.le_refl 0, Nat.le_refl 0, fun i hi => ⟨0, Nat.le_refl 0, ?_⟩⟩, fun i hi => ⟨⟨2 + i, by omega, by omega, ?_⟩, 2 + i, by omega, by omega, ?_⟩, fun _ => none, fun _ => [], fun _ => 0, ?_⟩
  · rw [begP_c σ (by decide) (by decide) hi]
    rfl
  · rw [begP_c σ (by decide) (by decide) hi]
    rfl
  · rw [begP_c σ (by decide) (by decide) hi]
    rfl
  · have hln : ∀ i, i < n → fl_ln (fl_begP n n σ) i = 0 := fun i hi => by
      unfold fl_ln
      rw [begP_c σ (by decide) (by decide) hi]
      show (nI 0).toNatClampNeg = 0
      decide
    have hkn : ∀ i, i < n → fl_kn (fl_begP n n σ) i = 0 := fun i hi => by
      unfold fl_kn
      rw [begP_c σ (by decide) (by decide) hi]
      show (nI 0).toNatClampNeg = 0
      decide
    have hL : ∀ i, i < n → fL (fl_begP n n σ) i = [] := fun i hi => by
      unfold fL
      rw [hln i hi]
      rfl
    refine ⟨fun i hi => ?_, fun i hi hr => ?_, fun t b hb => by simp at hb, fun t _ => ⟨rfl, rfl⟩, fun i hi => ?_, fun t => ?_, fun t ht => absurd ht (Nat.lt_irrefl 0), fun i hi => ?_⟩
    · rw [begP_c σ (by decide) (by decide) hi, begP_c σ (by decide) (by decide) hi]
      exact ⟨Or.inl nI0z, fun z => absurd nI0z z, Or.inl rfl⟩
    · rw [begP_c σ (by decide) (by decide) hi] at hr
      exact absurd hr nI02
    · rw [hL i hi]
      exact ⟨fun k e hk => by simp at hk, fun i j e f _ hi _ => by simp at hi, fun k e hk => by simp at hk⟩
    · exact ⟨fun k e hk => by simp at hk, fun i j e f _ hi _ => by simp at hi, fun k e hk => by simp at hk⟩
    · rw [hkn i hi]
      exact ⟨Nat.zero_le _, fun z => absurd z (Nat.lt_irrefl 0)⟩
/-! what is told -/
theorem fA.term (h : fA n N σ) {b : Nat} (hb : b < n) : ∃ t, t ≤ N ∧ σ 3 b = nI t := by
  obtain ⟨-, ⟨s, g, s1, s2, s3, s4, s5⟩, -⟩ := h
  obtain ⟨t, t1, t2⟩ := s5 b hb
  exact ⟨t, by omega, t2⟩
theorem fA.kl (h : fA n N σ) {b : Nat} (hb : b < n) : fl_kn σ b ≤ fl_ln σ b := by
  obtain ⟨-, -, -, ld, tl, cm, J⟩ := h
  have := (J.2.2.2.2.2.2.2 b hb).1
  rwa [fL_len] at this
theorem fA.lastT (h : fA n N σ) (hN : N < 2 ^ 30) {b : Nat} (hb : b < n) : -1 ≤ (fl_last σ b).toInt ∧ (fl_last σ b).toInt ≤ (σ 3 b).toInt ∧ (σ 3 b).toInt ≤ N := by
  obtain ⟨t, t1, t2⟩ := h.term hb
  obtain ⟨-, -, -, ld, tl, cm, J⟩ := h
  rw [fl_last_rl]
  have ht : (σ 3 b).toInt = t := by rw [t2, nI_toInt (by omega)]
  by_cases hl : (fL σ b).length = 0
  · rw [rl_none hl]
    omega
  · obtain ⟨e, he⟩ := get_last (l := fL σ b) (by omega)
    rw [rl_some he]
    have h1 := (J.2.2.2.2.1 b hb).2.2 _ _ he
    have h2 := ((J.2.2.2.2.1 b hb).1 _ _ he).1
    cases hc : ld (rt e) with
    | none => exact absurd hc h2
    | some c =>
      have h3 := (J.2.2.1 _ _ hc).2.1
      have h4 : rt e ≤ (σ 3 b).toInt := h1
      omega
theorem fA.vb (h : fA n N σ) {b : Nat} (hb : b < n) : (σ 5 b = 0 ∨ σ 5 b = nI 1 ∨ σ 5 b = nI 2) ∧ (σ 5 b ≠ 0 → σ 4 b = nI b) ∧ (σ 4 b = -1 ∨ ∃ j, j < n ∧ σ 4 b = nI j) := by
  obtain ⟨-, -, -, ld, tl, cm, J⟩ := h
  exact J.1 b hb
theorem fA.clock (h : fA n N σ) {b : Nat} (hb : b < n) : ∃ c, 1 ≤ c ∧ c ≤ 9 ∧ σ 2 b = nI c := (h.2.2.1 b hb).2
theorem fA.sort (h : fA n N σ) {b k : Nat} (hb : b < n) (h1 : 1 ≤ k) (hk : k < fl_ln σ b) : σ 10 (b * 10 + (k - 1)) ≤ σ 10 (b * 10 + k) := by
  obtain ⟨-, -, -, ld, tl, cm, J⟩ := h
  have := (J.2.2.2.2.1 b hb).2.1 (k - 1) k _ _ (by omega) (fL_get σ b (by omega)) (fL_get σ b hk)
  rw [Int32.le_iff_toInt_le]
  exact this
theorem ct_less {σ : zF} {b k : Nat} (h1 : 1 ≤ k) : fl_ct (fun o => decide (k + 1 ≤ fl_agr σ b o)) n ≤ fl_ct (fun o => decide (k - 1 + 1 ≤ fl_agr σ b o)) n := fl_ct_mono n (fun i _ hp => by
  have := of_decide_eq_true hp
  exact decide_eq_true (by omega))
theorem fA.one (h : fA n N σ) {a b : Nat} (ha : a < n) (hb : b < n) (hab : a ≠ b) (hRa : σ 5 a = nI 2) (hRb : σ 5 b = nI 2) : ¬ σ 3 a = σ 3 b := fun ht => by
  obtain ⟨-, -, -, ld, tl, cm, J⟩ := h
  exact hab (rf_one J ha hb hRa hRb (congrArg Int32.toInt ht))
theorem fA.agr (h : fA n N σ) {a b : Nat} (ha : a < n) (hb : b < n) : min (fl_kn σ a) (fl_kn σ b) ≤ fl_agr σ a b := by
  obtain ⟨-, -, -, ld, tl, cm, J⟩ := h
  have k1 := (J.2.2.2.2.2.2.2 a ha).1
  have k2 := (J.2.2.2.2.2.2.2 b hb).1
  rcases Nat.le_total (fl_kn σ a) (fl_kn σ b) with q | q
  · have := agr_px (List.take_prefix (fl_kn σ a) (fL σ a)) (rf_kn J ha hb q)
    rw [px_len k1] at this
    omega
  · have := agr_px (rf_kn J hb ha q) (List.take_prefix (fl_kn σ b) (fL σ b))
    rw [px_len k2] at this
    omega
theorem fA.diff (h : fA n N σ) {a b k : Nat} (ha : a < n) (hb : b < n) (hk : fl_agr σ a b ≤ k) (hka : k < fl_ln σ a) (hkb : k < fl_ln σ b) : ¬ σ 10 (a * 10 + k) = σ 10 (b * 10 + k) := fun ht => by
  obtain ⟨-, -, -, ld, tl, cm, J⟩ := h
  have := rf_same J ha hb (fL_get σ a hka) (fL_get σ b hkb) (congrArg Int32.toInt ht)
  have h2 := agr_px (List.take_prefix (k + 1) (fL σ a)) (by rw [this]; exact List.take_prefix _ _)
  rw [px_len (by rw [fL_len]; omega)] at h2
  omega
theorem nw_or (σ : zF) (a b : Nat) (h : fl_nw σ a b = false) : fl_nw σ b a = true := by
  have h' : ¬ fl_nw σ a b = true := by rw [h]; decide
  rw [fl_nw_rN] at *
  unfold rN at *
  omega
theorem fA.cnt (h : fA n N σ) (hN : N < 2 ^ 30) : σ 0 3 ≤ σ 0 2 := by
  obtain ⟨-, ⟨s, g, s1, s2, s3, s4, s5⟩, -⟩ := h
  rw [s1, s2]
  exact nI_le s3 (by omega)
theorem ldr_none_iff (σ : zF) : ∀ i, fl_ldr σ i = none ↔ fl_ct (fl_lead σ) i = 0
  | 0 => by simp [fl_ldr, fl_ct]
  | i + 1 => by
    have ih := ldr_none_iff σ i
    unfold fl_ldr fl_ct
    by_cases h : fl_lead σ i = true
    · rw [if_pos h, if_pos h]
      constructor
      · intro z
        exfalso
        revert z
        split
        · exact fun z => Option.some_ne_none _ z
        · split <;> exact fun z => Option.some_ne_none _ z
      · intro z
        omega
    · rw [if_neg h, if_neg h]
      exact ih
theorem oI_lt {o : Option Nat} (h : ∀ j, o = some j → j < 2 ^ 31) : fl_oI o < 0 ↔ o = none := by
  cases o with
  | none => exact ⟨fun _ => rfl, fun _ => by decide⟩
  | some j => exact ⟨fun z => absurd z (nI_pos (h j rfl)), fun z => nomatch z⟩
theorem max_kn (hI : fl_Iv n σ) {i most : Nat} (hi : i < n) (h : nI most = fl_max (σ 9) i) (hm : most ≤ 10) : nI (max most (fl_kn σ i)) = fl_max (σ 9) (i + 1) := by
  show _ = if fl_max (σ 9) i < σ 9 i then σ 9 i else fl_max (σ 9) i
  have := hI.knT hi
  rw [← h, hI.kn hi, nI_maxE (by omega) (by omega)]
theorem min_kn (hI : fl_Iv n σ) {i least : Nat} (hi : i < n) (h : nI least = (if i = 0 then nI 99 else fl_min (σ 9) i)) (hm : least ≤ 99) : nI (min least (fl_kn σ i)) = (if i + 1 = 0 then nI 99 else fl_min (σ 9) (i + 1)) := by
  rw [if_neg (by omega)]
  show _ = if σ 9 i < fl_min (σ 9) i then σ 9 i else fl_min (σ 9) i
  have hk := hI.knT hi
  rw [hI.kn hi]
  by_cases h0 : i = 0
  · subst h0
    rw [if_pos rfl] at h
    have e := (nI_eq (by omega) (by omega)).mp h
    rw [e]
    show _ = if nI (fl_kn σ 0) < nI 10 then _ else nI 10
    rw [nI_minE (by omega) (by omega)]
    congr 1
    omega
  · rw [if_neg h0] at h
    rw [← h, nI_minE (by omega) (by omega)]
/-! hours ahead -/
theorem hours_add (n : Nat) (σ : zF) (a b : Nat) : fl_hours n a (fl_hours n b σ) = fl_hours n (b + a) σ := by
  induction a with
  | zero => rfl
  | succ a ih =>
    show fl_hour n (fl_hours n a (fl_hours n b σ)) = fl_hour n (fl_hours n (b + a) σ)
    rw [ih]
theorem hours_1 (n : Nat) (σ : zF) (k : Nat) : fl_hours n 1 (fl_hours n k σ) = fl_hours n (k + 1) σ := rfl
/-- the hour that until() tells is one at which a boat leads -/
theorem unt_led {n : Nat} : ∀ (f o : Nat) (ρ : zF) (k : Nat), k < 2 ^ 31 → o + f ≤ 61 → (fl_untL n f o ρ).1 = nI k → o ≤ k ∧ fl_led n (fl_hours n (k - o) ρ) = true
  | 0, o, ρ, k, hk, _, h => by
    exfalso
    have h' : (-1 : Int32) = nI k := h
    have := congrArg Int32.toInt h'
    rw [nI_toInt hk] at this
    have e : (-1 : Int32).toInt = -1 := by decide
    omega
  | f + 1, o, ρ, k, hk, hf, h => by
    unfold fl_untL at h
    by_cases hl : fl_led n ρ = true
    · rw [if_pos hl] at h
      have e : o = k := (nI_eq (by omega) hk).mp h
      subst e
      rw [Nat.sub_self]
      exact ⟨Nat.le_refl o, hl⟩
    · rw [if_neg hl] at h
      obtain ⟨h1, h2⟩ := unt_led f (o + 1) (fl_hour n ρ) k hk (by omega) h
      refine ⟨by omega, ?_⟩
      have e := hours_add n ρ (k - (o + 1)) 1
      rw [show 1 + (k - (o + 1)) = k - o by omega] at e
      rw [← e]
      exact h2
theorem fl_R_cpy (hI : fl_Iv n σ) (τ : zF) : fl_R n (fl_cpy σ τ) σ := by
  refine ⟨fl_cpy_Iv hI, fun j hj => ?_, fun k h1 h9 j hj => ?_, fun j hj => ?_, fun j hj => ?_⟩
  · unfold fl_cpy
    rw [if_pos (by simp [fl_w]; omega)]
  · unfold fl_cpy
    have h7 := hI.n7
    have e : fl_w k = 7 := by
      unfold fl_w
      rw [if_neg (by omega), if_pos (by omega)]
    rw [if_pos (by rw [e]; omega)]
  · unfold fl_cpy
    rw [if_pos (by simp [fl_w]; omega)]
  · unfold fl_cpy
    rw [if_pos (by simp [fl_w]; omega)]
theorem unt_tells (hI : fl_Iv n σ) (τ : zF) {k : Nat} (hk : k < 2 ^ 31) (h : (fl_unt n 0 (fl_cpy σ τ)).1 = nI k) : fl_led n (fl_hours n k σ) = true := by
  have := (unt_led (61 - 0) 0 _ k hk (by omega) h).2
  rw [Nat.sub_zero] at this
  rw [← ((fl_R_cpy hI τ).hours k).led]
  exact this
theorem unt_0 (hI : fl_Iv n σ) (τ : zF) (h : fl_led n σ = true) : (fl_unt n 0 (fl_cpy σ τ)).1 = nI 0 := by
  rw [fl_unt_go n 0 _ (by omega), if_pos (by rw [(fl_R_cpy hI τ).led]; exact h)]
theorem fore_eq (hI : fl_Iv n σ) (τ : zF) (h w : Nat) : fl_ofF n (fl_hours n h (fl_cpy σ τ)) w = fl_ofF n (fl_hours n h σ) w := ((fl_R_cpy hI τ).hours h).ofF w
/-! an hour, as it is told -/
theorem fA.hT (h : fA n N σ) (hN : N + n < 2 ^ 30) (b : Nat) : σ 3 b ≤ fl_hour n σ 3 b := by
  rw [Int32.le_iff_toInt_le]
  exact hour_T h hN b
theorem abs_ok {x y m : Nat} (hx : x ≤ 10) (hy : y ≤ 10) (hm : m ≤ 7) (h1 : x ≤ y + m) (h2 : y ≤ x + m) : ¬ nI m < (if 0 ≤ nI x - nI y then nI x - nI y else 0 - (nI x - nI y)) := by
  have e : (nI x - nI y).toInt = (x : Int) - y := pk_sub_toInt (by omega) (by omega)
  rw [Int32.lt_iff_toInt_lt, nI_toInt (by omega)]
  split
  · rw [e]
    omega
  · rw [Int32.toInt_sub, e]
    have z : (0 : Int32).toInt = 0 := by decide
    rw [z, Int.bmod_eq_of_le (by omega) (by omega)]
    omega
end ACTS
