/-! What is told of a fleet depends on its valid places alone: the boats that there are, and 70 places of the logs. -/
def fl_S (n : Nat) (σ τ : zF) : Prop := (∀ j, j < 5 → σ 0 j = τ 0 j) ∧ (∀ k, 1 ≤ k → k ≤ 9 → ∀ j, j < n → σ k j = τ k j) ∧ (∀ j, j < 70 → σ 10 j = τ 10 j) ∧ ∀ j, j < 70 → σ 11 j = τ 11 j
def fl_R (n : Nat) (σ τ : zF) : Prop := fl_Iv n σ ∧ fl_S n σ τ
theorem fl_S.U {n : Nat} {σ τ : zF} (h : fl_S n σ τ) (k i : Nat) {v w : Int32} (e : v = w) : fl_S n (zU σ k i v) (zU τ k i w) := by
  subst e
  refine ⟨fun j hj => ?_, fun k2 h1 h9 j hj => ?_, fun j hj => ?_, fun j hj => ?_⟩ <;> rw [zU_at, zU_at] <;> split
  · rfl
  · exact h.1 j hj
  · rfl
  · exact h.2.1 k2 h1 h9 j hj
  · rfl
  · exact h.2.2.1 j hj
  · rfl
  · exact h.2.2.2 j hj
theorem fl_ct_cong2 {p q : Nat → Bool} : ∀ {n : Nat}, (∀ i, i < n → p i = q i) → fl_ct p n = fl_ct q n
  | 0, _ => rfl
  | n + 1, h => by
    unfold fl_ct
    rw [fl_ct_cong2 (fun i hi => h i (by omega)), h n (by omega)]
theorem fl_any_cong {p q : Nat → Bool} : ∀ {n : Nat}, (∀ i, i < n → p i = q i) → fl_any p n = fl_any q n
  | 0, _ => rfl
  | n + 1, h => by
    unfold fl_any
    rw [fl_any_cong (fun i hi => h i (by omega)), h n (by omega)]
theorem fl_max_cong {f g : Nat → Int32} : ∀ {n : Nat}, (∀ i, i < n → f i = g i) → fl_max f n = fl_max g n
  | 0, _ => rfl
  | n + 1, h => by
    unfold fl_max
    rw [fl_max_cong (fun i hi => h i (by omega)), h n (by omega)]
theorem fl_min_cong {f g : Nat → Int32} : ∀ {n : Nat}, (∀ i, i < n → f i = g i) → fl_min f n = fl_min g n
  | 0, _ => rfl
  | n + 1, h => by
    unfold fl_min
    rw [fl_min_cong (fun i hi => h i (by omega)), h n (by omega)]
theorem fl_sm_cong {f g : Nat → Nat} : ∀ {n : Nat}, (∀ i, i < n → f i = g i) → fl_sm f n = fl_sm g n
  | 0, _ => rfl
  | n + 1, h => by
    unfold fl_sm
    rw [fl_sm_cong (fun i hi => h i (by omega)), h n (by omega)]
theorem fl_dF_cong {f g : Nat → Int32} (d : Int64) : ∀ {n : Nat}, (∀ i, i < n → f i = g i) → fl_dF f n d = fl_dF g n d
  | 0, _ => rfl
  | n + 1, h => by
    unfold fl_dF
    rw [fl_dF_cong d (fun i hi => h i (by omega)), h n (by omega)]
section FLSIM
variable {n : Nat} {σ τ : zF}
theorem fl_R.z (h : fl_R n σ τ) (j : Nat) (hj : j < 5 := by decide) : σ 0 j = τ 0 j := h.2.1 j hj
theorem fl_R.r (h : fl_R n σ τ) (k : Nat) {j : Nat} (hj : j < n) (h1 : 1 ≤ k := by decide) (h9 : k ≤ 9 := by decide) : σ k j = τ k j := h.2.2.1 k h1 h9 j hj
theorem fl_R.t (h : fl_R n σ τ) (j : Nat) (hj : j < 70) : σ 10 j = τ 10 j := h.2.2.2.1 j hj
theorem fl_R.f (h : fl_R n σ τ) (j : Nat) (hj : j < 70) : σ 11 j = τ 11 j := h.2.2.2.2 j hj
theorem fl_R.ln (h : fl_R n σ τ) {i : Nat} (hi : i < n) : fl_ln σ i = fl_ln τ i := by unfold fl_ln; rw [h.r 8 hi]
theorem fl_R.kn (h : fl_R n σ τ) {i : Nat} (hi : i < n) : fl_kn σ i = fl_kn τ i := by unfold fl_kn; rw [h.r 9 hi]
theorem fl_R.lnT (h : fl_R n σ τ) {i : Nat} (hi : i < n) : fl_ln τ i ≤ 10 := h.ln hi ▸ h.1.lnT hi
theorem fl_R.last (h : fl_R n σ τ) {b : Nat} (hb : b < n) : fl_last σ b = fl_last τ b := by
  have h1 := h.lnT hb
  have h7 := h.1.n7
  unfold fl_last
  rw [h.ln hb]
  split
  · rfl
  · exact h.t _ (by omega)
theorem fl_R.nw (h : fl_R n σ τ) {x y : Nat} (hx : x < n) (hy : y < n) : fl_nw σ x y = fl_nw τ x y := by
  unfold fl_nw
  rw [h.last hx, h.last hy, h.ln hx, h.ln hy]
theorem fl_R.agrL (h : fl_R n σ τ) {x y : Nat} (hx : x < n) (hy : y < n) : ∀ f k : Nat, k + f ≤ 10 → fl_agrL σ x y f k = fl_agrL τ x y f k
  | 0, _, _ => rfl
  | f + 1, k, hk => by
    have h7 := h.1.n7
    rw [fl_agrL, fl_agrL, h.t (x * 10 + k) (by omega), h.t (y * 10 + k) (by omega), h.f (x * 10 + k) (by omega), h.f (y * 10 + k) (by omega), h.agrL hx hy f (k + 1) (by omega)]
theorem fl_R.agr (h : fl_R n σ τ) {x y : Nat} (hx : x < n) (hy : y < n) : fl_agr σ x y = fl_agr τ x y := by
  have h1 := h.lnT hx
  unfold fl_agr
  rw [h.ln hx, h.ln hy]
  exact h.agrL hx hy _ _ (by omega)
theorem fl_R.hear (h : fl_R n σ τ) {x y : Nat} (hx : x < n) (hy : y < n) : fl_hear σ x y = fl_hear τ x y := by
  unfold fl_hear
  rw [h.r 7 hx, h.r 7 hy, h.r 6 hx, h.r 6 hy]
theorem fl_S.take (h : fl_S n σ τ) (b : Nat) (g : Int32) : fl_S n (fl_take σ b g) (fl_take τ b g) := ((h.U 3 b rfl).U 4 b rfl).U 5 b rfl
theorem fl_R.take (h : fl_R n σ τ) (b : Nat) (g : Int32) : fl_R n (fl_take σ b g) (fl_take τ b g) := ⟨fl_take_Iv h.1 b g, h.2.take b g⟩
theorem fl_R.hof (h : fl_R n σ τ) {b : Nat} (hb : b < n) (g : Int32) : fl_R n (fl_hof σ b g) (fl_hof τ b g) := by
  refine ⟨fl_hof_Iv h.1 b g, ?_⟩
  unfold fl_hof
  rw [h.r 3 hb]
  split
  · exact h.2
  · exact h.2.take b g
theorem fl_R.vok (h : fl_R n σ τ) {b o : Nat} (hb : b < n) (ho : o < n) : fl_vok σ b o = fl_vok τ b o := by
  unfold fl_vok
  rw [h.r 4 ho, h.nw hb ho]
theorem fl_R.votT (h : fl_R n σ τ) {b o : Nat} (hb : b < n) (ho : o < n) : fl_R n (fl_votT σ b o) (fl_votT τ b o) := by
  refine ⟨fl_votT_Iv h.1 b o, ?_⟩
  unfold fl_votT
  rw [h.vok hb ho]
  split
  · exact (h.2.U 4 o rfl).U 2 o (h.r 1 ho)
  · exact h.2
theorem fl_R.votS (h : fl_R n σ τ) {b o : Nat} (hb : b < n) (ho : o < n) : fl_R n (fl_votS σ b o) (fl_votS τ b o) := by
  refine ⟨fl_votS_Iv h.1 b o, ?_⟩
  unfold fl_votS
  rw [h.r 3 hb, h.r 3 ho]
  split
  · exact h.2.take b _
  · exact ((h.hof ho _).votT hb ho).2
theorem fl_R.votB (h : fl_R n σ τ) {b o : Nat} (hb : b < n) (ho : o < n) : fl_votB σ b o = fl_votB τ b o := by
  unfold fl_votB
  rw [h.r 3 hb, h.r 3 ho, (h.hof ho _).vok hb ho]
theorem fl_askL_R {b : Nat} (hb : b < n) : ∀ (f o v : Nat) (σ τ : zF), fl_R n σ τ → o + f ≤ n → (fl_askL b f o v σ).1 = (fl_askL b f o v τ).1 ∧ fl_R n (fl_askL b f o v σ).2 (fl_askL b f o v τ).2
  | 0, _, _, _, _, h, _ => ⟨rfl, h⟩
  | f + 1, o, v, σ, τ, h, ho => by
    rw [fl_askL, fl_askL, h.r 5 hb, h.hear hb (show o < n by omega)]
    split
    · split
      · rw [h.votB hb (show o < n by omega)]
        exact fl_askL_R hb f (o + 1) _ _ _ (h.votS hb (by omega)) (by omega)
      · exact fl_askL_R hb f (o + 1) _ _ _ h (by omega)
    · exact ⟨rfl, h⟩
theorem fl_R.std0 (h : fl_R n σ τ) {b : Nat} (hb : b < n) : fl_R n (fl_std0 σ b) (fl_std0 τ b) := ⟨fl_std0_Iv h.1 b, ((((h.2.U 0 2 (by rw [h.z 2])).U 3 b (by rw [h.r 3 hb])).U 5 b rfl).U 4 b rfl).U 2 b (h.r 1 hb)⟩
theorem fl_stdE_R {b : Nat} (hb : b < n) {r q : Nat × zF} (e : r.1 = q.1) (h : fl_R n r.2 q.2) : fl_R n (fl_stdE n b r) (fl_stdE n b q) := by
  refine ⟨fl_stdE_Iv h.1 b, ?_⟩
  unfold fl_stdE
  rw [h.r 5 hb, e]
  split
  · exact (h.2.U 5 b rfl).U 0 3 (by rw [h.z 3])
  · exact h.2
theorem fl_R.stand (h : fl_R n σ τ) {b : Nat} (hb : b < n) : fl_R n (fl_stand n σ b) (fl_stand n τ b) := by
  obtain ⟨e, h2⟩ := fl_askL_R hb (n - 0) 0 1 _ _ (h.std0 hb) (by omega)
  exact fl_stdE_R hb e h2
theorem fl_R.app (h : fl_R n σ τ) {b : Nat} (hb : b < n) {x x' y y' : Int32} (ex : x = x') (ey : y = y') : fl_S n (fl_app σ b x y) (fl_app τ b x' y') := by
  unfold fl_app
  rw [h.ln hb]
  exact ((h.2.U 10 _ ex).U 11 _ ey).U 8 b rfl
theorem fl_R.cut (h : fl_R n σ τ) {t o : Nat} (ht : t < n) (ho : o < n) : fl_cut σ t o = fl_cut τ t o := by
  unfold fl_cut
  rw [h.agr ht ho, h.ln ho]
theorem fl_R.mend (h : fl_R n σ τ) {t o : Nat} (ht : t < n) (ho : o < n) : fl_R n (fl_mend σ t o) (fl_mend τ t o) := by
  refine ⟨fl_mend_Iv h.1 ht ho, ?_⟩
  have h7 := h.1.n7
  have h1 := h.lnT ht
  unfold fl_mend
  rw [h.agr ht ho, h.ln ho, h.ln ht]
  split
  · exact h.2.U 8 o rfl
  · split
    · exact h.app ho (h.t _ (by omega)) (h.f _ (by omega))
    · exact h.2
theorem fl_R.lrn (h : fl_R n σ τ) {t o : Nat} (ht : t < n) (ho : o < n) : fl_R n (fl_lrn σ t o) (fl_lrn τ t o) := ⟨fl_lrn_Iv h.1 ht ho, h.2.U 9 o (by rw [h.kn ho, h.kn ht, h.agr ht ho])⟩
theorem fl_R.got (h : fl_R n σ τ) {o : Nat} (ho : o < n) : fl_R n (fl_got σ o) (fl_got τ o) := ⟨fl_got_Iv h.1 o, (h.2.U 5 o rfl).U 2 o (h.r 1 ho)⟩
theorem fl_R.lose (h : fl_R n σ τ) (b : Bool) : fl_R n (fl_lose σ b) (fl_lose τ b) := by
  refine ⟨fl_lose_Iv h.1 b, ?_⟩
  unfold fl_lose
  split
  · exact h.2.U 0 4 (by rw [h.z 4])
  · exact h.2
theorem fl_R.telT (h : fl_R n σ τ) {t o : Nat} (ht : t < n) (ho : o < n) : fl_R n (fl_telT σ t o) (fl_telT τ t o) := by
  unfold fl_telT
  rw [(h.got ho).cut ht ho]
  exact ((((h.got ho).mend ht ho).lose _).lrn ht ho)
theorem fl_R.tel (h : fl_R n σ τ) {t o : Nat} (ht : t < n) (ho : o < n) : fl_R n (fl_tel σ t o) (fl_tel τ t o) := by
  unfold fl_tel
  rw [h.r 3 ht, h.r 3 ho]
  split
  · exact h.take t _
  · exact (h.hof ho _).telT ht ho
theorem fl_telL_R {t : Nat} (ht : t < n) : ∀ (f o : Nat) (σ τ : zF), fl_R n σ τ → o + f ≤ n → fl_R n (fl_telL t f o σ) (fl_telL t f o τ)
  | 0, _, _, _, h, _ => h
  | f + 1, o, σ, τ, h, ho => by
    rw [fl_telL, fl_telL, h.r 5 ht, h.hear ht (show o < n by omega)]
    split
    · split
      · exact fl_telL_R ht f (o + 1) _ _ (h.tel ht (by omega)) (by omega)
      · exact fl_telL_R ht f (o + 1) _ _ h (by omega)
    · exact h
theorem fl_R.cnt (h : fl_R n σ τ) {b : Nat} (hb : b < n) (k : Nat) : fl_cnt n σ b k = fl_cnt n τ b k := fl_ct_cong2 (fun o ho => by
  unfold fl_agrees
  rw [h.hear hb ho, h.agr hb ho])
theorem fl_R.comL (h : fl_R n σ τ) {b : Nat} (hb : b < n) : ∀ k : Nat, k ≤ 10 → fl_R n (fl_comL n σ b k) (fl_comL n τ b k)
  | 0, _ => h
  | k + 1, hk => by
    have h7 := h.1.n7
    refine ⟨fl_comL_Iv h.1 b (k + 1) hk, ?_⟩
    rw [fl_comL, fl_comL, h.kn hb, h.t (b * 10 + k) (by omega), h.r 3 hb, h.cnt hb]
    split
    · split
      · exact h.2.U 9 b rfl
      · exact (h.comL hb k (by omega)).2
    · exact h.2
theorem fl_R.com (h : fl_R n σ τ) {b : Nat} (hb : b < n) : fl_R n (fl_com n σ b) (fl_com n τ b) := by
  unfold fl_com
  rw [h.ln hb]
  exact h.comL hb _ (h.lnT hb)
theorem fl_R.lead (h : fl_R n σ τ) {b : Nat} (hb : b < n) : fl_lead σ b = fl_lead τ b := by
  unfold fl_lead
  rw [h.r 7 hb, h.r 5 hb]
theorem fl_fold_R {f : zF → Nat → zF} (hf : ∀ σ τ i, i < n → fl_R n σ τ → fl_R n (f σ i) (f τ i)) (h : fl_R n σ τ) : ∀ i : Nat, i ≤ n → fl_R n (fl_fold f i σ) (fl_fold f i τ)
  | 0, _ => h
  | i + 1, hi => hf _ _ i (by omega) (fl_fold_R hf h i (by omega))
theorem fl_R.clk1 (h : fl_R n σ τ) {i : Nat} (hi : i < n) : fl_R n (fl_clk1 n σ i) (fl_clk1 n τ i) := by
  have h2 : fl_R n (zU σ 2 i (σ 2 i - nI 1)) (zU τ 2 i (τ 2 i - nI 1)) := ⟨h.1.P 2 i _ (by omega), h.2.U 2 i (by rw [h.r 2 hi])⟩
  unfold fl_clk1
  rw [h.r 7 hi, h.r 5 hi]
  split
  · have e := h.r 2 hi
    rw [e]
    rw [e] at h2
    split
    · exact h2.stand hi
    · exact h2
  · exact h
theorem fl_R.tls1 (h : fl_R n σ τ) {i : Nat} (hi : i < n) : fl_R n (fl_tls1 n σ i) (fl_tls1 n τ i) := by
  unfold fl_tls1
  rw [h.lead hi]
  split
  · exact fl_telL_R hi (n - 0) 0 _ _ h (by omega)
  · exact h
theorem fl_R.coms1 (h : fl_R n σ τ) {i : Nat} (hi : i < n) : fl_R n (fl_coms1 n σ i) (fl_coms1 n τ i) := by
  unfold fl_coms1
  rw [h.lead hi]
  split
  · exact h.com hi
  · exact h
theorem fl_R.tick (h : fl_R n σ τ) : fl_R n (fl_tick σ) (fl_tick τ) := ⟨fl_tick_Iv h.1, h.2.U 0 1 (by rw [h.z 1])⟩
theorem fl_R.hour (h : fl_R n σ τ) : fl_R n (fl_hour n σ) (fl_hour n τ) := by
  have h1 : fl_R n (fl_fold (fl_clk1 n) n σ) (fl_fold (fl_clk1 n) n τ) := fl_fold_R (f := fl_clk1 n) (fun _ _ _ hi g => g.clk1 hi) h n (Nat.le_refl n)
  have h2 := fl_fold_R (f := fl_tls1 n) (fun _ _ _ hi g => g.tls1 hi) h1 n (Nat.le_refl n)
  have h3 := fl_fold_R (f := fl_coms1 n) (fun _ _ _ hi g => g.coms1 hi) h2 n (Nat.le_refl n)
  exact h3.tick
theorem fl_R.hours (h : fl_R n σ τ) : ∀ k : Nat, fl_R n (fl_hours n k σ) (fl_hours n k τ)
  | 0 => h
  | k + 1 => (h.hours k).hour
theorem fl_R.upIn (h : fl_R n σ τ) (g : Int32) : fl_upIn n σ g = fl_upIn n τ g := fl_ct_cong2 (fun b hb => by rw [h.r 7 hb, h.r 6 hb])
theorem fl_R.led (h : fl_R n σ τ) : fl_led n σ = fl_led n τ := fl_any_cong (fun b hb => by
  unfold fl_led1
  rw [h.lead hb, h.r 6 hb, h.upIn])
theorem fl_R.nwst (h : fl_R n σ τ) (g : Int32) : ∀ i : Nat, i ≤ n → fl_nwst σ g i = fl_nwst τ g i
  | 0, _ => rfl
  | i + 1, hi => by
    rw [fl_nwst, fl_nwst, h.r 7 (show i < n by omega), h.r 6 (show i < n by omega), h.nwst g i (by omega)]
    split
    · cases hq : fl_nwst τ g i with
      | none => rfl
      | some j =>
        have hj := fl_nwst_lt τ g i j hq
        show (if fl_nw σ j i = true then some j else some i) = (if fl_nw τ j i = true then some j else some i)
        rw [h.nw (show j < n by omega) (show i < n by omega)]
    · rfl
theorem fl_R.ldr (h : fl_R n σ τ) : ∀ i : Nat, i ≤ n → fl_ldr σ i = fl_ldr τ i
  | 0, _ => rfl
  | i + 1, hi => by
    rw [fl_ldr, fl_ldr, h.lead (show i < n by omega), h.ldr i (by omega)]
    split
    · cases hq : fl_ldr τ i with
      | none => rfl
      | some j =>
        have hj := fl_ldr_lt τ i j hq
        show (if σ 3 j < σ 3 i then some i else some j) = (if τ 3 j < τ 3 i then some i else some j)
        rw [h.r 3 (show j < n by omega), h.r 3 (show i < n by omega)]
    · rfl
theorem fl_R.ofB (h : fl_R n σ τ) {b : Nat} (hb : b < n) (w : Nat) : fl_ofB σ b w = fl_ofB τ b w := by
  unfold fl_ofB
  split
  · exact h.r 3 hb
  · exact h.r 4 hb
  · exact h.r 5 hb
  · exact h.r 6 hb
  · rw [h.r 7 hb]
  · exact h.r 1 hb
  · exact h.r 2 hb
  · exact h.r 8 hb
  · exact h.r 9 hb
  · exact h.last hb
theorem fl_R.ofE (h : fl_R n σ τ) {b k : Nat} (hb : b < n) (hk : k < 10) (w : Nat) : fl_ofE n σ b k w = fl_ofE n τ b k w := by
  have h7 := h.1.n7
  unfold fl_ofE
  split
  · exact h.t _ (by omega)
  · exact h.f _ (by omega)
  · exact congrArg nI (fl_ct_cong2 (fun o ho => by rw [h.agr hb ho]))
theorem fl_R.ofF (h : fl_R n σ τ) (w : Nat) : fl_ofF n σ w = fl_ofF n τ w := by
  unfold fl_ofF
  split
  · exact h.z 1
  · rfl
  · exact congrArg nI (fl_ct_cong2 (fun b hb => by rw [h.r 7 hb]))
  · exact congrArg nI (fl_ct_cong2 (fun b hb => h.lead hb))
  · exact fl_max_cong (fun b hb => h.r 3 hb)
  · exact h.z 2
  · exact h.z 3
  · exact h.z 4
  · exact fl_max_cong (fun b hb => h.r 9 hb)
  · exact fl_min_cong (fun b hb => h.r 9 hb)
theorem fl_R.smk (h : fl_R n σ τ) : fl_sm (fl_kn σ) n = fl_sm (fl_kn τ) n := fl_sm_cong (fun _ hi => h.kn hi)
theorem fl_R.raise (h : fl_R n σ τ) {b : Nat} (hb : b < n) : fl_S n (fl_raise σ b) (fl_raise τ b) := (((h.2.U 7 b rfl).U 5 b rfl).U 2 b (h.r 1 hb)).U 9 b rfl
theorem fl_R.cpy (h : fl_R n σ τ) (ρ ρ' : zF) : fl_R n (fl_cpy σ ρ) (fl_cpy τ ρ') := by
  have h7 := h.1.n7
  refine ⟨fl_cpy_Iv h.1, fun j hj => ?_, fun k h1 h9 j hj => ?_, fun j hj => ?_, fun j hj => ?_⟩
  · simp only [fl_cpy, fl_w, if_pos, if_pos hj]; exact h.z j hj
  · have e : j < fl_w k := by
      unfold fl_w
      rw [if_neg (by omega), if_pos (by omega)]
      omega
    simp only [fl_cpy, if_pos e]
    exact h.2.2.1 k h1 h9 j hj
  · have e : j < fl_w 10 := hj
    simp only [fl_cpy, if_pos e]
    exact h.t j hj
  · have e : j < fl_w 11 := hj
    simp only [fl_cpy, if_pos e]
    exact h.f j hj
theorem fl_untL_R : ∀ (f o : Nat) (σ τ : zF), fl_R n σ τ → (fl_untL n f o σ).1 = (fl_untL n f o τ).1
  | 0, _, _, _, _ => rfl
  | f + 1, o, σ, τ, h => by
    rw [fl_untL, fl_untL, h.led]
    split
    · rfl
    · exact fl_untL_R f (o + 1) _ _ h.hour
theorem fl_R.unt (h : fl_R n σ τ) (ρ ρ' : zF) : (fl_unt n 0 (fl_cpy σ ρ)).1 = (fl_unt n 0 (fl_cpy τ ρ')).1 := fl_untL_R (61 - 0) 0 _ _ (h.cpy ρ ρ')
theorem fl_R.advS (h : fl_R n σ τ) (ρ ρ' : zF) (b k j : Nat) : fl_R n (fl_advS n σ ρ b k j) (fl_advS n τ ρ' b k j) := by
  have g : fl_R n (zU (fl_cpy σ ρ) 6 b (nI j)) (zU (fl_cpy τ ρ') 6 b (nI j)) := ⟨(h.cpy ρ ρ').1.P 6 b _ (by omega), (h.cpy ρ ρ').2.U 6 b rfl⟩
  exact g.hours k
theorem fl_R.advL (h : fl_R n σ τ) (b k : Nat) (ρ ρ' : zF) : ∀ j : Nat, (fl_advL n σ b k ρ j).1 = (fl_advL n τ b k ρ' j).1 ∧ (fl_advL n σ b k ρ j).2.1 = (fl_advL n τ b k ρ' j).2.1
  | 0 => ⟨rfl, rfl⟩
  | j + 1 => by
    obtain ⟨e1, e2⟩ := h.advL b k ρ ρ' j
    have g := h.advS (fl_advL n σ b k ρ j).2.2 (fl_advL n τ b k ρ' j).2.2 b k j
    have e3 : fl_max (fl_advS n σ (fl_advL n σ b k ρ j).2.2 b k j 9) n = fl_max (fl_advS n τ (fl_advL n τ b k ρ' j).2.2 b k j 9) n := fl_max_cong (fun i hi => g.r 9 hi)
    rw [fl_advL, fl_advL, e2, e3]
    split
    · exact ⟨rfl, rfl⟩
    · exact ⟨e1, rfl⟩
theorem fl_R.dE (h : fl_R n σ τ) {b : Nat} (hb : b < n) (d : Int64) : ∀ k : Nat, k ≤ 10 → fl_dE n σ b k d = fl_dE n τ b k d
  | 0, _ => rfl
  | k + 1, hk => by
    rw [fl_dE, fl_dE, h.dE hb d k (by omega)]
    exact fl_dF_cong _ (fun w _ => h.ofE hb (by omega) w)
theorem fl_R.dB (h : fl_R n σ τ) {b : Nat} (hb : b < n) (d : Int64) : fl_dB n σ b d = fl_dB n τ b d := by
  unfold fl_dB
  rw [h.ln hb, fl_dF_cong d (fun w _ => h.ofB hb w)]
  exact h.dE hb _ _ (h.lnT hb)
theorem fl_R.dA (h : fl_R n σ τ) : ∀ b : Nat, b ≤ n → fl_dA n σ b = fl_dA n τ b
  | 0, _ => fl_dF_cong _ (fun w _ => h.ofF w)
  | b + 1, hb => by
    rw [fl_dA, fl_dA, h.dA b (by omega)]
    exact h.dB (by omega) _
theorem fl_S.begP (h : fl_S n σ τ) (m : Nat) (h7 : m ≤ 7) : fl_S m (fl_begP m m σ) (fl_begP m 7 τ) := by
  refine ⟨fun j hj => ?_, fun k h1 h9 j hj => ?_, fun j hj => ?_, fun j hj => ?_⟩
  · simp only [fl_begP, if_true, if_pos hj]
  · simp only [fl_begP]
    rw [if_neg (by omega), if_pos ⟨by omega, hj⟩, if_neg (by omega), if_pos ⟨by omega, by omega⟩]
  · exact h.2.2.1 j hj
  · exact h.2.2.2 j hj
end FLSIM
