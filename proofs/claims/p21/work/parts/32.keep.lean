/-! Each step of an hour keeps what makes a fleet safe -/
theorem nI0z : nI 0 = 0 := by decide
theorem nI1z : ¬ nI 1 = 0 := by decide
theorem nI2z : ¬ nI 2 = 0 := by decide
theorem nI12 : ¬ nI 1 = nI 2 := by decide
theorem nI02 : ¬ nI 0 = nI 2 := by decide
theorem nI01 : ¬ nI 0 = nI 1 := by decide
section KEEP
variable {n : Nat} {σ : zF} {ld : Int → Option Nat} {tl : Int → List rE} {cm : Int → Nat}
theorem fJ.take (hn : n ≤ 7) (h : fJ n σ ld tl cm) {b : Nat} {g : Int32} (hg : σ 3 b < g) : fJ n (fl_take σ b g) ld tl cm := by
  have hk := fun k h3 h4 h5 => take_k σ b g (k := k) h3 h4 h5
  unfold fJ
  rw [fL_cells (τ := σ) (hk 8 (by decide) (by decide) (by decide)) (hk 10 (by decide) (by decide) (by decide)) (hk 11 (by decide) (by decide) (by decide)), fl_kn_cells (τ := σ) (hk 9 (by decide) (by decide) (by decide))]
  rw [Int32.lt_iff_toInt_lt] at hg
  refine rf_tvr hn h (fun i hi => ?_) (fun i hi => ?_) (fun i hi e => ?_) (fun i hi e => ?_)
  · rw [take_4, take_5]
    by_cases e : i = b
    · rw [if_pos e, if_pos e]
      exact ⟨Or.inl nI0z, fun z => absurd nI0z z, Or.inl rfl⟩
    · rw [if_neg e, if_neg e]
      exact h.1 i hi
  · unfold fT
    rw [take_3]
    by_cases e : i = b
    · rw [if_pos e, e]
      omega
    · rw [if_neg e]
      exact Int.le_refl _
  · unfold fT at e
    rw [take_3] at e
    rw [take_4]
    by_cases e' : i = b
    · rw [if_pos e', e'] at e
      omega
    · rw [if_neg e']
      exact Or.inl rfl
  · unfold fT
    rw [take_5] at e
    rw [take_3]
    by_cases e' : i = b
    · rw [if_pos e'] at e
      exact absurd e nI02
    · rw [if_neg e'] at e ⊢
      exact ⟨e, rfl⟩
theorem fJ.hof (hn : n ≤ 7) (h : fJ n σ ld tl cm) (o : Nat) (g : Int32) : fJ n (fl_hof σ o g) ld tl cm := by
  unfold fl_hof
  split
  · exact h
  · rename_i hc
    exact h.take hn (Int32.not_le.mp hc)
theorem fJ.votT (hn : n ≤ 7) (h : fJ n σ ld tl cm) {b o : Nat} (hb : b < n) (hbo : o ≠ b) : fJ n (fl_votT σ b o) ld tl cm := by
  by_cases hv : fl_vok σ b o = true
  · have hvo : σ 4 o = -1 ∨ σ 4 o = nI b := by
      unfold fl_vok at hv
      rw [Bool.and_eq_true, decide_eq_true_iff] at hv
      exact hv.1
    have hk := fun k h2 h4 => votT_k σ b o (k := k) h2 h4
    unfold fJ
    rw [fL_cells (τ := σ) (hk 8 (by decide) (by decide)) (hk 10 (by decide) (by decide)) (hk 11 (by decide) (by decide)), fl_kn_cells (τ := σ) (hk 9 (by decide) (by decide)), fT_cells (τ := σ) (hk 3 (by decide) (by decide)), hk 5 (by decide) (by decide)]
    refine rf_tvr hn h (fun i hi => ?_) (fun i hi => Int.le_refl _) (fun i hi e => ?_) (fun i hi e => ⟨e, rfl⟩)
    · rw [votT_4]
      by_cases e : i = o
      · rw [if_pos ⟨e, hv⟩]
        obtain ⟨q1, q2, q3⟩ := h.1 i hi
        refine ⟨q1, fun z => ?_, Or.inr ⟨b, hb, rfl⟩⟩
        exfalso
        have q4 := q2 z
        rw [e] at q4 hi
        rcases hvo with v | v
        · exact nIm1 o (by omega) (v.symm.trans q4)
        · exact hbo (nI_inj8 (by omega) (by omega) (q4.symm.trans v))
      · rw [if_neg (fun z => e z.1)]
        exact h.1 i hi
    · rw [votT_4]
      by_cases e' : i = o
      · rw [if_pos ⟨e', hv⟩, e']
        rcases hvo with v | v
        · exact Or.inr v
        · exact Or.inl v.symm
      · rw [if_neg (fun z => e' z.1)]
        exact Or.inl rfl
  · unfold fl_votT
    rw [if_neg hv]
    exact h
theorem fJ.votS (hn : n ≤ 7) (h : fJ n σ ld tl cm) {b o : Nat} (hb : b < n) (hbo : o ≠ b) : fJ n (fl_votS σ b o) ld tl cm := by
  unfold fl_votS
  split
  · rename_i hc
    exact h.take hn hc
  · exact (h.hof hn o _).votT hn hb hbo
theorem fJ.std0 (hn : n ≤ 7) (h : fJ n σ ld tl cm) {b : Nat} (hb : b < n) (hov : (σ 3 b + nI 1).toInt = fT σ b + 1) : fJ n (fl_std0 σ b) ld tl cm := by
  have hk := fun k h0 h2 h3 h4 h5 => std0_k σ b (k := k) h0 h2 h3 h4 h5
  unfold fJ
  rw [fL_cells (τ := σ) (hk 8 (by decide) (by decide) (by decide) (by decide) (by decide)) (hk 10 (by decide) (by decide) (by decide) (by decide) (by decide)) (hk 11 (by decide) (by decide) (by decide) (by decide) (by decide)), fl_kn_cells (τ := σ) (hk 9 (by decide) (by decide) (by decide) (by decide) (by decide))]
  refine rf_tvr hn h (fun i hi => ?_) (fun i hi => ?_) (fun i hi e => ?_) (fun i hi e => ?_)
  · rw [std0_4, std0_5]
    by_cases e : i = b
    · rw [if_pos e, if_pos e]
      exact ⟨Or.inr (Or.inl rfl), fun _ => by rw [e], Or.inr ⟨b, hb, rfl⟩⟩
    · rw [if_neg e, if_neg e]
      exact h.1 i hi
  · show (σ 3 i).toInt ≤ (fl_std0 σ b 3 i).toInt
    rw [std0_3]
    by_cases e : i = b
    · rw [if_pos e, hov, e]
      unfold fT
      omega
    · rw [if_neg e]
      exact Int.le_refl _
  · change (fl_std0 σ b 3 i).toInt = (σ 3 i).toInt at e
    rw [std0_3] at e
    rw [std0_4]
    by_cases e' : i = b
    · rw [if_pos e', hov, e'] at e
      unfold fT at e
      omega
    · rw [if_neg e']
      exact Or.inl rfl
  · show σ 5 i = nI 2 ∧ (fl_std0 σ b 3 i).toInt = (σ 3 i).toInt
    rw [std0_5] at e
    rw [std0_3]
    by_cases e' : i = b
    · rw [if_pos e'] at e
      exact absurd e nI12
    · rw [if_neg e'] at e ⊢
      exact ⟨e, rfl⟩
/-- the boats up to o that have given their votes -/
def pv (σ : zF) (b o : Nat) : Nat → Bool := fun j => decide ((j < o ∨ j = b) ∧ σ 3 j = σ 3 b ∧ σ 4 j = nI b ∧ (j = b ∨ fl_nw σ b j = true))
theorem fl_ct_pos {p : Nat → Bool} {o : Nat} (h : p o = true) {m : Nat} (hm : o < m) : 1 ≤ fl_ct p m := by
  have := fl_ct_bump (p := fun _ => false) (q := p) (o := o) rfl h m hm (fun i _ _ z => by simp at z)
  omega
theorem fJ_ask (hn : n ≤ 7) {b : Nat} {t0 : Int} (hb : b < n) : ∀ (f o v : Nat) (σ : zF), o + f = n → fJ n σ ld tl cm → (σ 5 b = nI 1 → fT σ b = t0 ∧ v ≤ fl_ct (pv σ b o) n) → fJ n (fl_askL b f o v σ).2 ld tl cm ∧ ((fl_askL b f o v σ).2 5 b = nI 1 → fT (fl_askL b f o v σ).2 b = t0 ∧ (fl_askL b f o v σ).1 ≤ fl_ct (pv (fl_askL b f o v σ).2 b n) n)
  | 0, o, v, σ, hf, h, hv => by
    rw [Nat.add_zero] at hf
    subst hf
    exact ⟨h, hv⟩
  | f + 1, o, v, σ, hf, h, hv => by
    unfold fl_askL
    by_cases h5 : σ 5 b = nI 1
    · rw [if_pos h5]
      obtain ⟨hv1, hv2⟩ := hv h5
      by_cases hc : o ≠ b ∧ fl_hear σ b o = true
      · rw [if_pos hc]
        refine fJ_ask hn hb f (o + 1) _ _ (by omega) (h.votS hn hb hc.1) (fun h5' => ?_)
        by_cases hlt : σ 3 b < σ 3 o
        · rw [fl_votS, if_pos hlt, take_5, if_pos rfl] at h5'
          exact absurd h5' nI01
        · have hB : fl_votB σ b o = fl_vok (fl_hof σ o (σ 3 b)) b o := by simp [fl_votB, hlt]
          have hS : fl_votS σ b o = fl_votT (fl_hof σ o (σ 3 b)) b o := by rw [fl_votS, if_neg hlt]
          have hbo : b ≠ o := fun z => hc.1 z.symm
          rw [hB, hS]
          have e3 : ∀ j, j ≠ o → fl_votT (fl_hof σ o (σ 3 b)) b o 3 j = σ 3 j := fun j hj => by rw [votT_k _ b o (by decide) (by decide), hof_oth σ o _ hj 3 (by decide) (by decide)]
          have e4 : ∀ j, j ≠ o → fl_votT (fl_hof σ o (σ 3 b)) b o 4 j = σ 4 j := fun j hj => by rw [votT_4, if_neg (fun z => hj z.1), hof_oth σ o _ hj 4 (by decide) (by decide)]
          have enw : fl_nw (fl_votT (fl_hof σ o (σ 3 b)) b o) = fl_nw σ := fl_nw_cells (by rw [votT_k _ b o (by decide) (by decide), hof_k σ o _ (by decide) (by decide) (by decide)]) (by rw [votT_k _ b o (by decide) (by decide), hof_k σ o _ (by decide) (by decide) (by decide)])
          have hmono : ∀ j, j < n → j ≠ o → pv σ b o j = true → pv (fl_votT (fl_hof σ o (σ 3 b)) b o) b (o + 1) j = true := fun j _ hj hp => by
            unfold pv at hp ⊢
            rw [decide_eq_true_iff] at hp ⊢
            rw [e3 j hj, e3 b hbo, e4 j hj, enw]
            exact ⟨by omega, hp.2⟩
          have hp0 : pv σ b o o = false := by
            unfold pv
            rw [decide_eq_false_iff_not]
            intro z
            rcases z.1 with q | q
            · omega
            · exact hc.1 q
          refine ⟨by unfold fT; rw [e3 b hbo]; exact hv1, ?_⟩
          by_cases hvk : fl_vok (fl_hof σ o (σ 3 b)) b o = true
          · rw [if_pos hvk]
            have hpo : pv (fl_votT (fl_hof σ o (σ 3 b)) b o) b (o + 1) o = true := by
              unfold pv
              rw [decide_eq_true_iff, e3 b hbo, votT_4, if_pos ⟨rfl, hvk⟩, votT_k _ b o (by decide) (by decide), hof_same σ o _ hlt, enw]
              refine ⟨Or.inl (by omega), rfl, rfl, Or.inr ?_⟩
              unfold fl_vok at hvk
              rw [Bool.and_eq_true] at hvk
              rw [← fl_nw_cells (σ := fl_hof σ o (σ 3 b)) (τ := σ) (hof_k σ o _ (by decide) (by decide) (by decide)) (hof_k σ o _ (by decide) (by decide) (by decide))]
              exact hvk.2
            have := fl_ct_bump hp0 hpo n (by omega) hmono
            omega
          · rw [if_neg hvk]
            have := fl_ct_mono (p := pv σ b o) (q := pv (fl_votT (fl_hof σ o (σ 3 b)) b o) b (o + 1)) n (fun j hj hp => hmono j hj (fun z => by rw [z, hp0] at hp; exact absurd hp (by decide)) hp)
            omega
      · rw [if_neg hc]
        refine fJ_ask hn hb f (o + 1) _ _ (by omega) h (fun _ => ⟨hv1, Nat.le_trans hv2 (fl_ct_mono n fun j _ hp => ?_)⟩)
        unfold pv at hp ⊢
        rw [decide_eq_true_iff] at hp ⊢
        exact ⟨by omega, hp.2⟩
    · rw [if_neg h5]
      exact ⟨h, fun z => absurd z h5⟩
theorem fJ.stand (hn : n ≤ 7) (h : fJ n σ ld tl cm) {b : Nat} (hb : b < n) (hov : (σ 3 b + nI 1).toInt = fT σ b + 1) (h0 : 0 ≤ fT σ b) : ∃ (ld' : Int → Option Nat) (tl' : Int → List rE), fJ n (fl_stand n σ b) ld' tl' cm := by
  have hT1 : fT (fl_std0 σ b) b = fT σ b + 1 := by
    show (fl_std0 σ b 3 b).toInt = _
    rw [std0_3, if_pos rfl]
    exact hov
  have hp1 : pv (fl_std0 σ b) b 0 b = true := by
    unfold pv
    rw [decide_eq_true_iff, std0_4, if_pos rfl]
    exact ⟨Or.inr rfl, rfl, rfl, Or.inl rfl⟩
  obtain ⟨k1, k2⟩ := fJ_ask (ld := ld) (tl := tl) (cm := cm) hn (t0 := fT σ b + 1) hb (n - 0) 0 1 (fl_std0 σ b) (by omega) (h.std0 hn hb hov) (fun _ => ⟨hT1, fl_ct_pos hp1 hb⟩)
  unfold fl_stand fl_ask
  generalize fl_askL b (n - 0) 0 1 (fl_std0 σ b) = r at k1 k2
  unfold fl_stdE
  by_cases hc : r.2 5 b = nI 1 ∧ n / 2 < r.1
  · rw [if_pos hc]
    obtain ⟨c1, c2⟩ := k2 hc.1
    have hld : ld (fT r.2 b) ≠ some b := fun z => by
      have := (h.2.2.1 _ _ z).2.2.1
      omega
    have hk : ∀ k, k ≠ 5 → k ≠ 0 → zU (zU r.2 5 b (nI 2)) 0 3 (r.2 0 3 + nI 1) k = r.2 k := fun k h5 h0 => by rw [zU_ne h0, zU_ne h5]
    have key := rf_lead hn k1 (R' := zU (zU r.2 5 b (nI 2)) 0 3 (r.2 0 3 + nI 1) 5) hb hc.1 (by simp [zU_at]) (fun j hj => by simp [zU_at, hj]) (by omega) hld ⟨pv r.2 b n, by omega, fun j hj hp => by
      unfold pv at hp
      rw [decide_eq_true_iff] at hp
      refine ⟨congrArg Int32.toInt hp.2.1, hp.2.2.1, ?_⟩
      rcases hp.2.2.2 with q | q
      · exact Or.inl q
      · exact Or.inr ((fl_nw_rN _ _ _).mp q)⟩
    obtain ⟨ld', tl', key⟩ := key
    refine ⟨ld', tl', ?_⟩
    unfold fJ
    rw [fL_cells (τ := r.2) (hk 8 (by decide) (by decide)) (hk 10 (by decide) (by decide)) (hk 11 (by decide) (by decide)), fl_kn_cells (τ := r.2) (hk 9 (by decide) (by decide)), fT_cells (τ := r.2) (hk 3 (by decide) (by decide)), hk 4 (by decide) (by decide)]
    exact key
  · rw [if_neg hc]
    exact ⟨ld, tl, k1⟩
theorem fJ.got (hn : n ≤ 7) (h : fJ n σ ld tl cm) (o : Nat) : fJ n (fl_got σ o) ld tl cm := by
  have hk := fun k h2 h5 => got_k σ o (k := k) h2 h5
  unfold fJ
  rw [fL_cells (τ := σ) (hk 8 (by decide) (by decide)) (hk 10 (by decide) (by decide)) (hk 11 (by decide) (by decide)), fl_kn_cells (τ := σ) (hk 9 (by decide) (by decide)), fT_cells (τ := σ) (hk 3 (by decide) (by decide)), hk 4 (by decide) (by decide)]
  refine rf_tvr hn h (fun i hi => ?_) (fun i hi => Int.le_refl _) (fun i hi e => Or.inl rfl) (fun i hi e => ?_)
  · rw [got_5]
    by_cases e : i = o
    · rw [if_pos e]
      exact ⟨Or.inl nI0z, fun z => absurd nI0z z, (h.1 i hi).2.2⟩
    · rw [if_neg e]
      exact h.1 i hi
  · rw [got_5] at e
    by_cases e' : i = o
    · rw [if_pos e'] at e
      exact absurd e nI02
    · rw [if_neg e'] at e
      exact ⟨e, rfl⟩
theorem fL_U8 (σ : zF) (o m : Nat) (hm : m ≤ fl_ln σ o) (h31 : m < 2 ^ 31) : fL (zU σ 8 o (nI m)) o = (fL σ o).take m := by
  unfold fL
  rw [fl_ln_U8 σ o o m h31, if_pos rfl, ← List.map_take, List.take_range, Nat.min_eq_left hm]
  rfl
theorem fL_U8o (σ : zF) (o m : Nat) {j : Nat} (hj : j ≠ o) (h31 : m < 2 ^ 31) : fL (zU σ 8 o (nI m)) j = fL σ j := by
  unfold fL
  rw [fl_ln_U8 σ o j m h31, if_neg hj]
  rfl
theorem fl_app_lnJ (σ : zF) (b : Nat) (x y : Int32) (hb : fl_ln σ b < 10) (j : Nat) : fl_ln (fl_app σ b x y) j = if j = b then fl_ln σ b + 1 else fl_ln σ j := by
  unfold fl_app
  rw [fl_ln_U8 _ b j _ (by omega)]
  rfl
theorem fL_app (σ : zF) (b : Nat) (x y : Int32) (hb : fl_ln σ b < 10) : fL (fl_app σ b x y) b = fL σ b ++ [(x, y)] := by
  unfold fL
  rw [fl_app_lnJ σ b x y hb b, if_pos rfl, List.range_succ, List.map_append, List.map_singleton]
  congr 1
  · apply List.map_congr_left
    intro k hk
    have hk := List.mem_range.mp hk
    have h1 : ¬ k = fl_ln σ b := by omega
    simp [fl_app, zU_at, h1]
  · simp [fl_app, zU_at]
theorem fL_appo (σ : zF) (b : Nat) (x y : Int32) (hb : fl_ln σ b < 10) {j : Nat} (hj : j ≠ b) (hl : fl_ln σ j ≤ 10) : fL (fl_app σ b x y) j = fL σ j := by
  refine fL_ext (by rw [fl_app_lnJ σ b x y hb j, if_neg hj]) (fun k hk => ?_)
  rw [fl_app_lnJ σ b x y hb j, if_neg hj] at hk
  have h1 : ¬ j * 10 + k = b * 10 + fl_ln σ b := by omega
  simp [fl_app, zU_at, h1]
/-- a boat's log behind the teller's visit -/
theorem fL_mend (hI : fl_Iv n σ) {t o : Nat} (ht : t < n) (ho : o < n) : (∀ j, j < n → j ≠ o → fL (fl_mend σ t o) j = fL σ j) ∧ (fL (fl_mend σ t o) o <+: fL σ t ∨ fL (fl_mend σ t o) o <+: fL σ o) ∧ ∀ P, P <+: fL σ t → P <+: fL σ o → P <+: fL (fl_mend σ t o) o := by
  have hm := agr_le σ t o
  have l1 := hI.lnT ht
  have l2 := hI.lnT ho
  unfold fl_mend
  by_cases h1 : fl_agr σ t o < fl_ln σ o
  · rw [if_pos h1]
    refine ⟨fun j _ hj => fL_U8o σ o _ hj (by omega), Or.inr ?_, fun P p1 p2 => ?_⟩
    · rw [fL_U8 σ o _ (by omega) (by omega)]
      exact List.take_prefix _ _
    · rw [fL_U8 σ o _ (by omega) (by omega)]
      have := agr_px p1 p2
      exact px_takeT p2 (by omega)
  · rw [if_neg h1]
    by_cases h2 : fl_agr σ t o < fl_ln σ t
    · rw [if_pos h2]
      have ea : fl_agr σ t o = fl_ln σ o := by omega
      refine ⟨fun j hj hjo => fL_appo σ o _ _ (by omega) hjo (hI.lnT hj), Or.inl ?_, fun P p1 p2 => ?_⟩
      · rw [fL_app σ o _ _ (by omega)]
        have e1 : (fL σ t).take (fl_agr σ t o + 1) = fL σ o ++ [(σ 10 (t * 10 + fl_agr σ t o), σ 11 (t * 10 + fl_agr σ t o))] := by
          rw [List.take_add_one, agr_take (Nat.le_refl _), fL_get σ t h2, ea, ← fL_len σ o, List.take_length]
          rfl
        rw [← e1]
        exact List.take_prefix _ _
      · rw [fL_app σ o _ _ (by omega)]
        exact p2.trans (List.prefix_append _ _)
    · rw [if_neg h2]
      exact ⟨fun _ _ _ => rfl, Or.inr List.prefix_rfl, fun _ _ p2 => p2⟩
theorem rfI_L {T : Nat → Int} {V R : Nat → Int32} {L L' : Nat → List rE} {K : Nat → Nat} (h : rfI n T V R L K ld tl cm) (hL : ∀ i, i < n → L' i = L i) : rfI n T V R L' K ld tl cm := by
  obtain ⟨a1, a2, a3, a4, a5, a6, a7, a8⟩ := h
  refine ⟨a1, fun i hi hr => by rw [hL i hi]; exact a2 i hi hr, a3, a4, fun i hi => by rw [hL i hi]; exact a5 i hi, a6, fun t ht => ?_, fun i hi => by rw [hL i hi]; exact a8 i hi⟩
  obtain ⟨c1, c2, c3, c4⟩ := a7 t ht
  exact ⟨c1, c2, rmj_mono c3 fun o ho q => ⟨q.1, by rw [hL o ho]; exact q.2⟩, c4⟩
theorem fJ.mend (h : fJ n σ ld tl cm) (hI : fl_Iv n σ) {t o : Nat} (ht : t < n) (ho : o < n) (hRt : σ 5 t = nI 2) (hRo : σ 5 o = nI 0) (hTo : σ 3 o = σ 3 t) : fJ n (fl_mend σ t o) ld tl cm := by
  obtain ⟨m1, m2, m3⟩ := fL_mend hI ht ho
  have hk := fun k h8 h10 h11 => mend_k σ o t (k := k) h8 h10 h11
  unfold fJ
  rw [fl_kn_cells (τ := σ) (hk 9 (by decide) (by decide) (by decide)), fT_cells (τ := σ) (hk 3 (by decide) (by decide) (by decide)), hk 4 (by decide) (by decide) (by decide), hk 5 (by decide) (by decide) (by decide)]
  have key := rf_log h (L' := fun j => if j = o then fL (fl_mend σ t o) o else fL σ j) ht ho hRt (by rw [hRo]; exact nI02) (congrArg Int32.toInt hTo) (fun j hj => if_neg hj) (by simp only [if_true]; exact m2) (fun P p1 p2 => by simp only [if_true]; exact m3 P p1 p2)
  refine rfI_L key (fun i hi => ?_)
  by_cases e : i = o
  · rw [e]
    simp
  · simp only [if_neg e]
    exact m1 i hi e
theorem fJ.lose (h : fJ n σ ld tl cm) (c : Bool) : fJ n (fl_lose σ c) ld tl cm := fJ_cells h (lose_k σ (by decide) c) (lose_k σ (by decide) c) (lose_k σ (by decide) c) (lose_k σ (by decide) c) (lose_k σ (by decide) c) (lose_k σ (by decide) c) (lose_k σ (by decide) c)
theorem fJ.lrn (h : fJ n σ ld tl cm) (hI : fl_Iv n σ) {t o : Nat} (ht : t < n) (ho : o < n) (hTo : σ 3 o = σ 3 t) : fJ n (fl_lrn σ t o) ld tl cm := by
  have hk := fun k h9 => lrn_k σ o t (k := k) h9
  have hm := agr_le σ t o
  have k1 := hI.knT ht
  have k2 := hI.knT ho
  unfold fJ
  rw [fL_cells (τ := σ) (hk 8 (by decide)) (hk 10 (by decide)) (hk 11 (by decide)), fT_cells (τ := σ) (hk 3 (by decide)), hk 4 (by decide), hk 5 (by decide)]
  refine rf_know h (b := t) (o := o) (k := min (fl_kn σ t) (fl_agr σ t o)) ht ho ?_ (Nat.min_le_left _ _) (by rw [fL_len]; omega) ?_ ?_ (fun j hj => ?_)
  · unfold fT
    rw [hTo]
    exact Int.le_refl _
  · exact (agr_take (Nat.min_le_right _ _)).symm
  · unfold fl_lrn
    rw [fl_kn_U9 σ o o _ (by omega), if_pos rfl]
  · unfold fl_lrn
    rw [fl_kn_U9 σ o j _ (by omega), if_neg hj]
theorem fJ.tel (hn : n ≤ 7) (h : fJ n σ ld tl cm) (hI : fl_Iv n σ) {t o : Nat} (ht : t < n) (ho : o < n) (hto : o ≠ t) (hRt : σ 5 t = nI 2) : fJ n (fl_tel σ t o) ld tl cm := by
  unfold fl_tel
  by_cases hlt : σ 3 t < σ 3 o
  · rw [if_pos hlt]
    exact h.take hn hlt
  · rw [if_neg hlt]
    have I1 := fl_hof_Iv hI o (σ 3 t)
    have J1 := h.hof hn o (σ 3 t)
    have eT : fl_hof σ o (σ 3 t) 3 o = fl_hof σ o (σ 3 t) 3 t := by rw [hof_same σ o _ hlt, hof_oth σ o _ (fun z => hto z.symm) 3 (by decide) (by decide)]
    have eR : fl_hof σ o (σ 3 t) 5 t = nI 2 := by rw [hof_oth σ o _ (fun z => hto z.symm) 5 (by decide) (by decide)]; exact hRt
    generalize fl_hof σ o (σ 3 t) = σ1 at I1 J1 eT eR
    unfold fl_telT
    have J2 := J1.got hn o
    have I2 := fl_got_Iv I1 o
    have eT2 : fl_got σ1 o 3 o = fl_got σ1 o 3 t := by rw [got_k _ o (by decide) (by decide)]; exact eT
    have eR2 : fl_got σ1 o 5 t = nI 2 := by rw [got_5, if_neg (fun z => hto z.symm)]; exact eR
    have eO2 : fl_got σ1 o 5 o = nI 0 := by rw [got_5, if_pos rfl]
    generalize fl_got σ1 o = σ2 at J2 I2 eT2 eR2 eO2
    have J3 := (J2.mend I2 ht ho eR2 eO2 eT2).lose (fl_cut σ2 t o)
    refine J3.lrn (fl_lose_Iv (fl_mend_Iv I2 ht ho) _) ht ho ?_
    rw [lose_k _ (by decide), mend_k _ o t (by decide) (by decide) (by decide)]
    exact eT2
end KEEP
