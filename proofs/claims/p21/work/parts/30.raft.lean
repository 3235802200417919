/-! The elections are safe. An abstract picture of a fleet: terms T, votes V, roles R, logs L, known K; and what has been: who led in a term (ld), its log (tl), how much of it was committed in it (cm). -/
abbrev rE : Type := Int32 × Int32
def rt (e : rE) : Int := e.1.toInt
def rmj (n : Nat) (P : Nat → Prop) : Prop := ∃ p : Nat → Bool, n / 2 < fl_ct p n ∧ ∀ i, i < n → p i = true → P i
theorem rmj_mono {n : Nat} {P Q : Nat → Prop} (h : rmj n P) (hPQ : ∀ i, i < n → P i → Q i) : rmj n Q := by
  obtain ⟨p, h1, h2⟩ := h
  exact ⟨p, h1, fun i hi hp => hPQ i hi (h2 i hi hp)⟩
theorem fl_ct_two {p q : Nat → Bool} : ∀ n : Nat, (∀ i, i < n → ¬ (p i = true ∧ q i = true)) → fl_ct p n + fl_ct q n ≤ n
  | 0, _ => Nat.le_refl 0
  | n + 1, h => by
    have h1 := fl_ct_two n (fun i hi => h i (by omega))
    have h2 := h n (by omega)
    unfold fl_ct
    by_cases a : p n = true
    · have b : ¬ q n = true := fun b => h2 ⟨a, b⟩
      rw [if_pos a, if_neg b]
      omega
    · rw [if_neg a]
      split <;> omega
theorem rmj_int {n : Nat} {P Q : Nat → Prop} (h1 : rmj n P) (h2 : rmj n Q) : ∃ i, i < n ∧ P i ∧ Q i := by
  obtain ⟨p, a1, a2⟩ := h1
  obtain ⟨q, b1, b2⟩ := h2
  apply Classical.byContradiction
  intro hne
  have := fl_ct_two (p := p) (q := q) n (fun i hi z => hne ⟨i, hi, a2 i hi z.1, b2 i hi z.2⟩)
  omega
theorem fl_ct_mono {p q : Nat → Bool} : ∀ n : Nat, (∀ i, i < n → p i = true → q i = true) → fl_ct p n ≤ fl_ct q n
  | 0, _ => Nat.le_refl 0
  | n + 1, h => by
    have h1 := fl_ct_mono n (fun i hi => h i (by omega))
    have h2 := h n (by omega)
    unfold fl_ct
    by_cases a : p n = true
    · rw [if_pos a, if_pos (h2 a)]
      omega
    · rw [if_neg a]
      split <;> omega
theorem fl_ct_bump {p q : Nat → Bool} {o : Nat} (hp : p o = false) (hq : q o = true) : ∀ n : Nat, o < n → (∀ i, i < n → i ≠ o → p i = true → q i = true) → fl_ct p n + 1 ≤ fl_ct q n
  | 0, h, _ => absurd h (Nat.not_lt_zero o)
  | n + 1, h, hh => by
    unfold fl_ct
    by_cases e : o = n
    · subst e
      have h1 := fl_ct_mono o (fun i hi => hh i (by omega) (by omega))
      rw [if_neg (by rw [hp]; decide), if_pos hq]
      omega
    · have h1 := fl_ct_bump hp hq n (by omega) (fun i hi => hh i (by omega))
      by_cases a : p n = true
      · rw [if_pos a, if_pos (hh n (by omega) (fun z => e z.symm) a)]
        omega
      · rw [if_neg a]
        split <;> omega
def rW (ld : Int → Option Nat) (tl : Int → List rE) (l : List rE) : Prop := ∀ (k : Nat) (e : rE), l[k]? = some e → ld (rt e) ≠ none ∧ l.take (k + 1) <+: tl (rt e)
def rM (l : List rE) : Prop := ∀ (i j : Nat) (e f : rE), i ≤ j → l[i]? = some e → l[j]? = some f → rt e ≤ rt f
def rB (l : List rE) (t : Int) : Prop := ∀ (k : Nat) (e : rE), l[k]? = some e → rt e ≤ t
theorem px_get {l' l : List rE} (h : l' <+: l) {k : Nat} {e : rE} (hk : l'[k]? = some e) : l[k]? = some e := by
  obtain ⟨s, rfl⟩ := h
  rw [List.getElem?_append_left (List.getElem?_eq_some_iff.mp hk).1]
  exact hk
theorem px_back {l' l : List rE} (h : l' <+: l) {k : Nat} {e : rE} (hk : l[k]? = some e) (hl : k < l'.length) : l'[k]? = some e := by
  obtain ⟨s, rfl⟩ := h
  rwa [List.getElem?_append_left hl] at hk
theorem px_le {a b l : List rE} (ha : a <+: l) (hb : b <+: l) (h : a.length ≤ b.length) : a <+: b := List.prefix_of_prefix_length_le ha hb h
theorem px_take {l' l : List rE} (hp : l' <+: l) (k : Nat) : l'.take k <+: l.take k := px_le ((List.take_prefix k l').trans hp) (List.take_prefix k l) (by
  have := hp.length_le
  simp only [List.length_take]
  omega)
theorem px_takeT {a l : List rE} (h : a <+: l) {k : Nat} (hk : a.length ≤ k) : a <+: l.take k := px_le h (List.take_prefix k l) (by
  have := h.length_le
  simp only [List.length_take]
  omega)
theorem px_tt (l : List rE) {i j : Nat} (h : i ≤ j) : l.take i <+: l.take j := px_takeT (List.take_prefix i l) (by simp only [List.length_take]; omega)
theorem px_len {l : List rE} {k : Nat} (h : k ≤ l.length) : (l.take k).length = k := by
  simp only [List.length_take]
  omega
theorem rW.px {ld : Int → Option Nat} {tl : Int → List rE} {l' l : List rE} (h : rW ld tl l) (hp : l' <+: l) : rW ld tl l' := fun k e hk => by
  obtain ⟨h1, h2⟩ := h k e (px_get hp hk)
  exact ⟨h1, (px_take hp (k + 1)).trans h2⟩
theorem rM.px {l' l : List rE} (h : rM l) (hp : l' <+: l) : rM l' := fun i j e f hij hi hj => h i j e f hij (px_get hp hi) (px_get hp hj)
theorem rB.px {l' l : List rE} {t : Int} (h : rB l t) (hp : l' <+: l) : rB l' t := fun k e hk => h k e (px_get hp hk)
theorem get_last {l : List rE} (h : 0 < l.length) : ∃ e, l[l.length - 1]? = some e := ⟨l[l.length - 1], List.getElem?_eq_getElem (by omega)⟩
/-- the term of the last entry, -1 without one -/
def rl (l : List rE) : Int := match l[l.length - 1]? with
  | none => -1
  | some e => rt e
def rN (l l' : List rE) : Prop := rl l' < rl l ∨ (rl l' = rl l ∧ l'.length ≤ l.length)
theorem rl_some {l : List rE} {e : rE} (h : l[l.length - 1]? = some e) : rl l = rt e := by
  unfold rl
  rw [h]
theorem rl_none {l : List rE} (h : l.length = 0) : rl l = -1 := by
  unfold rl
  rw [List.getElem?_eq_none (by omega)]
/-- a log that is as new as one that has what was committed has it too -/
theorem rf_core {ld : Int → Option Nat} {tl : Int → List rE} {P Lb Lo : List rE} {t0 : Int} {e0 : rE} (hWb : rW ld tl Lb) (hMo : rM Lo) (hBt : rB (tl t0) t0) (hP : P <+: tl t0) (hPl : 0 < P.length) (he0 : P[P.length - 1]? = some e0) (hte : rt e0 = t0) (ht0 : 0 ≤ t0) (hPo : P <+: Lo) (hlater : ∀ t', t0 < t' → ld t' ≠ none → P <+: tl t') (hN : rN Lb Lo) : P <+: Lb := by
  have hlP := hPo.length_le
  obtain ⟨lo, hlo⟩ := get_last (l := Lo) (by omega)
  have g1 : t0 ≤ rt lo := by rw [← hte]; exact hMo _ _ _ _ (by omega) (px_get hPo he0) hlo
  have g2 := rl_some hlo
  have hLb : 0 < Lb.length := by
    apply Nat.pos_of_ne_zero
    intro z
    have g3 := rl_none z
    rcases hN with h | h
    · omega
    · have := h.1
      omega
  obtain ⟨eb, heb⟩ := get_last hLb
  have g4 := rl_some heb
  obtain ⟨h1, h2⟩ := hWb _ _ heb
  rw [show Lb.length - 1 + 1 = Lb.length by omega, List.take_length] at h2
  rcases Int.lt_trichotomy t0 (rt eb) with q | q | q
  · have h3 := hlater _ q h1
    by_cases hl : P.length ≤ Lb.length
    · exact px_le h3 h2 hl
    · have h4 : Lb <+: P := px_le h2 h3 (by omega)
      have h5 := hBt _ _ (px_get hP (px_get h4 heb))
      omega
  · rw [← q] at h2
    have hl : Lo.length ≤ Lb.length := by
      rcases hN with h | h
      · omega
      · exact h.2
    exact px_le hP h2 (by omega)
  · exfalso
    rcases hN with h | h
    · omega
    · have := h.1
      omega
theorem nIm1 : ∀ b, b < 8 → ¬ (-1 : Int32) = nI b := by decide +kernel
theorem nI_inj8 {a b : Nat} (ha : a < 8) (hb : b < 8) (h : nI a = nI b) : a = b := (nI_eq (by omega) (by omega)).mp h
def rfI (n : Nat) (T : Nat → Int) (V R : Nat → Int32) (L : Nat → List rE) (K : Nat → Nat) (ld : Int → Option Nat) (tl : Int → List rE) (cm : Int → Nat) : Prop :=
  (∀ i, i < n → (R i = 0 ∨ R i = nI 1 ∨ R i = nI 2) ∧ (R i ≠ 0 → V i = nI i) ∧ (V i = -1 ∨ ∃ j, j < n ∧ V i = nI j)) ∧
  (∀ i, i < n → R i = nI 2 → ld (T i) = some i ∧ L i = tl (T i)) ∧
  (∀ t b, ld t = some b → b < n ∧ 0 ≤ t ∧ t ≤ T b ∧ rmj n (fun o => t < T o ∨ (T o = t ∧ V o = nI b))) ∧
  (∀ t, ld t = none → tl t = [] ∧ cm t = 0) ∧
  (∀ i, i < n → rW ld tl (L i) ∧ rM (L i) ∧ rB (L i) (T i)) ∧
  (∀ t, rW ld tl (tl t) ∧ rM (tl t) ∧ rB (tl t) t) ∧
  (∀ t, 0 < cm t → cm t ≤ (tl t).length ∧ (∃ e, (tl t)[cm t - 1]? = some e ∧ rt e = t) ∧ rmj n (fun o => t ≤ T o ∧ (tl t).take (cm t) <+: L o) ∧ ∀ t', t < t' → ld t' ≠ none → (tl t).take (cm t) <+: tl t') ∧
  (∀ i, i < n → K i ≤ (L i).length ∧ (0 < K i → ∃ t, t ≤ T i ∧ K i ≤ cm t ∧ (L i).take (K i) <+: tl t))
section RFI
variable {n : Nat} {T T' : Nat → Int} {V R V' R' : Nat → Int32} {L L' : Nat → List rE} {K K' : Nat → Nat} {ld : Int → Option Nat} {tl : Int → List rE} {cm : Int → Nat}
/-- terms that grow, votes that are given, boats that follow -/
theorem rf_tvr (hn : n ≤ 7) (h : rfI n T V R L K ld tl cm) (h1 : ∀ i, i < n → (R' i = 0 ∨ R' i = nI 1 ∨ R' i = nI 2) ∧ (R' i ≠ 0 → V' i = nI i) ∧ (V' i = -1 ∨ ∃ j, j < n ∧ V' i = nI j)) (hT : ∀ i, i < n → T i ≤ T' i) (hV : ∀ i, i < n → T' i = T i → V' i = V i ∨ V i = -1) (hR : ∀ i, i < n → R' i = nI 2 → R i = nI 2 ∧ T' i = T i) : rfI n T' V' R' L K ld tl cm := by
  obtain ⟨a1, a2, a3, a4, a5, a6, a7, a8⟩ := h
  refine ⟨h1, fun i hi hr => ?_, fun t b hb => ?_, a4, fun i hi => ⟨(a5 i hi).1, (a5 i hi).2.1, fun k e hk => Int.le_trans ((a5 i hi).2.2 k e hk) (hT i hi)⟩, a6, fun t ht => ?_, fun i hi => ⟨(a8 i hi).1, fun hk => ?_⟩⟩
  · obtain ⟨r1, r2⟩ := hR i hi hr
    rw [r2]
    exact a2 i hi r1
  · obtain ⟨b1, b2, b3, b4⟩ := a3 t b hb
    refine ⟨b1, b2, Int.le_trans b3 (hT b b1), rmj_mono b4 fun o ho hh => ?_⟩
    have hto := hT o ho
    rcases hh with hh | ⟨q1, q2⟩
    · exact Or.inl (by omega)
    · by_cases e : T' o = T o
      · rcases hV o ho e with z | z
        · exact Or.inr ⟨by rw [e]; exact q1, by rw [z]; exact q2⟩
        · exact absurd (z.symm.trans q2) (nIm1 b (by omega))
      · exact Or.inl (by omega)
  · obtain ⟨c1, c2, c3, c4⟩ := a7 t ht
    exact ⟨c1, c2, rmj_mono c3 fun o ho hh => ⟨Int.le_trans hh.1 (hT o ho), hh.2⟩, c4⟩
  · obtain ⟨t, c1, c2, c3⟩ := (a8 i hi).2 hk
    exact ⟨t, Int.le_trans c1 (hT i hi), c2, c3⟩
/-- a boat that has the votes leads -/
theorem rf_lead (hn : n ≤ 7) (h : rfI n T V R L K ld tl cm) {b : Nat} (hb : b < n) (hb1 : R b = nI 1) (hbR : R' b = nI 2) (hR : ∀ j, j ≠ b → R' j = R j) (hT0 : 0 ≤ T b) (hld : ld (T b) ≠ some b) (hm : rmj n (fun o => T o = T b ∧ V o = nI b ∧ (o = b ∨ rN (L b) (L o)))) : ∃ (ld' : Int → Option Nat) (tl' : Int → List rE), rfI n T V R' L K ld' tl' cm := by
  obtain ⟨a1, a2, a3, a4, a5, a6, a7, a8⟩ := h
  have hnone : ld (T b) = none := by
    cases hc : ld (T b) with
    | none => rfl
    | some c =>
      exfalso
      obtain ⟨b1, b2, b3, b4⟩ := a3 _ _ hc
      obtain ⟨o, ho, q1, q2⟩ := rmj_int hm b4
      rcases q2 with q2 | q2
      · have := q1.1
        omega
      · have := nI_inj8 (by omega) (by omega) (q1.2.1.symm.trans q2.2)
        subst this
        exact hld hc
  obtain ⟨e1, e2⟩ := a4 _ hnone
  have ne : ∀ {t : Int}, ld t ≠ none → t ≠ T b := fun hq z => hq (by rw [z]; exact hnone)
  have hvb : V b = nI b := (a1 b hb).2.1 (by rw [hb1]; decide)
  refine ⟨fun t => if t = T b then some b else ld t, fun t => if t = T b then L b else tl t, ?_⟩
  have hW : ∀ l, rW ld tl l → rW (fun t => if t = T b then some b else ld t) (fun t => if t = T b then L b else tl t) l := fun l hl k e hk => by
    obtain ⟨q1, q2⟩ := hl k e hk
    simp only [if_neg (ne q1)]
    exact ⟨q1, q2⟩
  have hcm : ∀ t, 0 < cm t → t ≠ T b := fun t ht z => by rw [z] at ht; omega
  refine ⟨fun i hi => ?_, fun i hi hr => ?_, fun t c hc => ?_, fun t ht => ?_, fun i hi => ⟨hW _ (a5 i hi).1, (a5 i hi).2⟩, fun t => ?_, fun t ht => ?_, fun i hi => ⟨(a8 i hi).1, fun hk => ?_⟩⟩
  · by_cases e : i = b
    · subst e
      exact ⟨Or.inr (Or.inr hbR), fun _ => hvb, (a1 i hi).2.2⟩
    · rw [hR i e]
      exact a1 i hi
  · by_cases e : i = b
    · subst e
      exact ⟨if_pos rfl, (if_pos rfl).symm⟩
    · rw [hR i e] at hr
      obtain ⟨q1, q2⟩ := a2 i hi hr
      have : T i ≠ T b := ne (by rw [q1]; exact Option.some_ne_none i)
      exact ⟨(if_neg this).trans q1, q2.trans (if_neg this).symm⟩
  · by_cases e : t = T b
    · subst e
      have hcb : b = c := by simpa using hc
      subst hcb
      exact ⟨hb, hT0, Int.le_refl _, rmj_mono hm fun o ho q => Or.inr ⟨q.1, q.2.1⟩⟩
    · exact a3 t c (by simpa [e] using hc)
  · by_cases e : t = T b
    · subst e
      simp at ht
    · simp only [if_neg e] at ht ⊢
      exact a4 t ht
  · by_cases e : t = T b
    · subst e
      simp only [if_true]
      exact ⟨hW _ (a5 b hb).1, (a5 b hb).2⟩
    · simp only [if_neg e]
      exact ⟨hW _ (a6 t).1, (a6 t).2⟩
  · have e := hcm t ht
    simp only [if_neg e]
    obtain ⟨c1, ⟨e0, c2, c2'⟩, c3, c4⟩ := a7 t ht
    refine ⟨c1, ⟨e0, c2, c2'⟩, c3, fun t' ht' hl => ?_⟩
    by_cases e' : t' = T b
    · subst e'
      simp only [if_true]
      obtain ⟨o, ho, ⟨q1, q2, q3⟩, p1, p2⟩ := rmj_int hm c3
      have hlt : ld t ≠ none := fun z => by have := (a4 t z).2; omega
      cases hlt2 : ld t with
      | none => exact absurd hlt2 hlt
      | some c =>
        rcases q3 with q3 | q3
        · rw [q3] at p2
          exact p2
        · have hl2 := px_len c1
          exact rf_core (a5 b hb).1 (a5 o ho).2.1 (a6 t).2.2 (List.take_prefix _ _) (by omega) (by rw [hl2]; exact px_back (List.take_prefix _ _) c2 (by omega)) c2' (a3 t c hlt2).2.1 p2 c4 q3
    · simp only [if_neg e'] at hl ⊢
      exact c4 t' ht' hl
  · obtain ⟨t, c1, c2, c3⟩ := (a8 i hi).2 hk
    refine ⟨t, c1, c2, ?_⟩
    simp only [if_neg (hcm t (by omega))]
    exact c3
/-- a boat that is told gets an entry, or loses one -/
theorem rf_log (h : rfI n T V R L K ld tl cm) {b o : Nat} (hb : b < n) (ho : o < n) (hRb : R b = nI 2) (hRo : R o ≠ nI 2) (hTo : T o = T b) (hL : ∀ j, j ≠ o → L' j = L j) (hpre : L' o <+: L b ∨ L' o <+: L o) (hP : ∀ P, P <+: L b → P <+: L o → P <+: L' o) : rfI n T V R L' K ld tl cm := by
  obtain ⟨a1, a2, a3, a4, a5, a6, a7, a8⟩ := h
  obtain ⟨l1, l2⟩ := a2 b hb hRb
  have hcmb : ∀ t, 0 < cm t → t ≤ T b → (tl t).take (cm t) <+: L b := fun t ht hle => by
    rw [l2]
    rcases Int.lt_or_eq_of_le hle with q | q
    · exact (a7 t ht).2.2.2 _ q (by rw [l1]; exact Option.some_ne_none b)
    · rw [q]
      exact List.take_prefix _ _
  have bo : b ≠ o := fun z => hRo (z ▸ hRb)
  refine ⟨a1, fun i hi hr => ?_, a3, a4, fun i hi => ?_, a6, fun t ht => ?_, fun i hi => ?_⟩
  · rw [hL i (fun z => hRo (z ▸ hr))]
    exact a2 i hi hr
  · by_cases e : i = o
    · subst e
      rcases hpre with q | q
      · obtain ⟨w1, w2, w3⟩ := a5 b hb
        exact ⟨w1.px q, w2.px q, by rw [hTo]; exact w3.px q⟩
      · obtain ⟨w1, w2, w3⟩ := a5 i hi
        exact ⟨w1.px q, w2.px q, w3.px q⟩
    · rw [hL i e]
      exact a5 i hi
  · obtain ⟨c1, c2, c3, c4⟩ := a7 t ht
    refine ⟨c1, c2, rmj_mono c3 fun i hi q => ⟨q.1, ?_⟩, c4⟩
    by_cases e : i = o
    · subst e
      exact hP _ (hcmb t ht (by rw [← hTo]; exact q.1)) q.2
    · rw [hL i e]
      exact q.2
  · by_cases e : i = o
    · subst e
      obtain ⟨k1, k2⟩ := a8 i hi
      by_cases hk : 0 < K i
      · obtain ⟨t, c1, c2, c3⟩ := k2 hk
        have hl := px_len k1
        have p1 : (L i).take (K i) <+: (tl t).take (cm t) := px_takeT c3 (by omega)
        have p2 : (L i).take (K i) <+: L' i := hP _ (p1.trans (hcmb t (by omega) (by rw [← hTo]; exact c1))) (List.take_prefix _ _)
        have p3 := p2.length_le
        refine ⟨by omega, fun _ => ⟨t, c1, c2, ?_⟩⟩
        have p4 : (L' i).take (K i) <+: (L i).take (K i) := px_le (List.take_prefix _ _) p2 (by simp only [List.length_take]; omega)
        exact p4.trans c3
      · exact ⟨by omega, fun z => absurd z hk⟩
    · rw [hL i e]
      exact a8 i hi
/-- a boat hears what is committed -/
theorem rf_know (h : rfI n T V R L K ld tl cm) {b o k : Nat} (hb : b < n) (ho : o < n) (hTo : T b ≤ T o) (hk : k ≤ K b) (hkl : k ≤ (L o).length) (hkt : (L o).take k = (L b).take k) (hKo : K' o = max (K o) k) (hK : ∀ j, j ≠ o → K' j = K j) : rfI n T V R L K' ld tl cm := by
  obtain ⟨a1, a2, a3, a4, a5, a6, a7, a8⟩ := h
  refine ⟨a1, a2, a3, a4, a5, a6, a7, fun i hi => ?_⟩
  by_cases e : i = o
  · subst e
    obtain ⟨k1, k2⟩ := a8 i hi
    rw [hKo]
    by_cases hle : k ≤ K i
    · rw [Nat.max_eq_left hle]
      exact ⟨k1, k2⟩
    · rw [Nat.max_eq_right (by omega)]
      refine ⟨hkl, fun h0 => ?_⟩
      obtain ⟨t, c1, c2, c3⟩ := (a8 b hb).2 (by omega)
      refine ⟨t, by omega, by omega, ?_⟩
      rw [hkt]
      exact (px_tt _ hk).trans c3
  · rw [hK i e]
    exact a8 i hi
/-- a boat that leads knows more to be committed -/
theorem rf_com (h : rfI n T V R L K ld tl cm) {b k : Nat} {e : rE} (hb : b < n) (hRb : R b = nI 2) (h0 : 0 < k) (hk : k ≤ (L b).length) (he : (L b)[k - 1]? = some e) (hte : rt e = T b) (hm : rmj n (fun o => T o = T b ∧ (L b).take k <+: L o)) (hKb : K' b = k) (hK : ∀ j, j ≠ b → K' j = K j) : ∃ cm' : Int → Nat, rfI n T V R L K' ld tl cm' := by
  obtain ⟨a1, a2, a3, a4, a5, a6, a7, a8⟩ := h
  obtain ⟨l1, l2⟩ := a2 b hb hRb
  rw [l2] at hk he hm
  have hge : ∀ t, cm t ≤ (if t = T b then max (cm t) k else cm t) := fun t => by split <;> omega
  refine ⟨fun t => if t = T b then max (cm t) k else cm t, a1, a2, a3, fun t ht => ⟨(a4 t ht).1, ?_⟩, a5, a6, fun t ht => ?_, fun i hi => ?_⟩
  · have : t ≠ T b := fun z => by rw [z, l1] at ht; exact absurd ht (Option.some_ne_none b)
    simp only [if_neg this]
    exact (a4 t ht).2
  · by_cases e1 : t = T b
    · subst e1
      simp only [if_true] at ht ⊢
      by_cases hle : k ≤ cm (T b)
      · rw [Nat.max_eq_left hle]
        exact a7 _ (by omega)
      · rw [Nat.max_eq_right (by omega)]
        refine ⟨hk, ⟨e, he, hte⟩, rmj_mono hm fun o ho q => ⟨by rw [q.1]; exact Int.le_refl _, q.2⟩, fun t' ht' hl => ?_⟩
        exfalso
        cases hc : ld t' with
        | none => exact hl hc
        | some c =>
          obtain ⟨b1, b2, b3, b4⟩ := a3 _ _ hc
          obtain ⟨o, ho, q1, q2⟩ := rmj_int hm b4
          have := q1.1
          rcases q2 with q2 | q2
          · omega
          · have := q2.1
            omega
    · simp only [if_neg e1] at ht ⊢
      exact a7 t ht
  · by_cases e1 : i = b
    · subst e1
      rw [hKb, l2]
      exact ⟨hk, fun _ => ⟨T i, Int.le_refl _, by simp only [if_true]; omega, List.take_prefix _ _⟩⟩
    · rw [hK i e1]
      refine ⟨(a8 i hi).1, fun hp => ?_⟩
      obtain ⟨t, c1, c2, c3⟩ := (a8 i hi).2 hp
      exact ⟨t, c1, Nat.le_trans c2 (hge t), c3⟩
/-- a boat that leads writes -/
theorem rf_write (h : rfI n T V R L K ld tl cm) {b : Nat} {e : rE} (hb : b < n) (hRb : R b = nI 2) (hte : rt e = T b) (hLb : L' b = L b ++ [e]) (hL : ∀ j, j ≠ b → L' j = L j) : ∃ tl' : Int → List rE, rfI n T V R L' K ld tl' cm := by
  obtain ⟨a1, a2, a3, a4, a5, a6, a7, a8⟩ := h
  obtain ⟨l1, l2⟩ := a2 b hb hRb
  have hpx : ∀ t, tl t <+: (if t = T b then L b ++ [e] else tl t) := fun t => by
    by_cases e1 : t = T b
    · rw [if_pos e1, l2, e1]
      exact List.prefix_append _ _
    · rw [if_neg e1]
      exact List.prefix_rfl
  have hW : ∀ l, rW ld tl l → rW ld (fun t => if t = T b then L b ++ [e] else tl t) l := fun l hl k f hk => ⟨(hl k f hk).1, (hl k f hk).2.trans (hpx _)⟩
  have hnew : rW ld (fun t => if t = T b then L b ++ [e] else tl t) (L b ++ [e]) ∧ rM (L b ++ [e]) ∧ rB (L b ++ [e]) (T b) := by
    obtain ⟨w1, w2, w3⟩ := a5 b hb
    have hcase : ∀ (k : Nat) (f : rE), (L b ++ [e])[k]? = some f → (L b)[k]? = some f ∨ (k = (L b).length ∧ f = e) := fun k f hk => by
      by_cases hl : k < (L b).length
      · rw [List.getElem?_append_left hl] at hk
        exact Or.inl hk
      · have hlt := (List.getElem?_eq_some_iff.mp hk).1
        rw [List.length_append, List.length_singleton] at hlt
        have hkk : k = (L b).length := by omega
        rw [hkk, List.getElem?_append_right (Nat.le_refl _), Nat.sub_self] at hk
        exact Or.inr ⟨hkk, (by simpa using hk.symm)⟩
    refine ⟨fun k f hk => ?_, fun i j f g hij hi hj => ?_, fun k f hk => ?_⟩
    · rcases hcase k f hk with q | ⟨q1, q2⟩
      · have hl := (List.getElem?_eq_some_iff.mp q).1
        rw [List.take_append_of_le_length (by omega)]
        exact hW _ w1 k f q
      · rw [q2, hte]
        simp only [if_true]
        exact ⟨by rw [l1]; exact Option.some_ne_none b, List.take_prefix _ _⟩
    · rcases hcase j g hj with q | ⟨q1, q2⟩
      · rcases hcase i f hi with p | ⟨p1, p2⟩
        · exact w2 i j f g hij p q
        · have hl := (List.getElem?_eq_some_iff.mp q).1
          omega
      · rw [q2, hte]
        rcases hcase i f hi with p | ⟨p1, p2⟩
        · exact w3 i f p
        · rw [p2, hte]
          exact Int.le_refl _
    · rcases hcase k f hk with q | ⟨q1, q2⟩
      · exact w3 k f q
      · rw [q2, hte]
        exact Int.le_refl _
  have hLp : ∀ i, L i <+: L' i := fun i => by
    by_cases e1 : i = b
    · rw [e1, hLb]
      exact List.prefix_append _ _
    · rw [hL i e1]
      exact List.prefix_rfl
  have htk : ∀ t, 0 < cm t → (if t = T b then L b ++ [e] else tl t).take (cm t) = (tl t).take (cm t) := fun t ht => by
    have hl := (a7 t ht).1
    by_cases e1 : t = T b
    · rw [if_pos e1]
      rw [e1] at hl ⊢
      rw [← l2] at hl ⊢
      exact List.take_append_of_le_length hl
    · rw [if_neg e1]
  refine ⟨fun t => if t = T b then L b ++ [e] else tl t, a1, fun i hi hr => ?_, a3, fun t ht => ?_, fun i hi => ?_, fun t => ?_, fun t ht => ?_, fun i hi => ?_⟩
  · obtain ⟨q1, q2⟩ := a2 i hi hr
    refine ⟨q1, ?_⟩
    by_cases e1 : i = b
    · subst e1
      rw [hLb]
      simp only [if_true]
    · have : T i ≠ T b := fun z => by
        rw [z, l1] at q1
        exact e1 (Option.some.inj q1).symm
      rw [hL i e1]
      simp only [if_neg this]
      exact q2
  · have : t ≠ T b := fun z => by rw [z, l1] at ht; exact absurd ht (Option.some_ne_none b)
    simp only [if_neg this]
    exact a4 t ht
  · by_cases e1 : i = b
    · subst e1
      rw [hLb]
      exact hnew
    · rw [hL i e1]
      exact ⟨hW _ (a5 i hi).1, (a5 i hi).2⟩
  · by_cases e1 : t = T b
    · subst e1
      simp only [if_true]
      exact hnew
    · simp only [if_neg e1]
      exact ⟨hW _ (a6 t).1, (a6 t).2⟩
  · obtain ⟨c1, ⟨e0, c2, c2'⟩, c3, c4⟩ := a7 t ht
    simp only [htk t ht]
    exact ⟨Nat.le_trans c1 (hpx t).length_le, ⟨e0, px_get (hpx t) c2, c2'⟩, rmj_mono c3 fun o ho q => ⟨q.1, q.2.trans (hLp o)⟩, fun t' ht' hl => (c4 t' ht' hl).trans (hpx t')⟩
  · obtain ⟨k1, k2⟩ := a8 i hi
    refine ⟨Nat.le_trans k1 (hLp i).length_le, fun hk => ?_⟩
    obtain ⟨t, c1, c2, c3⟩ := k2 hk
    refine ⟨t, c1, c2, ?_⟩
    have p : (L' i).take (K i) <+: (L i).take (K i) := by
      obtain ⟨s, hs⟩ := hLp i
      rw [← hs, List.take_append_of_le_length k1]
      exact List.prefix_rfl
    exact (p.trans c3).trans (hpx t)
/-- a boat is raised -/
theorem rf_raise (h : rfI n T V R L K ld tl cm) {b : Nat} (hRb : R' b = 0) (hKb : K' b = 0) (hR : ∀ j, j ≠ b → R' j = R j) (hK : ∀ j, j ≠ b → K' j = K j) : rfI n T V R' L K' ld tl cm := by
  obtain ⟨a1, a2, a3, a4, a5, a6, a7, a8⟩ := h
  refine ⟨fun i hi => ?_, fun i hi hr => ?_, a3, a4, a5, a6, a7, fun i hi => ?_⟩
  · by_cases e : i = b
    · subst e
      exact ⟨Or.inl hRb, fun z => absurd hRb z, (a1 i hi).2.2⟩
    · rw [hR i e]
      exact a1 i hi
  · by_cases e : i = b
    · subst e
      rw [hRb] at hr
      exact absurd hr (by decide)
    · rw [hR i e] at hr
      exact a2 i hi hr
  · by_cases e : i = b
    · subst e
      rw [hKb]
      exact ⟨Nat.zero_le _, fun z => absurd z (Nat.lt_irrefl 0)⟩
    · rw [hK i e]
      exact a8 i hi
/-! what follows for any two boats -/
theorem rf_one (h : rfI n T V R L K ld tl cm) {a b : Nat} (ha : a < n) (hb : b < n) (hRa : R a = nI 2) (hRb : R b = nI 2) (ht : T a = T b) : a = b := by
  have h1 := (h.2.1 a ha hRa).1
  have h2 := (h.2.1 b hb hRb).1
  rw [ht, h2] at h1
  exact (Option.some.inj h1).symm
theorem rf_same (h : rfI n T V R L K ld tl cm) {a b k : Nat} {e f : rE} (ha : a < n) (hb : b < n) (he : (L a)[k]? = some e) (hf : (L b)[k]? = some f) (ht : rt e = rt f) : (L a).take (k + 1) = (L b).take (k + 1) := by
  have h1 := ((h.2.2.2.2.1 a ha).1 k e he).2
  have h2 := ((h.2.2.2.2.1 b hb).1 k f hf).2
  rw [ht] at h1
  have l1 := (List.getElem?_eq_some_iff.mp he).1
  have l2 := (List.getElem?_eq_some_iff.mp hf).1
  have e1 : ((L a).take (k + 1)).length = k + 1 := px_len (by omega)
  have e2 : ((L b).take (k + 1)).length = k + 1 := px_len (by omega)
  exact (px_le h1 h2 (by omega)).eq_of_length (by omega)
theorem rf_kn (h : rfI n T V R L K ld tl cm) {a b : Nat} (ha : a < n) (hb : b < n) (hab : K a ≤ K b) : (L a).take (K a) <+: L b := by
  obtain ⟨a1, a2, a3, a4, a5, a6, a7, a8⟩ := h
  obtain ⟨k1, k2⟩ := a8 a ha
  obtain ⟨m1, m2⟩ := a8 b hb
  by_cases h0 : 0 < K a
  · obtain ⟨t, c1, c2, c3⟩ := k2 h0
    obtain ⟨u, d1, d2, d3⟩ := m2 (by omega)
    have la := px_len k1
    have lb := px_len m1
    have p1 : (L a).take (K a) <+: (tl t).take (cm t) := px_takeT c3 (by omega)
    have p2 : (L b).take (K b) <+: (tl u).take (cm u) := px_takeT d3 (by omega)
    have key : (L a).take (K a) <+: (L b).take (K b) := by
      rcases Int.lt_trichotomy t u with q | q | q
      · have := (a7 t (by omega)).2.2.2 u q (fun z => by have := (a4 u z).2; omega)
        exact px_le (p1.trans this) d3 (by omega)
      · subst q
        exact px_le c3 d3 (by omega)
      · have := (a7 u (by omega)).2.2.2 t q (fun z => by have := (a4 t z).2; omega)
        exact px_le c3 (p2.trans this) (by omega)
    exact key.trans (List.take_prefix _ _)
  · rw [show K a = 0 by omega, List.take_zero]
    exact List.nil_prefix
end RFI
