/-! the fleet by hand: what it counts, and whether it is told alike -/
theorem fl_dceqT : ∀ v, v < 71 → ∀ k, k < 8 → 3 ≤ k → Op.cmpValue (FP.dcmp (FP.ddiv (FP.i2d (nI v)) (FP.i2d (nI k))) (FP.ddiv (FP.i2d (nI v)) (FP.i2d (nI k)))) .l = 0 := by decide +kernel
theorem fl_dceq {n : Nat} {σ : zF} (h : fl_Iv n σ) : Op.cmpValue (FP.dcmp (FP.ddiv (FP.i2d (nI (fl_sm (fl_kn σ) n))) (FP.i2d (nI n))) (FP.ddiv (FP.i2d (nI (fl_sm (fl_kn σ) n))) (FP.i2d (nI n)))) .l = 0 := fl_dceqT _ (by
  have h1 := fl_sm_le (f := fl_kn σ) (fun i hi => h.knT hi) n (Nat.le_refl n)
  have h7 := h.n7
  omega) n (by have := h.n7; omega) h.n3
section ZROWS5
variable {p : Program} {l : Launch} {e : Env} {R : Room} {s : State} {m : MethodId} {args : Array Value} {below : List Frame} {meth : Method} {c : Code} {D : va_G} {tys : List (ClassId × FieldType)} {A : Nat → Prop} {own : String} {cc : ByteArray} {nL : Nat} {Q : State → Prop} {cells slots pc : Nat} {L L' : List (Nat × Value)} {st st' rest : List Value} {B B' : List zB}
theorem z_sel0 (C : zX p s m args meth c D tys A own cc nL) {x : Int32} {off1 off2 : Int} {t1 t2 : Nat} (d1 : decode cc pc = .ok (.ifCond .eq off1, 3)) (h1 : (pc : Int) + off1 = (t1 : Int)) (d2 : decode cc (pc + 3) = .ok (.iconst 1, 1)) (d3 : decode cc (pc + 3 + 1) = .ok (.goto off2, 3)) (h2 : ((pc + 3 + 1 : Nat) : Int) + off2 = (t2 : Int)) (d4 : decode cc t1 = .ok (.iconst 0, 1)) (h3 : t1 + 1 = t2) (k : zK p l e R s m args below meth c D A nL Q cells slots t2 L (.int (zb (decide (¬ x = 0))) :: st) B) : zK p l e R s m args below meth c D A nL Q cells slots pc L (.int x :: st) B := by
  refine z_if_eq C d1 h1 (fun h => ?_) (fun h => ?_)
  · refine z_iconst C (v := nI 0) (by decide) d4 ?_
    rw [h3]
    have e : zb (decide (¬ x = 0)) = nI 0 := by simp [h, zb]
    rw [e] at k
    exact k
  · refine z_iconst C (v := nI 1) (by decide) d2 ?_
    refine z_goto C (tgt := t2) d3 h2 ?_
    have e : zb (decide (¬ x = 0)) = nI 1 := by simp [h, zb]
    rw [e] at k
    exact k
end ZROWS5
def fl_m99 (f : Nat → Int32) : Nat → Int32
  | 0 => nI 99
  | i + 1 => if f i < fl_m99 f i then f i else fl_m99 f i
def ctA (n : Nat) (σ : zF) (i : Nat) : zF := fun k j => if k = 0 then (match j with
  | 0 => σ 0 1
  | 1 => nI n
  | 2 => nI (fl_ct (fun b => decide (¬ σ 7 b = 0)) i)
  | 3 => nI (fl_ct (fl_lead σ) i)
  | 4 => fl_max (σ 3) i
  | 5 => σ 0 2
  | 6 => σ 0 3
  | 7 => σ 0 4
  | 8 => fl_max (σ 9) i
  | 9 => fl_m99 (σ 9) i
  | _ => 0) else 0
theorem ctA_0 (n : Nat) (σ : zF) : zU (zU (zU (zU (zU (zU (zU (zU (zU (zU zZ 0 0 (σ 0 1)) 0 1 (nI n)) 0 2 (nI 0)) 0 3 (nI 0)) 0 4 (nI 0)) 0 5 (σ 0 2)) 0 6 (σ 0 3)) 0 7 (σ 0 4)) 0 8 (nI 0)) 0 9 (nI 99) = ctA n σ 0 := by
  funext k j
  simp only [zU_at]
  by_cases hk : k = 0
  · subst hk
    by_cases hj : j < 10
    · rcases (show j = 0 ∨ j = 1 ∨ j = 2 ∨ j = 3 ∨ j = 4 ∨ j = 5 ∨ j = 6 ∨ j = 7 ∨ j = 8 ∨ j = 9 by omega) with rfl | rfl | rfl | rfl | rfl | rfl | rfl | rfl | rfl | rfl <;> simp [ctA, fl_ct, fl_max, fl_m99]
    · obtain ⟨q, rfl⟩ : ∃ q, j = q + 10 := ⟨j - 10, by omega⟩
      simp [ctA, zZ]
  · simp [hk, ctA, zZ]
theorem ctA_1 {n : Nat} {σ : zF} {i : Nat} {v2 v3 : Int32} (h2 : v2 = nI (fl_ct (fun b => decide (¬ σ 7 b = 0)) (i + 1))) (h3 : v3 = nI (fl_ct (fl_lead σ) (i + 1))) : zU (zU (zU (zU (zU (ctA n σ i) 0 2 v2) 0 3 v3) 0 4 (if fl_max (σ 3) i < σ 3 i then σ 3 i else fl_max (σ 3) i)) 0 8 (if fl_max (σ 9) i < σ 9 i then σ 9 i else fl_max (σ 9) i)) 0 9 (if σ 9 i < fl_m99 (σ 9) i then σ 9 i else fl_m99 (σ 9) i) = ctA n σ (i + 1) := by
  subst h2
  subst h3
  funext k j
  simp only [zU_at]
  by_cases hk : k = 0
  · subst hk
    by_cases hj : j < 10
    · rcases (show j = 0 ∨ j = 1 ∨ j = 2 ∨ j = 3 ∨ j = 4 ∨ j = 5 ∨ j = 6 ∨ j = 7 ∨ j = 8 ∨ j = 9 by omega) with rfl | rfl | rfl | rfl | rfl | rfl | rfl | rfl | rfl | rfl <;> simp [ctA, fl_max, fl_m99]
    · obtain ⟨q, rfl⟩ : ∃ q, j = q + 10 := ⟨j - 10, by omega⟩
      simp [ctA]
  · simp [hk, ctA]
theorem ct_zb (p : Nat → Bool) (i : Nat) : nI (fl_ct p i) + zb (p i) = nI (fl_ct p (i + 1)) := by
  unfold zb
  by_cases h : p i = true
  · rw [if_pos h, fl_ct_y h, nI_add]
  · rw [if_neg h, fl_ct_n (Bool.eq_false_iff.mpr h), nI_add, Nat.add_zero]
theorem m99_eq {n : Nat} {σ : zF} (hI : fl_Iv n σ) : ∀ i, 0 < i → i ≤ n → fl_m99 (σ 9) i = fl_min (σ 9) i
  | 0, h, _ => absurd h (Nat.lt_irrefl 0)
  | 1, _, hn => by
    have h1 := hI.kn (i := 0) (by omega)
    have h2 := hI.knT (i := 0) (by omega)
    show (if σ 9 0 < nI 99 then σ 9 0 else nI 99) = (if σ 9 0 < nI 10 then σ 9 0 else nI 10)
    rw [h1, if_pos ((nI_ltI (by omega) (by omega)).mpr (by omega))]
    by_cases h : fl_kn σ 0 < 10
    · rw [if_pos ((nI_ltI (by omega) (by omega)).mpr h)]
    · rw [if_neg (fun z => h ((nI_ltI (by omega) (by omega)).mp z)), show fl_kn σ 0 = 10 by omega]
  | i + 2, _, hn => by
    have ih := m99_eq hI (i + 1) (by omega) (by omega)
    show (if σ 9 (i + 1) < fl_m99 (σ 9) (i + 1) then _ else fl_m99 (σ 9) (i + 1)) = (if σ 9 (i + 1) < fl_min (σ 9) (i + 1) then _ else fl_min (σ 9) (i + 1))
    rw [ih]
theorem ctA_of {n : Nat} {σ : zF} (hI : fl_Iv n σ) {w : Nat} (hw : w < 10) : ctA n σ n 0 w = fl_ofF n σ w := by
  have h9 := m99_eq hI n (by have := hI.n3; omega) (Nat.le_refl n)
  rcases (show w = 0 ∨ w = 1 ∨ w = 2 ∨ w = 3 ∨ w = 4 ∨ w = 5 ∨ w = 6 ∨ w = 7 ∨ w = 8 ∨ w = 9 by omega) with rfl | rfl | rfl | rfl | rfl | rfl | rfl | rfl | rfl | rfl <;> first | rfl | exact h9
def tdA (σ : zF) (b : Nat) : zF := fun k j => if k = 0 then (match j with
  | 0 => σ 3 b
  | 1 => σ 4 b
  | 2 => σ 5 b
  | 3 => σ 6 b
  | 4 => zb (decide (¬ σ 7 b = 0))
  | 5 => σ 1 b
  | 6 => σ 2 b
  | 7 => nI (fl_ln σ b)
  | 8 => nI (fl_kn σ b)
  | 9 => fl_last σ b
  | _ => 0) else 0
theorem tdA_0 (σ : zF) (b : Nat) : zU (zU (zU (zU (zU (zU (zU (zU (zU (zU zZ 0 0 (σ 3 b)) 0 1 (σ 4 b)) 0 2 (σ 5 b)) 0 3 (σ 6 b)) 0 4 (zb (decide (¬ σ 7 b = 0)))) 0 5 (σ 1 b)) 0 6 (σ 2 b)) 0 7 (nI (fl_ln σ b))) 0 8 (nI (fl_kn σ b))) 0 9 (fl_last σ b) = tdA σ b := by
  funext k j
  simp only [zU_at]
  by_cases hk : k = 0
  · subst hk
    by_cases hj : j < 10
    · rcases (show j = 0 ∨ j = 1 ∨ j = 2 ∨ j = 3 ∨ j = 4 ∨ j = 5 ∨ j = 6 ∨ j = 7 ∨ j = 8 ∨ j = 9 by omega) with rfl | rfl | rfl | rfl | rfl | rfl | rfl | rfl | rfl | rfl <;> simp [tdA]
    · obtain ⟨q, rfl⟩ : ∃ q, j = q + 10 := ⟨j - 10, by omega⟩
      simp [tdA, zZ]
  · simp [hk, tdA, zZ]
theorem tdA_eq {n : Nat} {σ : zF} (hI : fl_Iv n σ) {b w : Nat} (hb : b < n) (hw : w < 10) : tdA σ b 0 w = fl_ofB σ b w := by
  have h7 := hI.ln hb
  have h8 := hI.kn hb
  rcases (show w = 0 ∨ w = 1 ∨ w = 2 ∨ w = 3 ∨ w = 4 ∨ w = 5 ∨ w = 6 ∨ w = 7 ∨ w = 8 ∨ w = 9 by omega) with rfl | rfl | rfl | rfl | rfl | rfl | rfl | rfl | rfl | rfl <;> first | rfl | exact h7.symm | exact h8.symm
theorem ldr_off {σ : zF} {b : Nat} (h : σ 7 b = 0 ∨ ¬ σ 5 b = nI 2) : fl_oI (fl_ldr σ b) = fl_oI (fl_ldr σ (b + 1)) := by
  have e : fl_ldr σ (b + 1) = fl_ldr σ b := if_neg (fun z => h.elim (lead_iff.mp z).1 (fun q => q (lead_iff.mp z).2))
  rw [e]
theorem ldr_none {σ : zF} {b : Nat} (h7 : ¬ σ 7 b = 0) (h5 : σ 5 b = nI 2) (h : fl_ldr σ b = none) : nI b = fl_oI (fl_ldr σ (b + 1)) := by
  show _ = fl_oI (if fl_lead σ b = true then _ else _)
  rw [if_pos (lead_iff.mpr ⟨h7, h5⟩), h]
  rfl
theorem ldr_gt {σ : zF} {b j : Nat} (h7 : ¬ σ 7 b = 0) (h5 : σ 5 b = nI 2) (h : fl_ldr σ b = some j) (hg : ¬ σ 3 b ≤ σ 3 j) : nI b = fl_oI (fl_ldr σ (b + 1)) := by
  show _ = fl_oI (if fl_lead σ b = true then _ else _)
  rw [if_pos (lead_iff.mpr ⟨h7, h5⟩), h]
  show _ = fl_oI (if σ 3 j < σ 3 b then some b else some j)
  rw [if_pos (Int32.not_le.mp hg)]
  rfl
theorem ldr_le {σ : zF} {b j : Nat} (h7 : ¬ σ 7 b = 0) (h5 : σ 5 b = nI 2) (h : fl_ldr σ b = some j) (hg : σ 3 b ≤ σ 3 j) : nI j = fl_oI (fl_ldr σ (b + 1)) := by
  show _ = fl_oI (if fl_lead σ b = true then _ else _)
  rw [if_pos (lead_iff.mpr ⟨h7, h5⟩), h]
  show _ = fl_oI (if σ 3 j < σ 3 b then some b else some j)
  rw [if_neg (Int32.not_lt.mpr hg)]
  rfl
def pd : Nat → Int32
  | 0 => -1
  | j + 1 => nI j
theorem pd_dec (j : Nat) : nI j + Int32.ofInt (-1) = pd j := by
  cases j with
  | zero => decide
  | succ j => exact z_dec1 (by omega)
def pH (σ : zF) (h : Nat) : Nat → Bool := fun b => decide (¬ σ 7 b = 0 ∧ σ 6 b = nI h)
/-- of the boats from j on, the newest with the smallest number -/
def nwB (σ : zF) (h n j : Nat) (bo : Option Nat) : Prop := match bo with
  | none => ∀ k, j ≤ k → k < n → ¬ pH σ h k = true
  | some b => j ≤ b ∧ b < n ∧ pH σ h b = true ∧ (∀ k, j ≤ k → k < n → pH σ h k = true → fl_nw σ b k = true) ∧ ∀ k, j ≤ k → k < b → pH σ h k = true → ¬ fl_nw σ k b = true
theorem nw_trans {σ : zF} {x y z : Nat} (h1 : fl_nw σ x y = true) (h2 : fl_nw σ y z = true) : fl_nw σ x z = true := by
  rw [fl_nw_rN] at *
  unfold rN at *
  omega
theorem nw_total {σ : zF} {x y : Nat} (h : ¬ fl_nw σ x y = true) : fl_nw σ y x = true := by
  rw [fl_nw_rN] at *
  unfold rN at *
  omega
theorem nw_refl (σ : zF) (x : Nat) : fl_nw σ x x = true := by
  rw [fl_nw_rN]
  exact Or.inr ⟨rfl, Nat.le_refl _⟩
theorem nwB_skip {σ : zF} {h n j : Nat} {bo : Option Nat} (hp : ¬ pH σ h j = true) (hb : nwB σ h n (j + 1) bo) : nwB σ h n j bo := by
  cases bo with
  | none => exact fun k h1 h2 => if e : k = j then e ▸ hp else hb k (by omega) h2
  | some b =>
    obtain ⟨q1, q2, q3, q4, q5⟩ := hb
    refine ⟨by omega, q2, q3, fun k h1 h2 hk => ?_, fun k h1 h2 hk => ?_⟩
    · by_cases e : k = j
      · exact absurd (e ▸ hk) hp
      · exact q4 k (by omega) h2 hk
    · by_cases e : k = j
      · exact absurd (e ▸ hk) hp
      · exact q5 k (by omega) h2 hk
theorem nwB_new {σ : zF} {h n j : Nat} {bo : Option Nat} (hj : j < n) (hp : pH σ h j = true) (hb : nwB σ h n (j + 1) bo) (hn : ∀ b, bo = some b → fl_nw σ j b = true) : nwB σ h n j (some j) := by
  refine ⟨Nat.le_refl j, hj, hp, fun k h1 h2 hk => ?_, fun k h1 h2 _ => by omega⟩
  by_cases e : k = j
  · rw [e]
    exact nw_refl σ j
  · cases bo with
    | none => exact absurd hk (hb k (by omega) h2)
    | some b => exact nw_trans (hn b rfl) (hb.2.2.2.1 k (by omega) h2 hk)
theorem nwB_old {σ : zF} {h n j b : Nat} (hb : nwB σ h n (j + 1) (some b)) (hn : ¬ fl_nw σ j b = true) : nwB σ h n j (some b) := by
  obtain ⟨q1, q2, q3, q4, q5⟩ := hb
  refine ⟨by omega, q2, q3, fun k h1 h2 hk => ?_, fun k h1 h2 hk => ?_⟩
  · by_cases e : k = j
    · rw [e]
      exact nw_total hn
    · exact q4 k (by omega) h2 hk
  · by_cases e : k = j
    · rw [e]
      exact hn
    · exact q5 k (by omega) h2 hk
theorem nwst_B (σ : zF) (h : Nat) : ∀ i, nwB σ h i 0 (fl_nwst σ (nI h) i)
  | 0 => fun k _ h2 => absurd h2 (Nat.not_lt_zero k)
  | i + 1 => by
    have ih := nwst_B σ h i
    have hpe : (¬ σ 7 i = 0 ∧ σ 6 i = nI h) ↔ pH σ h i = true := by
      unfold pH
      rw [decide_eq_true_iff]
    unfold fl_nwst
    by_cases hp : ¬ σ 7 i = 0 ∧ σ 6 i = nI h
    · rw [if_pos hp]
      cases e : fl_nwst σ (nI h) i with
      | none =>
        rw [e] at ih
        refine ⟨Nat.zero_le i, Nat.lt_succ_self i, hpe.mp hp, fun k _ h2 hk => ?_, fun k _ h2 hk => absurd hk (ih k (Nat.zero_le k) h2)⟩
        by_cases ek : k = i
        · rw [ek]
          exact nw_refl σ i
        · exact absurd hk (ih k (Nat.zero_le k) (by omega))
      | some j =>
        rw [e] at ih
        obtain ⟨q1, q2, q3, q4, q5⟩ := ih
        show nwB σ h (i + 1) 0 (if fl_nw σ j i = true then some j else some i)
        by_cases hn : fl_nw σ j i = true
        · rw [if_pos hn]
          refine ⟨q1, by omega, q3, fun k h1 h2 hk => ?_, q5⟩
          by_cases ek : k = i
          · rw [ek]
            exact hn
          · exact q4 k h1 (by omega) hk
        · rw [if_neg hn]
          refine ⟨Nat.zero_le i, Nat.lt_succ_self i, hpe.mp hp, fun k h1 h2 hk => ?_, fun k h1 h2 hk z => ?_⟩
          · by_cases ek : k = i
            · rw [ek]
              exact nw_refl σ i
            · exact nw_trans (nw_total hn) (q4 k h1 (by omega) hk)
          · exact hn (nw_trans (q4 k h1 h2 hk) z)
    · rw [if_neg hp]
      have hpf : ¬ pH σ h i = true := fun z => hp (hpe.mpr z)
      cases e : fl_nwst σ (nI h) i with
      | none =>
        rw [e] at ih
        exact fun k h1 h2 => if ek : k = i then ek ▸ hpf else ih k h1 (by omega)
      | some j =>
        rw [e] at ih
        obtain ⟨q1, q2, q3, q4, q5⟩ := ih
        refine ⟨q1, by omega, q3, fun k h1 h2 hk => ?_, q5⟩
        by_cases ek : k = i
        · exact absurd (ek ▸ hk) hpf
        · exact q4 k h1 (by omega) hk
theorem nwB_uniq {σ : zF} {h n : Nat} {x y : Option Nat} (hx : nwB σ h n 0 x) (hy : nwB σ h n 0 y) : x = y := by
  cases x with
  | none =>
    cases y with
    | none => rfl
    | some b => exact absurd hy.2.2.1 (hx b (Nat.zero_le b) hy.2.1)
  | some a =>
    cases y with
    | none => exact absurd hx.2.2.1 (hy a (Nat.zero_le a) hx.2.1)
    | some b =>
      obtain ⟨-, a2, a3, a4, a5⟩ := hx
      obtain ⟨-, b2, b3, b4, b5⟩ := hy
      rcases Nat.lt_trichotomy a b with q | q | q
      · exact absurd (a4 b (Nat.zero_le b) b2 b3) (b5 a (Nat.zero_le a) q a3)
      · rw [q]
      · exact absurd (b4 a (Nat.zero_le a) a2 a3) (a5 b (Nat.zero_le b) q b3)
theorem pH_t {σ : zF} {h b : Nat} (h7 : ¬ σ 7 b = 0) (h6 : σ 6 b = nI h) : pH σ h b = true := decide_eq_true ⟨h7, h6⟩
theorem pH_f {σ : zF} {h b : Nat} (hh : σ 7 b = 0 ∨ ¬ σ 6 b = nI h) : pH σ h b = false := decide_eq_false (fun z => hh.elim z.1 (fun q => q z.2))
set_option maxHeartbeats 4000000 in
set_option maxRecDepth 100000 in
theorem c_X4_counted (l : Launch) (D : va_G) (cI cZ cB cE : ClassId) (n : Nat) (a g : Nat → Nat) (σ : zF) (en : Nat → Nat → Nat) (ps : List (Nat × Int32 × Int32)) (hI : fl_Iv n σ) (hk : smK n σ en ps) (w : Nat) (hw : w < 10) : zM l D (tyL cI cZ cB cE) yX4_counted cX4_counted 7 (some .int) ({ frames := 1, cells := 1, slots := 10, locals := 21 } : Room) [.ref (a 0), .int (nI (w))] [(smS cB a n g σ, zZ), (smG cE n g σ en, zZ), (smP cI ps, zZ)] 1 10 (fun r u => r = some (.int (fl_ofF n σ w)) ∧ u = [(smS cB a n g σ, zZ), (smG cE n g σ en, zZ), (smP cI ps, zZ)]) := by
  have hn3 := hI.n3
  have hn7 := hI.n7
  refine z_of (by decide) (Nat.le_of_ble_eq_true rfl) rfl ?_
  intro p e s m args below meth c A C hr hin
  obtain ⟨Q, hQ⟩ : ∃ Q, Q = MQ below (zQ (fun r u => r = some (.int (fl_ofF n σ w)) ∧ u = [(smS cB a n g σ, zZ), (smG cE n g σ en, zZ), (smP cI ps, zZ)]) D (tyL cI cZ cB cE) A) args s 1 10 A := ⟨_, rfl⟩
  rw [← hQ]
  refine z_bipush C (v := nI (10)) (by decide) dX4_counted_0 ?_
  refine z_newa C (atype := .int) (ty := .int) (cA := cI) 0 wa_int rfl rfl rfl (C.2.2.2.2.2.1.2 0 _ rfl).2 (by omega) (by decide) ⟨by show _ ≤ 1; omega, by show _ ≤ 10; omega⟩ dX4_counted_2 (fun q_2 => ?_)
  refine z_eq (B' := [(smS cB a n g σ, zZ), (smG cE n g σ en, zZ), (smP cI ps, zZ), ([(q_2, .inl (cI, 10))], zZ)]) rfl ?_
  refine z_dup C rfl dX4_counted_4 ?_
  refine z_iconst C (v := nI (0)) (by decide) dX4_counted_5 ?_
  refine z_aload_n C dX4_counted_6 rfl 0 rfl ?_
  refine z_sget C 0 rfl 0 (by decide) (v := .int (σ 0 1)) rfl wf_X4_19 dX4_counted_7 ?_
  refine z_iast C (B' := [(smS cB a n g σ, zZ), (smG cE n g σ en, zZ), (smP cI ps, zZ), ([(q_2, .inl (cI, 10))], (zU zZ 0 (0) (σ 0 (1))))]) 3 rfl 0 0 rfl rfl dX4_counted_10 (by omega) (by omega) rfl ?_
  refine z_dup C rfl dX4_counted_11 ?_
  refine z_iconst C (v := nI (1)) (by decide) dX4_counted_12 ?_
  refine z_aload_n C dX4_counted_13 rfl 0 rfl ?_
  refine z_sget C 0 rfl 4 (by decide) (v := .ref (a 1)) rfl wf_X4_9 dX4_counted_14 ?_
  refine z_alenB C 0 rfl dX4_counted_17 ?_
  refine z_iast C (B' := [(smS cB a n g σ, zZ), (smG cE n g σ en, zZ), (smP cI ps, zZ), ([(q_2, .inl (cI, 10))], (zU (zU zZ 0 (0) (σ 0 (1))) 0 (1) (nI (n))))]) 3 rfl 0 0 rfl rfl dX4_counted_18 (by omega) (by omega) rfl ?_
  refine z_dup C rfl dX4_counted_19 ?_
  refine z_iconst C (v := nI (2)) (by decide) dX4_counted_20 ?_
  refine z_iconst C (v := nI (0)) (by decide) dX4_counted_21 ?_
  refine z_iast C (B' := [(smS cB a n g σ, zZ), (smG cE n g σ en, zZ), (smP cI ps, zZ), ([(q_2, .inl (cI, 10))], (zU (zU (zU zZ 0 (0) (σ 0 (1))) 0 (1) (nI (n))) 0 (2) (nI (0))))]) 3 rfl 0 0 rfl rfl dX4_counted_22 (by omega) (by omega) rfl ?_
  refine z_dup C rfl dX4_counted_23 ?_
  refine z_iconst C (v := nI (3)) (by decide) dX4_counted_24 ?_
  refine z_iconst C (v := nI (0)) (by decide) dX4_counted_25 ?_
  refine z_iast C (B' := [(smS cB a n g σ, zZ), (smG cE n g σ en, zZ), (smP cI ps, zZ), ([(q_2, .inl (cI, 10))], (zU (zU (zU (zU zZ 0 (0) (σ 0 (1))) 0 (1) (nI (n))) 0 (2) (nI (0))) 0 (3) (nI (0))))]) 3 rfl 0 0 rfl rfl dX4_counted_26 (by omega) (by omega) rfl ?_
  refine z_dup C rfl dX4_counted_27 ?_
  refine z_iconst C (v := nI (4)) (by decide) dX4_counted_28 ?_
  refine z_iconst C (v := nI (0)) (by decide) dX4_counted_29 ?_
  refine z_iast C (B' := [(smS cB a n g σ, zZ), (smG cE n g σ en, zZ), (smP cI ps, zZ), ([(q_2, .inl (cI, 10))], (zU (zU (zU (zU (zU zZ 0 (0) (σ 0 (1))) 0 (1) (nI (n))) 0 (2) (nI (0))) 0 (3) (nI (0))) 0 (4) (nI (0))))]) 3 rfl 0 0 rfl rfl dX4_counted_30 (by omega) (by omega) rfl ?_
  refine z_dup C rfl dX4_counted_31 ?_
  refine z_iconst C (v := nI (5)) (by decide) dX4_counted_32 ?_
  refine z_aload_n C dX4_counted_33 rfl 0 rfl ?_
  refine z_sget C 0 rfl 1 (by decide) (v := .int (σ 0 2)) rfl wf_X4_23 dX4_counted_34 ?_
  refine z_iast C (B' := [(smS cB a n g σ, zZ), (smG cE n g σ en, zZ), (smP cI ps, zZ), ([(q_2, .inl (cI, 10))], (zU (zU (zU (zU (zU (zU zZ 0 (0) (σ 0 (1))) 0 (1) (nI (n))) 0 (2) (nI (0))) 0 (3) (nI (0))) 0 (4) (nI (0))) 0 (5) (σ 0 (2))))]) 3 rfl 0 0 rfl rfl dX4_counted_37 (by omega) (by omega) rfl ?_
  refine z_dup C rfl dX4_counted_38 ?_
  refine z_bipush C (v := nI (6)) (by decide) dX4_counted_39 ?_
  refine z_aload_n C dX4_counted_41 rfl 0 rfl ?_
  refine z_sget C 0 rfl 2 (by decide) (v := .int (σ 0 3)) rfl wf_X4_26 dX4_counted_42 ?_
  refine z_iast C (B' := [(smS cB a n g σ, zZ), (smG cE n g σ en, zZ), (smP cI ps, zZ), ([(q_2, .inl (cI, 10))], (zU (zU (zU (zU (zU (zU (zU zZ 0 (0) (σ 0 (1))) 0 (1) (nI (n))) 0 (2) (nI (0))) 0 (3) (nI (0))) 0 (4) (nI (0))) 0 (5) (σ 0 (2))) 0 (6) (σ 0 (3))))]) 3 rfl 0 0 rfl rfl dX4_counted_45 (by omega) (by omega) rfl ?_
  refine z_dup C rfl dX4_counted_46 ?_
  refine z_bipush C (v := nI (7)) (by decide) dX4_counted_47 ?_
  refine z_aload_n C dX4_counted_49 rfl 0 rfl ?_
  refine z_sget C 0 rfl 3 (by decide) (v := .int (σ 0 4)) rfl wf_X4_29 dX4_counted_50 ?_
  refine z_iast C (B' := [(smS cB a n g σ, zZ), (smG cE n g σ en, zZ), (smP cI ps, zZ), ([(q_2, .inl (cI, 10))], (zU (zU (zU (zU (zU (zU (zU (zU zZ 0 (0) (σ 0 (1))) 0 (1) (nI (n))) 0 (2) (nI (0))) 0 (3) (nI (0))) 0 (4) (nI (0))) 0 (5) (σ 0 (2))) 0 (6) (σ 0 (3))) 0 (7) (σ 0 (4))))]) 3 rfl 0 0 rfl rfl dX4_counted_53 (by omega) (by omega) rfl ?_
  refine z_dup C rfl dX4_counted_54 ?_
  refine z_bipush C (v := nI (8)) (by decide) dX4_counted_55 ?_
  refine z_iconst C (v := nI (0)) (by decide) dX4_counted_57 ?_
  refine z_iast C (B' := [(smS cB a n g σ, zZ), (smG cE n g σ en, zZ), (smP cI ps, zZ), ([(q_2, .inl (cI, 10))], (zU (zU (zU (zU (zU (zU (zU (zU (zU zZ 0 (0) (σ 0 (1))) 0 (1) (nI (n))) 0 (2) (nI (0))) 0 (3) (nI (0))) 0 (4) (nI (0))) 0 (5) (σ 0 (2))) 0 (6) (σ 0 (3))) 0 (7) (σ 0 (4))) 0 (8) (nI (0))))]) 3 rfl 0 0 rfl rfl dX4_counted_58 (by omega) (by omega) rfl ?_
  refine z_dup C rfl dX4_counted_59 ?_
  refine z_bipush C (v := nI (9)) (by decide) dX4_counted_60 ?_
  refine z_bipush C (v := nI (99)) (by decide) dX4_counted_62 ?_
  refine z_iast C (B' := [(smS cB a n g σ, zZ), (smG cE n g σ en, zZ), (smP cI ps, zZ), ([(q_2, .inl (cI, 10))], (zU (zU (zU (zU (zU (zU (zU (zU (zU (zU zZ 0 (0) (σ 0 (1))) 0 (1) (nI (n))) 0 (2) (nI (0))) 0 (3) (nI (0))) 0 (4) (nI (0))) 0 (5) (σ 0 (2))) 0 (6) (σ 0 (3))) 0 (7) (σ 0 (4))) 0 (8) (nI (0))) 0 (9) (nI (99))))]) 3 rfl 0 0 rfl rfl dX4_counted_64 (by omega) (by omega) rfl ?_
  refine z_astore_n C (L' := [(2, .ref (q_2)), (0, .ref (a 0)), (1, .int (nI (w)))]) dX4_counted_65 rfl (by decide) rfl ?_
  refine z_eq (B' := [(smS cB a n g σ, zZ), (smG cE n g σ en, zZ), (smP cI ps, zZ), ([(q_2, .inl (cI, 10))], (ctA n σ 0))]) (by rw [← ctA_0]) ?_
  refine z_aload_n C dX4_counted_66 rfl 1 rfl ?_
  refine z_sget C 0 rfl 4 (by decide) (v := .ref (a 1)) rfl wf_X4_9 dX4_counted_67 ?_
  refine z_astore_n C (L' := [(3, .ref (a 1)), (2, .ref (q_2)), (0, .ref (a 0)), (1, .int (nI (w)))]) dX4_counted_70 rfl (by decide) rfl ?_
  refine z_aload_n C dX4_counted_71 rfl 0 rfl ?_
  refine z_alenB C 0 rfl dX4_counted_72 ?_
  refine z_istore C (L' := [(4, .int (nI (n))), (3, .ref (a 1)), (2, .ref (q_2)), (0, .ref (a 0)), (1, .int (nI (w)))]) dX4_counted_73 (by decide) rfl ?_
  refine z_iconst C (v := nI (0)) (by decide) dX4_counted_75 ?_
  refine z_istore C (L' := [(5, .int (nI (0))), (4, .int (nI (n))), (3, .ref (a 1)), (2, .ref (q_2)), (0, .ref (a 0)), (1, .int (nI (w)))]) dX4_counted_76 (by decide) rfl ?_
  have loop_78 : ∀ (k_78 i : Nat), n < i + k_78 → i ≤ n → zK p l e ({ frames := 1, cells := 1, slots := 10, locals := 21 } : Room) s m args below meth c D A 7 Q (0 + 1) (0 + 10) 78 [(0, .ref (a 0)), (1, .int (nI (w))), (2, .ref (q_2)), (3, .ref (a 1)), (4, .int (nI (n))), (5, .int (nI (i)))] [] [(smS cB a n g σ, zZ), (smG cE n g σ en, zZ), (smP cI ps, zZ), ([(q_2, .inl (cI, 10))], (ctA n σ i))] := by
    intro k_78
    induction k_78 with
    | zero => intro i  m1_78 m2_78; exact absurd m1_78 (by omega)
    | succ k_78 ih_78 =>
      intro i  m1_78 m2_78 
      refine z_iload C dX4_counted_78 5 rfl ?_
      refine z_iload C dX4_counted_80 4 rfl ?_
      refine z_icmp_geN C (tgt := 190) dX4_counted_82 (by decide) (by omega) (by omega) (fun c_82 => ?_) (fun c_82 => ?_)
      · refine z_aload_n C dX4_counted_190 rfl 2 rfl ?_
        refine z_iload_n C dX4_counted_191 rfl 1 rfl ?_
        refine z_iald C 3 rfl 0 0 rfl rfl dX4_counted_192 (by omega) (by omega) ?_
        refine z_drop (B' := [(smS cB a n g σ, zZ), (smG cE n g σ en, zZ), (smP cI ps, zZ)]) (X := zW [([(q_2, .inl (cI, 10))], (ctA n σ i))]) (by rw [← zW_app]; exact List.Perm.refl _) ?_
        refine z_widen (k := 1) (n := 10) (by omega) (by omega) ?_
        have hin9 : n = i := by omega
        subst hin9
        rw [hQ]; exact z_iret C hr dX4_counted_193 ⟨congrArg (fun x => some (Value.int x)) (ctA_of hI hw), rfl⟩
      · refine z_aload_n C dX4_counted_85 rfl 3 rfl ?_
        refine z_iload C dX4_counted_86 5 rfl ?_
        refine z_aB C 0 rfl (i := i) (by omega) (by omega) dX4_counted_88 ?_
        refine z_astore C (L' := [(6, .ref (a (2 + (i)))), (0, .ref (a 0)), (1, .int (nI (w))), (2, .ref (q_2)), (3, .ref (a 1)), (4, .int (nI (n))), (5, .int (nI (i)))]) dX4_counted_89 (by decide) rfl ?_
        refine z_aload_n C dX4_counted_91 rfl 3 rfl ?_
        refine z_iconst C (v := nI (2)) (by decide) dX4_counted_92 ?_
        refine z_dup2 C rfl rfl dX4_counted_93 ?_
        refine z_iald C 3 rfl 0 0 rfl rfl dX4_counted_94 (by omega) (by omega) ?_
        refine z_top (y := nI (fl_ct (fun b => decide (¬ σ 7 b = 0)) i)) rfl ?_
        refine z_aload C dX4_counted_95 0 rfl ?_
        refine z_bget C 0 rfl (i := i) (by omega) 6 (by decide) (v := .int (σ 7 (i))) rfl wf_X4_36 dX4_counted_97 ?_
        refine z_sel0 C (t1 := 107) (t2 := 108) dX4_counted_100 (by decide) dX4_counted_103 dX4_counted_104 (by decide) dX4_counted_107 rfl ?_
        refine z_iadd C dX4_counted_108 ?_
        refine z_iast C (B' := [(smS cB a n g σ, zZ), (smG cE n g σ en, zZ), (smP cI ps, zZ), ([(q_2, .inl (cI, 10))], (zU (ctA n σ i) 0 (2) ((nI (fl_ct (fun b => decide (¬ σ 7 b = 0)) i)) + (zb (decide (¬ σ 7 (i) = 0))))))]) 3 rfl 0 0 rfl rfl dX4_counted_109 (by omega) (by omega) rfl ?_
        refine z_aload_n C dX4_counted_110 rfl 3 rfl ?_
        refine z_iconst C (v := nI (3)) (by decide) dX4_counted_111 ?_
        refine z_dup2 C rfl rfl dX4_counted_112 ?_
        refine z_iald C 3 rfl 0 0 rfl rfl dX4_counted_113 (by omega) (by omega) ?_
        refine z_top (y := nI (fl_ct (fl_lead σ) i)) rfl ?_
        refine z_aload C dX4_counted_114 0 rfl ?_
        refine z_bget C 0 rfl (i := i) (by omega) 6 (by decide) (v := .int (σ 7 (i))) rfl wf_X4_36 dX4_counted_116 ?_
        refine z_if_eq C (tgt := 135) dX4_counted_119 (by decide) (fun c_119 => ?_) (fun c_119 => ?_)
        · refine z_iconst C (v := nI (0)) (by decide) dX4_counted_135 ?_
          refine z_iaddN C dX4_counted_136 ?_
          refine z_iast C (B' := [(smS cB a n g σ, zZ), (smG cE n g σ en, zZ), (smP cI ps, zZ), ([(q_2, .inl (cI, 10))], (zU (zU (ctA n σ i) 0 (2) ((nI (fl_ct (fun b => decide (¬ σ 7 b = 0)) i)) + (zb (decide (¬ σ 7 (i) = 0))))) 0 (3) (nI ((fl_ct (fl_lead σ) i) + 0))))]) 3 rfl 0 0 rfl rfl dX4_counted_137 (by omega) (by omega) rfl ?_
          refine z_aload_n C dX4_counted_138 rfl 3 rfl ?_
          refine z_iconst C (v := nI (4)) (by decide) dX4_counted_139 ?_
          refine z_aload_n C dX4_counted_140 rfl 3 rfl ?_
          refine z_iconst C (v := nI (4)) (by decide) dX4_counted_141 ?_
          refine z_iald C 3 rfl 0 0 rfl rfl dX4_counted_142 (by omega) (by omega) ?_
          refine z_top (y := fl_max (σ 3) i) rfl ?_
          refine z_aload C dX4_counted_143 0 rfl ?_
          refine z_bget C 0 rfl (i := i) (by omega) 2 (by decide) (v := .int (σ 3 (i))) rfl wf_X4_43 dX4_counted_145 ?_
          refine z_mmax C wm_X4_93 ws_max wi_J9 wk_max ⟨Nat.le_of_ble_eq_true rfl, Nat.le_of_ble_eq_true rfl, (by show _ ≤ 1; omega), (by show _ ≤ 10; omega)⟩ dX4_counted_148 ?_
          refine z_iast C (B' := [(smS cB a n g σ, zZ), (smG cE n g σ en, zZ), (smP cI ps, zZ), ([(q_2, .inl (cI, 10))], (zU (zU (zU (ctA n σ i) 0 (2) ((nI (fl_ct (fun b => decide (¬ σ 7 b = 0)) i)) + (zb (decide (¬ σ 7 (i) = 0))))) 0 (3) (nI ((fl_ct (fl_lead σ) i) + 0))) 0 (4) (if fl_max (σ 3) i < σ 3 (i) then σ 3 (i) else fl_max (σ 3) i)))]) 3 rfl 0 0 rfl rfl dX4_counted_151 (by omega) (by omega) rfl ?_
          refine z_aload_n C dX4_counted_152 rfl 3 rfl ?_
          refine z_bipush C (v := nI (8)) (by decide) dX4_counted_153 ?_
          refine z_aload_n C dX4_counted_155 rfl 3 rfl ?_
          refine z_bipush C (v := nI (8)) (by decide) dX4_counted_156 ?_
          refine z_iald C 3 rfl 0 0 rfl rfl dX4_counted_158 (by omega) (by omega) ?_
          refine z_top (y := fl_max (σ 9) i) rfl ?_
          refine z_aload C dX4_counted_159 0 rfl ?_
          refine z_bget C 0 rfl (i := i) (by omega) 7 (by decide) (v := .int (σ 9 (i))) rfl wf_X4_81 dX4_counted_161 ?_
          refine z_mmax C wm_X4_93 ws_max wi_J9 wk_max ⟨Nat.le_of_ble_eq_true rfl, Nat.le_of_ble_eq_true rfl, (by show _ ≤ 1; omega), (by show _ ≤ 10; omega)⟩ dX4_counted_164 ?_
          refine z_iast C (B' := [(smS cB a n g σ, zZ), (smG cE n g σ en, zZ), (smP cI ps, zZ), ([(q_2, .inl (cI, 10))], (zU (zU (zU (zU (ctA n σ i) 0 (2) ((nI (fl_ct (fun b => decide (¬ σ 7 b = 0)) i)) + (zb (decide (¬ σ 7 (i) = 0))))) 0 (3) (nI ((fl_ct (fl_lead σ) i) + 0))) 0 (4) (if fl_max (σ 3) i < σ 3 (i) then σ 3 (i) else fl_max (σ 3) i)) 0 (8) (if fl_max (σ 9) i < σ 9 (i) then σ 9 (i) else fl_max (σ 9) i)))]) 3 rfl 0 0 rfl rfl dX4_counted_167 (by omega) (by omega) rfl ?_
          refine z_aload_n C dX4_counted_168 rfl 3 rfl ?_
          refine z_bipush C (v := nI (9)) (by decide) dX4_counted_169 ?_
          refine z_aload_n C dX4_counted_171 rfl 3 rfl ?_
          refine z_bipush C (v := nI (9)) (by decide) dX4_counted_172 ?_
          refine z_iald C 3 rfl 0 0 rfl rfl dX4_counted_174 (by omega) (by omega) ?_
          refine z_top (y := fl_m99 (σ 9) i) rfl ?_
          refine z_aload C dX4_counted_175 0 rfl ?_
          refine z_bget C 0 rfl (i := i) (by omega) 7 (by decide) (v := .int (σ 9 (i))) rfl wf_X4_81 dX4_counted_177 ?_
          refine z_mmin C wm_X4_99 ws_min wi_J9 wk_min ⟨Nat.le_of_ble_eq_true rfl, Nat.le_of_ble_eq_true rfl, (by show _ ≤ 1; omega), (by show _ ≤ 10; omega)⟩ dX4_counted_180 ?_
          refine z_iast C (B' := [(smS cB a n g σ, zZ), (smG cE n g σ en, zZ), (smP cI ps, zZ), ([(q_2, .inl (cI, 10))], (zU (zU (zU (zU (zU (ctA n σ i) 0 (2) ((nI (fl_ct (fun b => decide (¬ σ 7 b = 0)) i)) + (zb (decide (¬ σ 7 (i) = 0))))) 0 (3) (nI ((fl_ct (fl_lead σ) i) + 0))) 0 (4) (if fl_max (σ 3) i < σ 3 (i) then σ 3 (i) else fl_max (σ 3) i)) 0 (8) (if fl_max (σ 9) i < σ 9 (i) then σ 9 (i) else fl_max (σ 9) i)) 0 (9) (if σ 9 (i) < fl_m99 (σ 9) i then σ 9 (i) else fl_m99 (σ 9) i)))]) 3 rfl 0 0 rfl rfl dX4_counted_183 (by omega) (by omega) rfl ?_
          refine z_iinc C (L' := [(5, .int (nI (i + 1))), (6, .ref (a (2 + (i)))), (0, .ref (a 0)), (1, .int (nI (w))), (2, .ref (q_2)), (3, .ref (a 1)), (4, .int (nI (n)))]) dX4_counted_184 6 rfl (z_inc1 _) (by decide) rfl ?_
          refine z_goto C (tgt := 78) dX4_counted_187 (by decide) ?_
          refine z_eq (B' := [(smS cB a n g σ, zZ), (smG cE n g σ en, zZ), (smP cI ps, zZ), ([(q_2, .inl (cI, 10))], (ctA n σ (i + 1)))]) (by rw [← ctA_1 (n := n) (σ := σ) (i := i) (v3 := nI (fl_ct (fl_lead σ) i + 0)) (ct_zb (fun b => decide (¬ σ 7 b = 0)) i) (congrArg nI ((fl_ct_n (Bool.eq_false_iff.mpr (fun z => (lead_iff.mp z).1 c_119))).symm))]) ?_
          refine z_sub (L' := [(0, .ref (a 0)), (1, .int (nI (w))), (2, .ref (q_2)), (3, .ref (a 1)), (4, .int (nI (n))), (5, .int (nI (i + 1)))]) [2, 3, 4, 5, 6, 0] rfl ?_
          exact ih_78 (i + 1)  (by omega) (by omega) 
        · refine z_aload C dX4_counted_122 0 rfl ?_
          refine z_bget C 0 rfl (i := i) (by omega) 4 (by decide) (v := .int (σ 5 (i))) rfl wf_X4_46 dX4_counted_124 ?_
          refine z_iconst C (v := nI (2)) (by decide) dX4_counted_127 ?_
          refine z_icmp_ne C (tgt := 135) dX4_counted_128 (by decide) (fun c_128 => ?_) (fun c_128 => ?_)
          · refine z_iconst C (v := nI (0)) (by decide) dX4_counted_135 ?_
            refine z_iaddN C dX4_counted_136 ?_
            refine z_iast C (B' := [(smS cB a n g σ, zZ), (smG cE n g σ en, zZ), (smP cI ps, zZ), ([(q_2, .inl (cI, 10))], (zU (zU (ctA n σ i) 0 (2) ((nI (fl_ct (fun b => decide (¬ σ 7 b = 0)) i)) + (zb (decide (¬ σ 7 (i) = 0))))) 0 (3) (nI ((fl_ct (fl_lead σ) i) + 0))))]) 3 rfl 0 0 rfl rfl dX4_counted_137 (by omega) (by omega) rfl ?_
            refine z_aload_n C dX4_counted_138 rfl 3 rfl ?_
            refine z_iconst C (v := nI (4)) (by decide) dX4_counted_139 ?_
            refine z_aload_n C dX4_counted_140 rfl 3 rfl ?_
            refine z_iconst C (v := nI (4)) (by decide) dX4_counted_141 ?_
            refine z_iald C 3 rfl 0 0 rfl rfl dX4_counted_142 (by omega) (by omega) ?_
            refine z_top (y := fl_max (σ 3) i) rfl ?_
            refine z_aload C dX4_counted_143 0 rfl ?_
            refine z_bget C 0 rfl (i := i) (by omega) 2 (by decide) (v := .int (σ 3 (i))) rfl wf_X4_43 dX4_counted_145 ?_
            refine z_mmax C wm_X4_93 ws_max wi_J9 wk_max ⟨Nat.le_of_ble_eq_true rfl, Nat.le_of_ble_eq_true rfl, (by show _ ≤ 1; omega), (by show _ ≤ 10; omega)⟩ dX4_counted_148 ?_
            refine z_iast C (B' := [(smS cB a n g σ, zZ), (smG cE n g σ en, zZ), (smP cI ps, zZ), ([(q_2, .inl (cI, 10))], (zU (zU (zU (ctA n σ i) 0 (2) ((nI (fl_ct (fun b => decide (¬ σ 7 b = 0)) i)) + (zb (decide (¬ σ 7 (i) = 0))))) 0 (3) (nI ((fl_ct (fl_lead σ) i) + 0))) 0 (4) (if fl_max (σ 3) i < σ 3 (i) then σ 3 (i) else fl_max (σ 3) i)))]) 3 rfl 0 0 rfl rfl dX4_counted_151 (by omega) (by omega) rfl ?_
            refine z_aload_n C dX4_counted_152 rfl 3 rfl ?_
            refine z_bipush C (v := nI (8)) (by decide) dX4_counted_153 ?_
            refine z_aload_n C dX4_counted_155 rfl 3 rfl ?_
            refine z_bipush C (v := nI (8)) (by decide) dX4_counted_156 ?_
            refine z_iald C 3 rfl 0 0 rfl rfl dX4_counted_158 (by omega) (by omega) ?_
            refine z_top (y := fl_max (σ 9) i) rfl ?_
            refine z_aload C dX4_counted_159 0 rfl ?_
            refine z_bget C 0 rfl (i := i) (by omega) 7 (by decide) (v := .int (σ 9 (i))) rfl wf_X4_81 dX4_counted_161 ?_
            refine z_mmax C wm_X4_93 ws_max wi_J9 wk_max ⟨Nat.le_of_ble_eq_true rfl, Nat.le_of_ble_eq_true rfl, (by show _ ≤ 1; omega), (by show _ ≤ 10; omega)⟩ dX4_counted_164 ?_
            refine z_iast C (B' := [(smS cB a n g σ, zZ), (smG cE n g σ en, zZ), (smP cI ps, zZ), ([(q_2, .inl (cI, 10))], (zU (zU (zU (zU (ctA n σ i) 0 (2) ((nI (fl_ct (fun b => decide (¬ σ 7 b = 0)) i)) + (zb (decide (¬ σ 7 (i) = 0))))) 0 (3) (nI ((fl_ct (fl_lead σ) i) + 0))) 0 (4) (if fl_max (σ 3) i < σ 3 (i) then σ 3 (i) else fl_max (σ 3) i)) 0 (8) (if fl_max (σ 9) i < σ 9 (i) then σ 9 (i) else fl_max (σ 9) i)))]) 3 rfl 0 0 rfl rfl dX4_counted_167 (by omega) (by omega) rfl ?_
            refine z_aload_n C dX4_counted_168 rfl 3 rfl ?_
            refine z_bipush C (v := nI (9)) (by decide) dX4_counted_169 ?_
            refine z_aload_n C dX4_counted_171 rfl 3 rfl ?_
            refine z_bipush C (v := nI (9)) (by decide) dX4_counted_172 ?_
            refine z_iald C 3 rfl 0 0 rfl rfl dX4_counted_174 (by omega) (by omega) ?_
            refine z_top (y := fl_m99 (σ 9) i) rfl ?_
            refine z_aload C dX4_counted_175 0 rfl ?_
            refine z_bget C 0 rfl (i := i) (by omega) 7 (by decide) (v := .int (σ 9 (i))) rfl wf_X4_81 dX4_counted_177 ?_
            refine z_mmin C wm_X4_99 ws_min wi_J9 wk_min ⟨Nat.le_of_ble_eq_true rfl, Nat.le_of_ble_eq_true rfl, (by show _ ≤ 1; omega), (by show _ ≤ 10; omega)⟩ dX4_counted_180 ?_
            refine z_iast C (B' := [(smS cB a n g σ, zZ), (smG cE n g σ en, zZ), (smP cI ps, zZ), ([(q_2, .inl (cI, 10))], (zU (zU (zU (zU (zU (ctA n σ i) 0 (2) ((nI (fl_ct (fun b => decide (¬ σ 7 b = 0)) i)) + (zb (decide (¬ σ 7 (i) = 0))))) 0 (3) (nI ((fl_ct (fl_lead σ) i) + 0))) 0 (4) (if fl_max (σ 3) i < σ 3 (i) then σ 3 (i) else fl_max (σ 3) i)) 0 (8) (if fl_max (σ 9) i < σ 9 (i) then σ 9 (i) else fl_max (σ 9) i)) 0 (9) (if σ 9 (i) < fl_m99 (σ 9) i then σ 9 (i) else fl_m99 (σ 9) i)))]) 3 rfl 0 0 rfl rfl dX4_counted_183 (by omega) (by omega) rfl ?_
            refine z_iinc C (L' := [(5, .int (nI (i + 1))), (6, .ref (a (2 + (i)))), (0, .ref (a 0)), (1, .int (nI (w))), (2, .ref (q_2)), (3, .ref (a 1)), (4, .int (nI (n)))]) dX4_counted_184 6 rfl (z_inc1 _) (by decide) rfl ?_
            refine z_goto C (tgt := 78) dX4_counted_187 (by decide) ?_
            refine z_eq (B' := [(smS cB a n g σ, zZ), (smG cE n g σ en, zZ), (smP cI ps, zZ), ([(q_2, .inl (cI, 10))], (ctA n σ (i + 1)))]) (by rw [← ctA_1 (n := n) (σ := σ) (i := i) (v3 := nI (fl_ct (fl_lead σ) i + 0)) (ct_zb (fun b => decide (¬ σ 7 b = 0)) i) (congrArg nI ((fl_ct_n (Bool.eq_false_iff.mpr (fun z => c_128 (lead_iff.mp z).2))).symm))]) ?_
            refine z_sub (L' := [(0, .ref (a 0)), (1, .int (nI (w))), (2, .ref (q_2)), (3, .ref (a 1)), (4, .int (nI (n))), (5, .int (nI (i + 1)))]) [2, 3, 4, 5, 6, 0] rfl ?_
            exact ih_78 (i + 1)  (by omega) (by omega) 
          · refine z_iconst C (v := nI (1)) (by decide) dX4_counted_131 ?_
            refine z_goto C (tgt := 136) dX4_counted_132 (by decide) ?_
            refine z_iaddN C dX4_counted_136 ?_
            refine z_iast C (B' := [(smS cB a n g σ, zZ), (smG cE n g σ en, zZ), (smP cI ps, zZ), ([(q_2, .inl (cI, 10))], (zU (zU (ctA n σ i) 0 (2) ((nI (fl_ct (fun b => decide (¬ σ 7 b = 0)) i)) + (zb (decide (¬ σ 7 (i) = 0))))) 0 (3) (nI ((fl_ct (fl_lead σ) i) + 1))))]) 3 rfl 0 0 rfl rfl dX4_counted_137 (by omega) (by omega) rfl ?_
            refine z_aload_n C dX4_counted_138 rfl 3 rfl ?_
            refine z_iconst C (v := nI (4)) (by decide) dX4_counted_139 ?_
            refine z_aload_n C dX4_counted_140 rfl 3 rfl ?_
            refine z_iconst C (v := nI (4)) (by decide) dX4_counted_141 ?_
            refine z_iald C 3 rfl 0 0 rfl rfl dX4_counted_142 (by omega) (by omega) ?_
            refine z_top (y := fl_max (σ 3) i) rfl ?_
            refine z_aload C dX4_counted_143 0 rfl ?_
            refine z_bget C 0 rfl (i := i) (by omega) 2 (by decide) (v := .int (σ 3 (i))) rfl wf_X4_43 dX4_counted_145 ?_
            refine z_mmax C wm_X4_93 ws_max wi_J9 wk_max ⟨Nat.le_of_ble_eq_true rfl, Nat.le_of_ble_eq_true rfl, (by show _ ≤ 1; omega), (by show _ ≤ 10; omega)⟩ dX4_counted_148 ?_
            refine z_iast C (B' := [(smS cB a n g σ, zZ), (smG cE n g σ en, zZ), (smP cI ps, zZ), ([(q_2, .inl (cI, 10))], (zU (zU (zU (ctA n σ i) 0 (2) ((nI (fl_ct (fun b => decide (¬ σ 7 b = 0)) i)) + (zb (decide (¬ σ 7 (i) = 0))))) 0 (3) (nI ((fl_ct (fl_lead σ) i) + 1))) 0 (4) (if fl_max (σ 3) i < σ 3 (i) then σ 3 (i) else fl_max (σ 3) i)))]) 3 rfl 0 0 rfl rfl dX4_counted_151 (by omega) (by omega) rfl ?_
            refine z_aload_n C dX4_counted_152 rfl 3 rfl ?_
            refine z_bipush C (v := nI (8)) (by decide) dX4_counted_153 ?_
            refine z_aload_n C dX4_counted_155 rfl 3 rfl ?_
            refine z_bipush C (v := nI (8)) (by decide) dX4_counted_156 ?_
            refine z_iald C 3 rfl 0 0 rfl rfl dX4_counted_158 (by omega) (by omega) ?_
            refine z_top (y := fl_max (σ 9) i) rfl ?_
            refine z_aload C dX4_counted_159 0 rfl ?_
            refine z_bget C 0 rfl (i := i) (by omega) 7 (by decide) (v := .int (σ 9 (i))) rfl wf_X4_81 dX4_counted_161 ?_
            refine z_mmax C wm_X4_93 ws_max wi_J9 wk_max ⟨Nat.le_of_ble_eq_true rfl, Nat.le_of_ble_eq_true rfl, (by show _ ≤ 1; omega), (by show _ ≤ 10; omega)⟩ dX4_counted_164 ?_
            refine z_iast C (B' := [(smS cB a n g σ, zZ), (smG cE n g σ en, zZ), (smP cI ps, zZ), ([(q_2, .inl (cI, 10))], (zU (zU (zU (zU (ctA n σ i) 0 (2) ((nI (fl_ct (fun b => decide (¬ σ 7 b = 0)) i)) + (zb (decide (¬ σ 7 (i) = 0))))) 0 (3) (nI ((fl_ct (fl_lead σ) i) + 1))) 0 (4) (if fl_max (σ 3) i < σ 3 (i) then σ 3 (i) else fl_max (σ 3) i)) 0 (8) (if fl_max (σ 9) i < σ 9 (i) then σ 9 (i) else fl_max (σ 9) i)))]) 3 rfl 0 0 rfl rfl dX4_counted_167 (by omega) (by omega) rfl ?_
            refine z_aload_n C dX4_counted_168 rfl 3 rfl ?_
            refine z_bipush C (v := nI (9)) (by decide) dX4_counted_169 ?_
            refine z_aload_n C dX4_counted_171 rfl 3 rfl ?_
            refine z_bipush C (v := nI (9)) (by decide) dX4_counted_172 ?_
            refine z_iald C 3 rfl 0 0 rfl rfl dX4_counted_174 (by omega) (by omega) ?_
            refine z_top (y := fl_m99 (σ 9) i) rfl ?_
            refine z_aload C dX4_counted_175 0 rfl ?_
            refine z_bget C 0 rfl (i := i) (by omega) 7 (by decide) (v := .int (σ 9 (i))) rfl wf_X4_81 dX4_counted_177 ?_
            refine z_mmin C wm_X4_99 ws_min wi_J9 wk_min ⟨Nat.le_of_ble_eq_true rfl, Nat.le_of_ble_eq_true rfl, (by show _ ≤ 1; omega), (by show _ ≤ 10; omega)⟩ dX4_counted_180 ?_
            refine z_iast C (B' := [(smS cB a n g σ, zZ), (smG cE n g σ en, zZ), (smP cI ps, zZ), ([(q_2, .inl (cI, 10))], (zU (zU (zU (zU (zU (ctA n σ i) 0 (2) ((nI (fl_ct (fun b => decide (¬ σ 7 b = 0)) i)) + (zb (decide (¬ σ 7 (i) = 0))))) 0 (3) (nI ((fl_ct (fl_lead σ) i) + 1))) 0 (4) (if fl_max (σ 3) i < σ 3 (i) then σ 3 (i) else fl_max (σ 3) i)) 0 (8) (if fl_max (σ 9) i < σ 9 (i) then σ 9 (i) else fl_max (σ 9) i)) 0 (9) (if σ 9 (i) < fl_m99 (σ 9) i then σ 9 (i) else fl_m99 (σ 9) i)))]) 3 rfl 0 0 rfl rfl dX4_counted_183 (by omega) (by omega) rfl ?_
            refine z_iinc C (L' := [(5, .int (nI (i + 1))), (6, .ref (a (2 + (i)))), (0, .ref (a 0)), (1, .int (nI (w))), (2, .ref (q_2)), (3, .ref (a 1)), (4, .int (nI (n)))]) dX4_counted_184 6 rfl (z_inc1 _) (by decide) rfl ?_
            refine z_goto C (tgt := 78) dX4_counted_187 (by decide) ?_
            refine z_eq (B' := [(smS cB a n g σ, zZ), (smG cE n g σ en, zZ), (smP cI ps, zZ), ([(q_2, .inl (cI, 10))], (ctA n σ (i + 1)))]) (by rw [← ctA_1 (n := n) (σ := σ) (i := i) (v3 := nI (fl_ct (fl_lead σ) i + 1)) (ct_zb (fun b => decide (¬ σ 7 b = 0)) i) (congrArg nI ((fl_ct_y (lead_iff.mpr ⟨c_119, c_128⟩)).symm))]) ?_
            refine z_sub (L' := [(0, .ref (a 0)), (1, .int (nI (w))), (2, .ref (q_2)), (3, .ref (a 1)), (4, .int (nI (n))), (5, .int (nI (i + 1)))]) [2, 3, 4, 5, 6, 0] rfl ?_
            exact ih_78 (i + 1)  (by omega) (by omega) 
  refine z_sub (L' := [(0, .ref (a 0)), (1, .int (nI (w))), (2, .ref (q_2)), (3, .ref (a 1)), (4, .int (nI (n))), (5, .int (nI (0)))]) [4, 5, 3, 2, 1, 0] rfl ?_
  exact loop_78 (n + 1) 0  (by omega) (by omega) 
set_option maxHeartbeats 4000000 in
set_option maxRecDepth 100000 in
theorem c_X4_isSame (l : Launch) (D : va_G) (cI cZ cB cE : ClassId) (n t : Nat) (a g fa ta : Nat → Nat) (σ τ : zF) (en : Nat → Nat → Nat) (ps : List (Nat × Int32 × Int32)) (hI : fl_Iv n σ) (hk : smK n σ en ps) (hL : fl_Lb n σ) : zM l D (tyL cI cZ cB cE) yX4_isSame cX4_isSame 13 (some .boolean) ({ frames := 8, cells := 20, slots := 200, locals := 145 } : Room) [.ref (a 0), .ref (t)] [(smS cB a n g σ, zZ), (smG cE n g σ en, zZ), (smP cI ps, zZ), (shT t fa ta, zZ), (shF fa cI cZ, σ), (shF ta cI cZ, τ)] 20 200 (fun r u => r = some (.int (nI (1))) ∧ u = [(smS cB a n g σ, zZ), (smG cE n g σ en, zZ), (smP cI ps, zZ), (shT t fa ta, zZ), (shF fa cI cZ, σ), (shF ta cI cZ, τ)]) := by
  have hn3 := hI.n3
  have hn7 := hI.n7
  refine z_of (by decide) (Nat.le_of_ble_eq_true rfl) rfl ?_
  intro p e s m args below meth c A C hr hin
  obtain ⟨Q, hQ⟩ : ∃ Q, Q = MQ below (zQ (fun r u => r = some (.int (nI (1))) ∧ u = [(smS cB a n g σ, zZ), (smG cE n g σ en, zZ), (smP cI ps, zZ), (shT t fa ta, zZ), (shF fa cI cZ, σ), (shF ta cI cZ, τ)]) D (tyL cI cZ cB cE) A) args s 20 200 A := ⟨_, rfl⟩
  rw [← hQ]
  refine z_iconst C (v := nI (0)) (by decide) dX4_isSame_0 ?_
  refine z_istore_n C (L' := [(2, .int (nI (0))), (0, .ref (a 0)), (1, .ref (t))]) dX4_isSame_1 rfl (by decide) rfl ?_
  have loop_2 : ∀ (k_2 w : Nat) (cc : Nat) (ss : Nat), 10 < w + k_2 → w ≤ 10 → (hcc : cc ≤ w) → (hss : ss ≤ 10 * w) → zK p l e ({ frames := 8, cells := 20, slots := 200, locals := 145 } : Room) s m args below meth c D A 13 Q cc ss 2 [(0, .ref (a 0)), (1, .ref (t)), (2, .int (nI (w)))] [] [(smS cB a n g σ, zZ), (smG cE n g σ en, zZ), (smP cI ps, zZ), (shT t fa ta, zZ), (shF fa cI cZ, σ), (shF ta cI cZ, τ)] := by
    intro k_2
    induction k_2 with
    | zero => intro w cc ss m1_2 m2_2; exact absurd m1_2 (by omega)
    | succ k_2 ih_2 =>
      intro w cc ss m1_2 m2_2 hcc hss
      refine z_iload_n C dX4_isSame_2 rfl 2 rfl ?_
      refine z_bipush C (v := nI (10)) (by decide) dX4_isSame_3 ?_
      refine z_icmp_geN C (tgt := 29) dX4_isSame_5 (by decide) (by omega) (by omega) (fun c_5 => ?_) (fun c_5 => ?_)
      · refine z_iconst C (v := nI (0)) (by decide) dX4_isSame_29 ?_
        refine z_istore_n C (L' := [(2, .int (nI (0))), (0, .ref (a 0)), (1, .ref (t))]) dX4_isSame_30 rfl (by decide) rfl ?_
        refine z_iconst C (v := -1) (by decide) dX4_isSame_31 ?_
        refine z_istore_n C (L' := [(3, .int (-1)), (2, .int (nI (0))), (0, .ref (a 0)), (1, .ref (t))]) dX4_isSame_32 rfl (by decide) rfl ?_
        refine z_iconst C (v := nI (0)) (by decide) dX4_isSame_33 ?_
        refine z_istore C (L' := [(4, .int (nI (0))), (3, .int (-1)), (2, .int (nI (0))), (0, .ref (a 0)), (1, .ref (t))]) dX4_isSame_34 (by decide) rfl ?_
        have loop_36 : ∀ (k_36 b : Nat) (cc : Nat) (ss : Nat), n < b + k_36 → b ≤ n → (hcc : cc ≤ 10 + b) → (hss : ss ≤ 100 + 10 * b) → zK p l e ({ frames := 8, cells := 20, slots := 200, locals := 145 } : Room) s m args below meth c D A 13 Q cc ss 36 [(0, .ref (a 0)), (1, .ref (t)), (2, .int (nI (fl_sm (fl_kn σ) b))), (3, .int (fl_oI (fl_ldr σ b))), (4, .int (nI (b)))] [] [(smS cB a n g σ, zZ), (smG cE n g σ en, zZ), (smP cI ps, zZ), (shT t fa ta, zZ), (shF fa cI cZ, σ), (shF ta cI cZ, τ)] := by
          intro k_36
          induction k_36 with
          | zero => intro b cc ss m1_36 m2_36; exact absurd m1_36 (by omega)
          | succ k_36 ih_36 =>
            intro b cc ss m1_36 m2_36 hcc hss
            refine z_iload C dX4_isSame_36 4 rfl ?_
            refine z_aload_n C dX4_isSame_38 rfl 0 rfl ?_
            refine z_sget C 0 rfl 4 (by decide) (v := .ref (a 1)) rfl wf_X4_9 dX4_isSame_39 ?_
            refine z_alenB C 0 rfl dX4_isSame_42 ?_
            refine z_icmp_geN C (tgt := 449) dX4_isSame_43 (by decide) (by omega) (by omega) (fun c_43 => ?_) (fun c_43 => ?_)
            · have hbn9 : n = b := by omega
              subst hbn9
              refine z_iconst C (v := nI (0)) (by decide) dX4_isSame_449 ?_
              refine z_istore C (L' := [(4, .int (nI (0))), (0, .ref (a 0)), (1, .ref (t)), (2, .int (nI (fl_sm (fl_kn σ) n))), (3, .int (fl_oI (fl_ldr σ n)))]) dX4_isSame_450 (by decide) rfl ?_
              have loop_452 : ∀ (k_452 h : Nat), 3 < h + k_452 → h ≤ 3 → zK p l e ({ frames := 8, cells := 20, slots := 200, locals := 145 } : Room) s m args below meth c D A 13 Q cc ss 452 [(0, .ref (a 0)), (1, .ref (t)), (2, .int (nI (fl_sm (fl_kn σ) n))), (3, .int (fl_oI (fl_ldr σ n))), (4, .int (nI (h)))] [] [(smS cB a n g σ, zZ), (smG cE n g σ en, zZ), (smP cI ps, zZ), (shT t fa ta, zZ), (shF fa cI cZ, σ), (shF ta cI cZ, τ)] := by
                intro k_452
                induction k_452 with
                | zero => intro h  m1_452 m2_452; exact absurd m1_452 (by omega)
                | succ k_452 ih_452 =>
                  intro h  m1_452 m2_452 
                  refine z_iload C dX4_isSame_452 4 rfl ?_
                  refine z_iconst C (v := nI (3)) (by decide) dX4_isSame_454 ?_
                  refine z_icmp_geN C (tgt := 606) dX4_isSame_455 (by decide) (by omega) (by omega) (fun c_455 => ?_) (fun c_455 => ?_)
                  · refine z_aload_n C dX4_isSame_606 rfl 1 rfl ?_
                    refine z_cV C (st' := [.int (fl_oI (fl_ldr σ n))]) (B' := [(smS cB a n g σ, zZ), (smG cE n g σ en, zZ), (smP cI ps, zZ), (shT t fa ta, zZ), (shF fa cI cZ, σ), (shF ta cI cZ, τ)]) [false, false, false, true, true, true] rfl (c_X2_leader l D cI cZ cB cE t fa ta σ τ n hI  ) wq_yX2_leader wm_X4_133 ⟨wn_yX2_leader, wo_yX2_leader⟩ ⟨rfl, rfl, Nat.le_of_ble_eq_true rfl, Nat.le_of_ble_eq_true rfl⟩ 3 rfl 0 rfl rfl rfl rfl (Nat.le_of_ble_eq_true rfl) dX4_isSame_607 ⟨(by show _ ≤ 20; omega), (by show _ ≤ 200; omega)⟩ rfl rfl ?_
                    refine z_iload_n C dX4_isSame_610 rfl 3 rfl ?_
                    refine z_icmp_ne C (tgt := 635) dX4_isSame_611 (by decide) (fun c_611 => ?_) (fun c_611 => ?_)
                    · exact absurd rfl c_611
                    · refine z_aload_n C dX4_isSame_614 rfl 1 rfl ?_
                      refine z_cV C (st' := [.double (FP.ddiv (FP.i2d (nI (fl_sm (fl_kn σ) n))) (FP.i2d (nI (n))))]) (B' := [(smS cB a n g σ, zZ), (smG cE n g σ en, zZ), (smP cI ps, zZ), (shT t fa ta, zZ), (shF fa cI cZ, σ), (shF ta cI cZ, τ)]) [false, false, false, true, true, true] rfl (c_X2_mean l D cI cZ cB cE t fa ta σ τ n hI  ) wq_yX2_mean wm_X4_136 ⟨wn_yX2_mean, wo_yX2_mean⟩ ⟨rfl, rfl, Nat.le_of_ble_eq_true rfl, Nat.le_of_ble_eq_true rfl⟩ 3 rfl 0 rfl rfl rfl rfl (Nat.le_of_ble_eq_true rfl) dX4_isSame_615 ⟨(by show _ ≤ 20; omega), (by show _ ≤ 200; omega)⟩ rfl rfl ?_
                      refine z_iload_n C dX4_isSame_618 rfl 2 rfl ?_
                      refine z_i2d C dX4_isSame_619 ?_
                      refine z_aload_n C dX4_isSame_620 rfl 0 rfl ?_
                      refine z_sget C 0 rfl 4 (by decide) (v := .ref (a 1)) rfl wf_X4_9 dX4_isSame_621 ?_
                      refine z_alenB C 0 rfl dX4_isSame_624 ?_
                      refine z_i2d C dX4_isSame_625 ?_
                      refine z_ddiv C (fl_dd (by have := fl_sm_le (f := fl_kn σ) (fun i hi => hI.knT hi) n (Nat.le_refl n); omega) hn3 hn7) dX4_isSame_626 ?_
                      refine z_dcmp C dX4_isSame_627 ?_
                      refine z_if_ne C (tgt := 635) dX4_isSame_628 (by decide) (fun c_628 => ?_) (fun c_628 => ?_)
                      · exact absurd (fl_dceq hI) c_628
                      · refine z_iconst C (v := nI (1)) (by decide) dX4_isSame_631 ?_
                        refine z_goto C (tgt := 636) dX4_isSame_632 (by decide) ?_
                        refine z_widen (k := 20) (n := 200) (by omega) (by omega) ?_
                        rw [hQ]; exact z_zret C hr nar_1 dX4_isSame_636 ⟨rfl, rfl⟩
                  · refine z_iconst C (v := nI (0)) (by decide) dX4_isSame_458 ?_
                    refine z_istore C (L' := [(5, .int (nI (0))), (0, .ref (a 0)), (1, .ref (t)), (2, .int (nI (fl_sm (fl_kn σ) n))), (3, .int (fl_oI (fl_ldr σ n))), (4, .int (nI (h)))]) dX4_isSame_459 (by decide) rfl ?_
                    refine z_iconst C (v := -1) (by decide) dX4_isSame_461 ?_
                    refine z_istore C (L' := [(6, .int (-1)), (5, .int (nI (0))), (0, .ref (a 0)), (1, .ref (t)), (2, .int (nI (fl_sm (fl_kn σ) n))), (3, .int (fl_oI (fl_ldr σ n))), (4, .int (nI (h)))]) dX4_isSame_462 (by decide) rfl ?_
                    refine z_aload_n C dX4_isSame_464 rfl 2 rfl ?_
                    refine z_sget C 0 rfl 4 (by decide) (v := .ref (a 1)) rfl wf_X4_9 dX4_isSame_465 ?_
                    refine z_alenB C 0 rfl dX4_isSame_468 ?_
                    refine z_iconst C (v := nI (1)) (by decide) dX4_isSame_469 ?_
                    refine z_isubN C dX4_isSame_470 (by omega) ?_
                    refine z_istore C (L' := [(7, .int (nI (n - 1))), (6, .int (-1)), (5, .int (nI (0))), (0, .ref (a 0)), (1, .ref (t)), (2, .int (nI (fl_sm (fl_kn σ) n))), (3, .int (fl_oI (fl_ldr σ n))), (4, .int (nI (h)))]) dX4_isSame_471 (by decide) rfl ?_
                    have loop_473 : ∀ (j many : Nat) (bo : Option Nat), j ≤ n → many + fl_ct (pH σ h) j = fl_ct (pH σ h) n → nwB σ h n j bo → zK p l e ({ frames := 8, cells := 20, slots := 200, locals := 145 } : Room) s m args below meth c D A 13 Q cc ss 473 [(0, .ref (a 0)), (1, .ref (t)), (2, .int (nI (fl_sm (fl_kn σ) n))), (3, .int (fl_oI (fl_ldr σ n))), (4, .int (nI (h))), (5, .int (nI (many))), (6, .int (fl_oI bo)), (7, .int (pd j))] [] [(smS cB a n g σ, zZ), (smG cE n g σ en, zZ), (smP cI ps, zZ), (shT t fa ta, zZ), (shF fa cI cZ, σ), (shF ta cI cZ, τ)] := by
                      intro j
                      induction j with
                      | zero =>
                        intro many bo hjn hmany hbo
                        refine z_sub (L' := [(0, .ref (a 0)), (1, .ref (t)), (2, .int (nI (fl_sm (fl_kn σ) n))), (3, .int (fl_oI (fl_ldr σ n))), (4, .int (nI (h))), (5, .int (nI (many))), (6, .int (fl_oI bo)), (7, .int (-1))]) [0, 1, 2, 3, 4, 5, 6, 7] rfl ?_
                        refine z_iload C dX4_isSame_473 7 rfl ?_
                        refine z_if_lt C (tgt := 547) dX4_isSame_475 (by decide) (fun c_475 => ?_) (fun c_475 => ?_)
                        · have hup : many = fl_upIn n σ (nI h) := hmany
                          have hbo2 : bo = fl_nwst σ (nI h) n := nwB_uniq hbo (nwst_B σ h n)
                          have hupl := fl_ct_le (pH σ h) n
                          have hupm : fl_upIn n σ (nI h) ≤ n := hupl
                          refine z_aload_n C dX4_isSame_547 rfl 1 rfl ?_
                          refine z_iload C dX4_isSame_548 4 rfl ?_
                          refine z_iconst C (v := nI (0)) (by decide) dX4_isSame_550 ?_
                          refine z_cV C (st' := [.int (nI (fl_upIn n σ (nI h)))]) (B' := [(smS cB a n g σ, zZ), (smG cE n g σ en, zZ), (smP cI ps, zZ), (shT t fa ta, zZ), (shF fa cI cZ, σ), (shF ta cI cZ, τ)]) [false, false, false, true, true, true] rfl (c_X2_harbour l D cI cZ cB cE t fa ta σ τ n hI h 0 (by omega) (by omega)) wq_yX2_harbour wm_X4_131 ⟨wn_yX2_harbour, wo_yX2_harbour⟩ ⟨rfl, rfl, Nat.le_of_ble_eq_true rfl, Nat.le_of_ble_eq_true rfl⟩ 3 rfl 0 rfl rfl rfl rfl (Nat.le_of_ble_eq_true rfl) dX4_isSame_551 ⟨(by show _ ≤ 20; omega), (by show _ ≤ 200; omega)⟩ rfl rfl ?_
                          refine z_iload C dX4_isSame_554 5 rfl ?_
                          refine z_icmp_neN C (tgt := 598) dX4_isSame_556 (by decide) (by omega) (by omega) (fun c_556 => ?_) (fun c_556 => ?_)
                          · exact absurd hup.symm c_556
                          · refine z_aload_n C dX4_isSame_559 rfl 1 rfl ?_
                            refine z_iload C dX4_isSame_560 4 rfl ?_
                            refine z_iconst C (v := nI (1)) (by decide) dX4_isSame_562 ?_
                            refine z_cV C (st' := [.int (zb (decide (n / 2 < fl_upIn n σ (nI h))))]) (B' := [(smS cB a n g σ, zZ), (smG cE n g σ en, zZ), (smP cI ps, zZ), (shT t fa ta, zZ), (shF fa cI cZ, σ), (shF ta cI cZ, τ)]) [false, false, false, true, true, true] rfl (c_X2_harbour l D cI cZ cB cE t fa ta σ τ n hI h 1 (by omega) (by omega)) wq_yX2_harbour wm_X4_131 ⟨wn_yX2_harbour, wo_yX2_harbour⟩ ⟨rfl, rfl, Nat.le_of_ble_eq_true rfl, Nat.le_of_ble_eq_true rfl⟩ 3 rfl 0 rfl rfl rfl rfl (Nat.le_of_ble_eq_true rfl) dX4_isSame_563 ⟨(by show _ ≤ 20; omega), (by show _ ≤ 200; omega)⟩ rfl rfl ?_
                            refine z_iconst C (v := nI (2)) (by decide) dX4_isSame_566 ?_
                            refine z_iload C dX4_isSame_567 5 rfl ?_
                            refine z_imulN C dX4_isSame_569 ?_
                            refine z_aload_n C dX4_isSame_570 rfl 0 rfl ?_
                            refine z_sget C 0 rfl 4 (by decide) (v := .ref (a 1)) rfl wf_X4_9 dX4_isSame_571 ?_
                            refine z_alenB C 0 rfl dX4_isSame_574 ?_
                            refine z_icmp_leN C (tgt := 582) dX4_isSame_575 (by decide) (by omega) (by omega) (fun c_575 => ?_) (fun c_575 => ?_)
                            · refine z_iconst C (v := nI (0)) (by decide) dX4_isSame_582 ?_
                              refine z_icmp_ne C (tgt := 598) dX4_isSame_583 (by decide) (fun c_583 => ?_) (fun c_583 => ?_)
                              · exact absurd (by rw [decide_eq_false (by omega)]; rfl) c_583
                              · refine z_aload_n C dX4_isSame_586 rfl 1 rfl ?_
                                refine z_iload C dX4_isSame_587 4 rfl ?_
                                refine z_iconst C (v := nI (2)) (by decide) dX4_isSame_589 ?_
                                refine z_cV C (st' := [.int (fl_oI (fl_nwst σ (nI h) n))]) (B' := [(smS cB a n g σ, zZ), (smG cE n g σ en, zZ), (smP cI ps, zZ), (shT t fa ta, zZ), (shF fa cI cZ, σ), (shF ta cI cZ, τ)]) [false, false, false, true, true, true] rfl (c_X2_harbour l D cI cZ cB cE t fa ta σ τ n hI h 2 (by omega) (by omega)) wq_yX2_harbour wm_X4_131 ⟨wn_yX2_harbour, wo_yX2_harbour⟩ ⟨rfl, rfl, Nat.le_of_ble_eq_true rfl, Nat.le_of_ble_eq_true rfl⟩ 3 rfl 0 rfl rfl rfl rfl (Nat.le_of_ble_eq_true rfl) dX4_isSame_590 ⟨(by show _ ≤ 20; omega), (by show _ ≤ 200; omega)⟩ rfl rfl ?_
                                refine z_iload C dX4_isSame_593 6 rfl ?_
                                refine z_icmp_eq C (tgt := 600) dX4_isSame_595 (by decide) (fun c_595 => ?_) (fun c_595 => ?_)
                                · refine z_iinc C (L' := [(4, .int (nI (h + 1))), (0, .ref (a 0)), (1, .ref (t)), (2, .int (nI (fl_sm (fl_kn σ) n))), (3, .int (fl_oI (fl_ldr σ n))), (5, .int (nI (many))), (6, .int (fl_oI bo)), (7, .int (-1))]) dX4_isSame_600 4 rfl (z_inc1 _) (by decide) rfl ?_
                                  refine z_goto C (tgt := 452) dX4_isSame_603 (by decide) ?_
                                  refine z_sub (L' := [(0, .ref (a 0)), (1, .ref (t)), (2, .int (nI (fl_sm (fl_kn σ) n))), (3, .int (fl_oI (fl_ldr σ n))), (4, .int (nI (h + 1)))]) [1, 2, 3, 4, 0] rfl ?_
                                  exact ih_452 (h + 1)  (by omega) (by omega) 
                                · exact absurd (by rw [hbo2]) c_595
                            · refine z_iconst C (v := nI (1)) (by decide) dX4_isSame_578 ?_
                              refine z_goto C (tgt := 583) dX4_isSame_579 (by decide) ?_
                              refine z_icmp_ne C (tgt := 598) dX4_isSame_583 (by decide) (fun c_583 => ?_) (fun c_583 => ?_)
                              · exact absurd (by rw [decide_eq_true (by omega)]; rfl) c_583
                              · refine z_aload_n C dX4_isSame_586 rfl 1 rfl ?_
                                refine z_iload C dX4_isSame_587 4 rfl ?_
                                refine z_iconst C (v := nI (2)) (by decide) dX4_isSame_589 ?_
                                refine z_cV C (st' := [.int (fl_oI (fl_nwst σ (nI h) n))]) (B' := [(smS cB a n g σ, zZ), (smG cE n g σ en, zZ), (smP cI ps, zZ), (shT t fa ta, zZ), (shF fa cI cZ, σ), (shF ta cI cZ, τ)]) [false, false, false, true, true, true] rfl (c_X2_harbour l D cI cZ cB cE t fa ta σ τ n hI h 2 (by omega) (by omega)) wq_yX2_harbour wm_X4_131 ⟨wn_yX2_harbour, wo_yX2_harbour⟩ ⟨rfl, rfl, Nat.le_of_ble_eq_true rfl, Nat.le_of_ble_eq_true rfl⟩ 3 rfl 0 rfl rfl rfl rfl (Nat.le_of_ble_eq_true rfl) dX4_isSame_590 ⟨(by show _ ≤ 20; omega), (by show _ ≤ 200; omega)⟩ rfl rfl ?_
                                refine z_iload C dX4_isSame_593 6 rfl ?_
                                refine z_icmp_eq C (tgt := 600) dX4_isSame_595 (by decide) (fun c_595 => ?_) (fun c_595 => ?_)
                                · refine z_iinc C (L' := [(4, .int (nI (h + 1))), (0, .ref (a 0)), (1, .ref (t)), (2, .int (nI (fl_sm (fl_kn σ) n))), (3, .int (fl_oI (fl_ldr σ n))), (5, .int (nI (many))), (6, .int (fl_oI bo)), (7, .int (-1))]) dX4_isSame_600 4 rfl (z_inc1 _) (by decide) rfl ?_
                                  refine z_goto C (tgt := 452) dX4_isSame_603 (by decide) ?_
                                  refine z_sub (L' := [(0, .ref (a 0)), (1, .ref (t)), (2, .int (nI (fl_sm (fl_kn σ) n))), (3, .int (fl_oI (fl_ldr σ n))), (4, .int (nI (h + 1)))]) [1, 2, 3, 4, 0] rfl ?_
                                  exact ih_452 (h + 1)  (by omega) (by omega) 
                                · exact absurd (by rw [hbo2]) c_595
                        · exact absurd (by decide) c_475
                      | succ j ih_473 =>
                        intro many bo hjn hmany hbo
                        refine z_sub (L' := [(0, .ref (a 0)), (1, .ref (t)), (2, .int (nI (fl_sm (fl_kn σ) n))), (3, .int (fl_oI (fl_ldr σ n))), (4, .int (nI (h))), (5, .int (nI (many))), (6, .int (fl_oI bo)), (7, .int (nI (j)))]) [0, 1, 2, 3, 4, 5, 6, 7] rfl ?_
                        refine z_iload C dX4_isSame_473 7 rfl ?_
                        refine z_if_ltN C (tgt := 547) dX4_isSame_475 (by decide) (by omega) ?_
                        refine z_aload_n C dX4_isSame_478 rfl 0 rfl ?_
                        refine z_sget C 0 rfl 4 (by decide) (v := .ref (a 1)) rfl wf_X4_9 dX4_isSame_479 ?_
                        refine z_iload C dX4_isSame_482 7 rfl ?_
                        refine z_aB C 0 rfl (i := j) (by omega) (by omega) dX4_isSame_484 ?_
                        refine z_bget C 0 rfl (i := j) (by omega) 6 (by decide) (v := .int (σ 7 (j))) rfl wf_X4_36 dX4_isSame_485 ?_
                        refine z_if_eq C (tgt := 541) dX4_isSame_488 (by decide) (fun c_488 => ?_) (fun c_488 => ?_)
                        · refine z_iinc C (L' := [(7, .int (pd j)), (0, .ref (a 0)), (1, .ref (t)), (2, .int (nI (fl_sm (fl_kn σ) n))), (3, .int (fl_oI (fl_ldr σ n))), (4, .int (nI (h))), (5, .int (nI (many))), (6, .int (fl_oI bo))]) dX4_isSame_541 7 rfl (pd_dec j) (by decide) rfl ?_
                          refine z_goto C (tgt := 473) dX4_isSame_544 (by decide) ?_
                          refine z_sub (L' := [(0, .ref (a 0)), (1, .ref (t)), (2, .int (nI (fl_sm (fl_kn σ) n))), (3, .int (fl_oI (fl_ldr σ n))), (4, .int (nI (h))), (5, .int (nI (many))), (6, .int (fl_oI bo)), (7, .int (pd j))]) [1, 2, 3, 4, 5, 6, 7, 0] rfl ?_
                          exact ih_473 many bo (by omega) (by rw [← hmany, fl_ct_n (pH_f (Or.inl c_488))]) (nwB_skip (by rw [pH_f (Or.inl c_488)]; decide) hbo)
                        · refine z_aload_n C dX4_isSame_491 rfl 0 rfl ?_
                          refine z_sget C 0 rfl 4 (by decide) (v := .ref (a 1)) rfl wf_X4_9 dX4_isSame_492 ?_
                          refine z_iload C dX4_isSame_495 7 rfl ?_
                          refine z_aB C 0 rfl (i := j) (by omega) (by omega) dX4_isSame_497 ?_
                          refine z_bget C 0 rfl (i := j) (by omega) 5 (by decide) (v := .int (σ 6 (j))) rfl wf_X4_40 dX4_isSame_498 ?_
                          refine z_iload C dX4_isSame_501 4 rfl ?_
                          refine z_icmp_eq C (tgt := 509) dX4_isSame_503 (by decide) (fun c_503 => ?_) (fun c_503 => ?_)
                          · refine z_iinc C (L' := [(5, .int (nI (many + 1))), (0, .ref (a 0)), (1, .ref (t)), (2, .int (nI (fl_sm (fl_kn σ) n))), (3, .int (fl_oI (fl_ldr σ n))), (4, .int (nI (h))), (6, .int (fl_oI bo)), (7, .int (nI (j)))]) dX4_isSame_509 5 rfl (z_inc1 _) (by decide) rfl ?_
                            rcases bo with _ | b9
                            · refine z_sub (L' := [(5, .int (nI (many + 1))), (0, .ref (a 0)), (1, .ref (t)), (2, .int (nI (fl_sm (fl_kn σ) n))), (3, .int (fl_oI (fl_ldr σ n))), (4, .int (nI (h))), (6, .int (-1)), (7, .int (nI (j)))]) [0, 1, 2, 3, 4, 5, 6, 7] rfl ?_
                              refine z_iload C dX4_isSame_512 6 rfl ?_
                              refine z_if_lt C (tgt := 537) dX4_isSame_514 (by decide) (fun c_514 => ?_) (fun c_514 => ?_)
                              · refine z_iload C dX4_isSame_537 7 rfl ?_
                                refine z_istore C (L' := [(6, .int (nI (j))), (5, .int (nI (many + 1))), (0, .ref (a 0)), (1, .ref (t)), (2, .int (nI (fl_sm (fl_kn σ) n))), (3, .int (fl_oI (fl_ldr σ n))), (4, .int (nI (h))), (7, .int (nI (j)))]) dX4_isSame_539 (by decide) rfl ?_
                                refine z_iinc C (L' := [(7, .int (pd j)), (6, .int (nI (j))), (5, .int (nI (many + 1))), (0, .ref (a 0)), (1, .ref (t)), (2, .int (nI (fl_sm (fl_kn σ) n))), (3, .int (fl_oI (fl_ldr σ n))), (4, .int (nI (h)))]) dX4_isSame_541 7 rfl (pd_dec j) (by decide) rfl ?_
                                refine z_goto C (tgt := 473) dX4_isSame_544 (by decide) ?_
                                refine z_sub (L' := [(0, .ref (a 0)), (1, .ref (t)), (2, .int (nI (fl_sm (fl_kn σ) n))), (3, .int (fl_oI (fl_ldr σ n))), (4, .int (nI (h))), (5, .int (nI (many + 1))), (6, .int (nI (j))), (7, .int (pd j))]) [3, 4, 5, 6, 7, 2, 1, 0] rfl ?_
                                exact ih_473 (many + 1) (some j) (by omega) (by rw [← hmany, fl_ct_y (pH_t c_488 c_503)]; omega) (nwB_new (by omega) (pH_t c_488 c_503) hbo (fun b z => nomatch z))
                              · exact absurd (by decide) c_514
                            · have hb9 : b9 < n := hbo.2.1
                              refine z_sub (L' := [(5, .int (nI (many + 1))), (0, .ref (a 0)), (1, .ref (t)), (2, .int (nI (fl_sm (fl_kn σ) n))), (3, .int (fl_oI (fl_ldr σ n))), (4, .int (nI (h))), (6, .int (nI (b9))), (7, .int (nI (j)))]) [0, 1, 2, 3, 4, 5, 6, 7] rfl ?_
                              refine z_iload C dX4_isSame_512 6 rfl ?_
                              refine z_if_ltN C (tgt := 537) dX4_isSame_514 (by decide) (by omega) ?_
                              refine z_aload_n C dX4_isSame_517 rfl 1 rfl ?_
                              refine z_sget C 0 rfl 4 (by decide) (v := .ref (a 1)) rfl wf_X4_9 dX4_isSame_518 ?_
                              refine z_iload C dX4_isSame_521 7 rfl ?_
                              refine z_aB C 0 rfl (i := j) (by omega) (by omega) dX4_isSame_523 ?_
                              refine z_aload_n C dX4_isSame_524 rfl 1 rfl ?_
                              refine z_sget C 0 rfl 4 (by decide) (v := .ref (a 1)) rfl wf_X4_9 dX4_isSame_525 ?_
                              refine z_iload C dX4_isSame_528 6 rfl ?_
                              refine z_aB C 0 rfl (i := b9) (by omega) (by omega) dX4_isSame_530 ?_
                              refine z_cVR C (st' := [.int (zb (fl_nw σ (j) (b9)))]) (B' := [(smS cB a n g σ, zZ), (smG cE n g σ en, zZ), (smP cI ps, zZ), (shT t fa ta, zZ), (shF fa cI cZ, σ), (shF ta cI cZ, τ)]) [true, true, true, false, false, false] rfl (c_X3_isAsNew l D cI cZ cB cE n a g σ en ps hI hk hL (j) (b9) (by omega) (by omega)) wq_yX3_isAsNew wm_X4_65 ⟨wn_yX3_isAsNew, wo_yX3_isAsNew⟩ ⟨rfl, rfl, Nat.le_of_ble_eq_true rfl, Nat.le_of_ble_eq_true rfl⟩ 0 rfl (2 + (j)) (smS_b (by omega)) rfl rfl rfl (Nat.le_of_ble_eq_true rfl) dX4_isSame_531 ⟨(by show _ ≤ 20; omega), (by show _ ≤ 200; omega)⟩ rfl rfl ?_
                              refine z_if_eqB C (tgt := 541) dX4_isSame_534 (by decide) (fun c_534 => ?_) (fun c_534 => ?_)
                              · refine z_iinc C (L' := [(7, .int (pd j)), (5, .int (nI (many + 1))), (0, .ref (a 0)), (1, .ref (t)), (2, .int (nI (fl_sm (fl_kn σ) n))), (3, .int (fl_oI (fl_ldr σ n))), (4, .int (nI (h))), (6, .int (nI (b9)))]) dX4_isSame_541 7 rfl (pd_dec j) (by decide) rfl ?_
                                refine z_goto C (tgt := 473) dX4_isSame_544 (by decide) ?_
                                refine z_sub (L' := [(0, .ref (a 0)), (1, .ref (t)), (2, .int (nI (fl_sm (fl_kn σ) n))), (3, .int (fl_oI (fl_ldr σ n))), (4, .int (nI (h))), (5, .int (nI (many + 1))), (6, .int (nI (b9))), (7, .int (pd j))]) [2, 3, 4, 5, 6, 1, 7, 0] rfl ?_
                                exact ih_473 (many + 1) (some b9) (by omega) (by rw [← hmany, fl_ct_y (pH_t c_488 c_503)]; omega) (nwB_old hbo (by rw [c_534]; decide))
                              · refine z_iload C dX4_isSame_537 7 rfl ?_
                                refine z_istore C (L' := [(6, .int (nI (j))), (5, .int (nI (many + 1))), (0, .ref (a 0)), (1, .ref (t)), (2, .int (nI (fl_sm (fl_kn σ) n))), (3, .int (fl_oI (fl_ldr σ n))), (4, .int (nI (h))), (7, .int (nI (j)))]) dX4_isSame_539 (by decide) rfl ?_
                                refine z_iinc C (L' := [(7, .int (pd j)), (6, .int (nI (j))), (5, .int (nI (many + 1))), (0, .ref (a 0)), (1, .ref (t)), (2, .int (nI (fl_sm (fl_kn σ) n))), (3, .int (fl_oI (fl_ldr σ n))), (4, .int (nI (h)))]) dX4_isSame_541 7 rfl (pd_dec j) (by decide) rfl ?_
                                refine z_goto C (tgt := 473) dX4_isSame_544 (by decide) ?_
                                refine z_sub (L' := [(0, .ref (a 0)), (1, .ref (t)), (2, .int (nI (fl_sm (fl_kn σ) n))), (3, .int (fl_oI (fl_ldr σ n))), (4, .int (nI (h))), (5, .int (nI (many + 1))), (6, .int (nI (j))), (7, .int (pd j))]) [3, 4, 5, 6, 7, 2, 1, 0] rfl ?_
                                exact ih_473 (many + 1) (some j) (by omega) (by rw [← hmany, fl_ct_y (pH_t c_488 c_503)]; omega) (nwB_new (by omega) (pH_t c_488 c_503) hbo (fun b z => by cases z; exact c_534))
                          · refine z_goto C (tgt := 541) dX4_isSame_506 (by decide) ?_
                            refine z_iinc C (L' := [(7, .int (pd j)), (0, .ref (a 0)), (1, .ref (t)), (2, .int (nI (fl_sm (fl_kn σ) n))), (3, .int (fl_oI (fl_ldr σ n))), (4, .int (nI (h))), (5, .int (nI (many))), (6, .int (fl_oI bo))]) dX4_isSame_541 7 rfl (pd_dec j) (by decide) rfl ?_
                            refine z_goto C (tgt := 473) dX4_isSame_544 (by decide) ?_
                            refine z_sub (L' := [(0, .ref (a 0)), (1, .ref (t)), (2, .int (nI (fl_sm (fl_kn σ) n))), (3, .int (fl_oI (fl_ldr σ n))), (4, .int (nI (h))), (5, .int (nI (many))), (6, .int (fl_oI bo)), (7, .int (pd j))]) [1, 2, 3, 4, 5, 6, 7, 0] rfl ?_
                            exact ih_473 many bo (by omega) (by rw [← hmany, fl_ct_n (pH_f (Or.inr c_503))]) (nwB_skip (by rw [pH_f (Or.inr c_503)]; decide) hbo)
                    refine z_sub (L' := [(0, .ref (a 0)), (1, .ref (t)), (2, .int (nI (fl_sm (fl_kn σ) n))), (3, .int (fl_oI (fl_ldr σ n))), (4, .int (nI (h))), (5, .int (nI (0))), (6, .int (-1)), (7, .int (nI (n - 1)))]) [3, 4, 5, 6, 7, 2, 1, 0] rfl ?_
                    have hn19 : (n - 1 : Nat) = n - 1 := rfl
                    obtain ⟨n9, hn9⟩ : ∃ q, n = q + 1 := ⟨n - 1, by omega⟩
                    have hpd : nI (n - 1) = pd n := by rw [hn9]; rfl
                    rw [hpd]
                    exact loop_473 n 0 none (Nat.le_refl n) (by omega) (fun k h1 h2 => absurd h2 (by omega))
              refine z_sub (L' := [(0, .ref (a 0)), (1, .ref (t)), (2, .int (nI (fl_sm (fl_kn σ) n))), (3, .int (fl_oI (fl_ldr σ n))), (4, .int (nI (0)))]) [1, 2, 3, 4, 0] rfl ?_
              exact loop_452 (3 + 1) 0  (by omega) (by omega) 
            · refine z_aload_n C dX4_isSame_46 rfl 0 rfl ?_
              refine z_sget C 0 rfl 4 (by decide) (v := .ref (a 1)) rfl wf_X4_9 dX4_isSame_47 ?_
              refine z_iload C dX4_isSame_50 4 rfl ?_
              refine z_aB C 0 rfl (i := b) (by omega) (by omega) dX4_isSame_52 ?_
              refine z_astore C (L' := [(5, .ref (a (2 + (b)))), (0, .ref (a 0)), (1, .ref (t)), (2, .int (nI (fl_sm (fl_kn σ) b))), (3, .int (fl_oI (fl_ldr σ b))), (4, .int (nI (b)))]) dX4_isSame_53 (by decide) rfl ?_
              refine z_bipush C (v := nI (10)) (by decide) dX4_isSame_55 ?_
              refine z_newa C (atype := .int) (ty := .int) (cA := cI) 0 wa_int rfl rfl rfl (C.2.2.2.2.2.1.2 0 _ rfl).2 (by omega) (by decide) ⟨by show _ ≤ 20; omega, by show _ ≤ 200; omega⟩ dX4_isSame_57 (fun q_57 => ?_)
              refine z_eq (B' := [(smS cB a n g σ, zZ), (smG cE n g σ en, zZ), (smP cI ps, zZ), (shT t fa ta, zZ), (shF fa cI cZ, σ), (shF ta cI cZ, τ), ([(q_57, .inl (cI, 10))], zZ)]) rfl ?_
              refine z_dup C rfl dX4_isSame_59 ?_
              refine z_iconst C (v := nI (0)) (by decide) dX4_isSame_60 ?_
              refine z_aload C dX4_isSame_61 0 rfl ?_
              refine z_bget C 0 rfl (i := b) (by omega) 2 (by decide) (v := .int (σ 3 (b))) rfl wf_X4_43 dX4_isSame_63 ?_
              refine z_iast C (B' := [(smS cB a n g σ, zZ), (smG cE n g σ en, zZ), (smP cI ps, zZ), (shT t fa ta, zZ), (shF fa cI cZ, σ), (shF ta cI cZ, τ), ([(q_57, .inl (cI, 10))], (zU zZ 0 (0) (σ 3 (b))))]) 6 rfl 0 0 rfl rfl dX4_isSame_66 (by omega) (by omega) rfl ?_
              refine z_dup C rfl dX4_isSame_67 ?_
              refine z_iconst C (v := nI (1)) (by decide) dX4_isSame_68 ?_
              refine z_aload C dX4_isSame_69 0 rfl ?_
              refine z_bget C 0 rfl (i := b) (by omega) 3 (by decide) (v := .int (σ 4 (b))) rfl wf_X4_49 dX4_isSame_71 ?_
              refine z_iast C (B' := [(smS cB a n g σ, zZ), (smG cE n g σ en, zZ), (smP cI ps, zZ), (shT t fa ta, zZ), (shF fa cI cZ, σ), (shF ta cI cZ, τ), ([(q_57, .inl (cI, 10))], (zU (zU zZ 0 (0) (σ 3 (b))) 0 (1) (σ 4 (b))))]) 6 rfl 0 0 rfl rfl dX4_isSame_74 (by omega) (by omega) rfl ?_
              refine z_dup C rfl dX4_isSame_75 ?_
              refine z_iconst C (v := nI (2)) (by decide) dX4_isSame_76 ?_
              refine z_aload C dX4_isSame_77 0 rfl ?_
              refine z_bget C 0 rfl (i := b) (by omega) 4 (by decide) (v := .int (σ 5 (b))) rfl wf_X4_46 dX4_isSame_79 ?_
              refine z_iast C (B' := [(smS cB a n g σ, zZ), (smG cE n g σ en, zZ), (smP cI ps, zZ), (shT t fa ta, zZ), (shF fa cI cZ, σ), (shF ta cI cZ, τ), ([(q_57, .inl (cI, 10))], (zU (zU (zU zZ 0 (0) (σ 3 (b))) 0 (1) (σ 4 (b))) 0 (2) (σ 5 (b))))]) 6 rfl 0 0 rfl rfl dX4_isSame_82 (by omega) (by omega) rfl ?_
              refine z_dup C rfl dX4_isSame_83 ?_
              refine z_iconst C (v := nI (3)) (by decide) dX4_isSame_84 ?_
              refine z_aload C dX4_isSame_85 0 rfl ?_
              refine z_bget C 0 rfl (i := b) (by omega) 5 (by decide) (v := .int (σ 6 (b))) rfl wf_X4_40 dX4_isSame_87 ?_
              refine z_iast C (B' := [(smS cB a n g σ, zZ), (smG cE n g σ en, zZ), (smP cI ps, zZ), (shT t fa ta, zZ), (shF fa cI cZ, σ), (shF ta cI cZ, τ), ([(q_57, .inl (cI, 10))], (zU (zU (zU (zU zZ 0 (0) (σ 3 (b))) 0 (1) (σ 4 (b))) 0 (2) (σ 5 (b))) 0 (3) (σ 6 (b))))]) 6 rfl 0 0 rfl rfl dX4_isSame_90 (by omega) (by omega) rfl ?_
              refine z_dup C rfl dX4_isSame_91 ?_
              refine z_iconst C (v := nI (4)) (by decide) dX4_isSame_92 ?_
              refine z_aload C dX4_isSame_93 0 rfl ?_
              refine z_bget C 0 rfl (i := b) (by omega) 6 (by decide) (v := .int (σ 7 (b))) rfl wf_X4_36 dX4_isSame_95 ?_
              refine z_sel0 C (t1 := 105) (t2 := 106) dX4_isSame_98 (by decide) dX4_isSame_101 dX4_isSame_102 (by decide) dX4_isSame_105 rfl ?_
              refine z_iast C (B' := [(smS cB a n g σ, zZ), (smG cE n g σ en, zZ), (smP cI ps, zZ), (shT t fa ta, zZ), (shF fa cI cZ, σ), (shF ta cI cZ, τ), ([(q_57, .inl (cI, 10))], (zU (zU (zU (zU (zU zZ 0 (0) (σ 3 (b))) 0 (1) (σ 4 (b))) 0 (2) (σ 5 (b))) 0 (3) (σ 6 (b))) 0 (4) (zb (decide (¬ σ 7 (b) = 0)))))]) 6 rfl 0 0 rfl rfl dX4_isSame_106 (by omega) (by omega) rfl ?_
              refine z_dup C rfl dX4_isSame_107 ?_
              refine z_iconst C (v := nI (5)) (by decide) dX4_isSame_108 ?_
              refine z_aload C dX4_isSame_109 0 rfl ?_
              refine z_bget C 0 rfl (i := b) (by omega) 0 (by decide) (v := .int (σ 1 (b))) rfl wf_X4_52 dX4_isSame_111 ?_
              refine z_iast C (B' := [(smS cB a n g σ, zZ), (smG cE n g σ en, zZ), (smP cI ps, zZ), (shT t fa ta, zZ), (shF fa cI cZ, σ), (shF ta cI cZ, τ), ([(q_57, .inl (cI, 10))], (zU (zU (zU (zU (zU (zU zZ 0 (0) (σ 3 (b))) 0 (1) (σ 4 (b))) 0 (2) (σ 5 (b))) 0 (3) (σ 6 (b))) 0 (4) (zb (decide (¬ σ 7 (b) = 0)))) 0 (5) (σ 1 (b))))]) 6 rfl 0 0 rfl rfl dX4_isSame_114 (by omega) (by omega) rfl ?_
              refine z_dup C rfl dX4_isSame_115 ?_
              refine z_bipush C (v := nI (6)) (by decide) dX4_isSame_116 ?_
              refine z_aload C dX4_isSame_118 0 rfl ?_
              refine z_bget C 0 rfl (i := b) (by omega) 1 (by decide) (v := .int (σ 2 (b))) rfl wf_X4_55 dX4_isSame_120 ?_
              refine z_iast C (B' := [(smS cB a n g σ, zZ), (smG cE n g σ en, zZ), (smP cI ps, zZ), (shT t fa ta, zZ), (shF fa cI cZ, σ), (shF ta cI cZ, τ), ([(q_57, .inl (cI, 10))], (zU (zU (zU (zU (zU (zU (zU zZ 0 (0) (σ 3 (b))) 0 (1) (σ 4 (b))) 0 (2) (σ 5 (b))) 0 (3) (σ 6 (b))) 0 (4) (zb (decide (¬ σ 7 (b) = 0)))) 0 (5) (σ 1 (b))) 0 (6) (σ 2 (b))))]) 6 rfl 0 0 rfl rfl dX4_isSame_123 (by omega) (by omega) rfl ?_
              refine z_dup C rfl dX4_isSame_124 ?_
              refine z_bipush C (v := nI (7)) (by decide) dX4_isSame_125 ?_
              refine z_aload C dX4_isSame_127 0 rfl ?_
              refine z_bget C 0 rfl (i := b) (by omega) 8 (by decide) (v := .ref (g (b))) rfl wf_X4_73 dX4_isSame_129 ?_
              refine z_alenG C 1 rfl (i := b) (by omega) dX4_isSame_132 ?_
              have hl_1 := hI.lnT (i := b) (by omega)
              refine z_iast C (B' := [(smS cB a n g σ, zZ), (smG cE n g σ en, zZ), (smP cI ps, zZ), (shT t fa ta, zZ), (shF fa cI cZ, σ), (shF ta cI cZ, τ), ([(q_57, .inl (cI, 10))], (zU (zU (zU (zU (zU (zU (zU (zU zZ 0 (0) (σ 3 (b))) 0 (1) (σ 4 (b))) 0 (2) (σ 5 (b))) 0 (3) (σ 6 (b))) 0 (4) (zb (decide (¬ σ 7 (b) = 0)))) 0 (5) (σ 1 (b))) 0 (6) (σ 2 (b))) 0 (7) (nI (fl_ln σ (b)))))]) 6 rfl 0 0 rfl rfl dX4_isSame_133 (by omega) (by omega) rfl ?_
              refine z_dup C rfl dX4_isSame_134 ?_
              refine z_bipush C (v := nI (8)) (by decide) dX4_isSame_135 ?_
              refine z_aload C dX4_isSame_137 0 rfl ?_
              refine z_bget C 0 rfl (i := b) (by omega) 7 (by decide) (v := .int (σ 9 (b))) rfl wf_X4_81 dX4_isSame_139 ?_
              refine z_top (y := nI (fl_kn σ (b))) (hI.kn (by omega)) ?_
              have hn_2 := hI.knT (i := b) (by omega)
              refine z_iast C (B' := [(smS cB a n g σ, zZ), (smG cE n g σ en, zZ), (smP cI ps, zZ), (shT t fa ta, zZ), (shF fa cI cZ, σ), (shF ta cI cZ, τ), ([(q_57, .inl (cI, 10))], (zU (zU (zU (zU (zU (zU (zU (zU (zU zZ 0 (0) (σ 3 (b))) 0 (1) (σ 4 (b))) 0 (2) (σ 5 (b))) 0 (3) (σ 6 (b))) 0 (4) (zb (decide (¬ σ 7 (b) = 0)))) 0 (5) (σ 1 (b))) 0 (6) (σ 2 (b))) 0 (7) (nI (fl_ln σ (b)))) 0 (8) (nI (fl_kn σ (b)))))]) 6 rfl 0 0 rfl rfl dX4_isSame_142 (by omega) (by omega) rfl ?_
              refine z_dup C rfl dX4_isSame_143 ?_
              refine z_bipush C (v := nI (9)) (by decide) dX4_isSame_144 ?_
              refine z_aload C dX4_isSame_146 0 rfl ?_
              refine z_cVR C (st' := [.int (fl_last σ (b)), .int (nI (9)), .ref (q_57), .ref (q_57)]) (B' := [(smS cB a n g σ, zZ), (smG cE n g σ en, zZ), (smP cI ps, zZ), (shT t fa ta, zZ), (shF fa cI cZ, σ), (shF ta cI cZ, τ), ([(q_57, .inl (cI, 10))], (zU (zU (zU (zU (zU (zU (zU (zU (zU zZ 0 (0) (σ 3 (b))) 0 (1) (σ 4 (b))) 0 (2) (σ 5 (b))) 0 (3) (σ 6 (b))) 0 (4) (zb (decide (¬ σ 7 (b) = 0)))) 0 (5) (σ 1 (b))) 0 (6) (σ 2 (b))) 0 (7) (nI (fl_ln σ (b)))) 0 (8) (nI (fl_kn σ (b)))))]) [true, true, true, false, false, false, false] rfl (c_X3_last l D cI cZ cB cE n a g σ en ps hI hk (b) (by omega)) wq_yX3_last wm_X4_114 ⟨wn_yX3_last, wo_yX3_last⟩ ⟨rfl, rfl, Nat.le_of_ble_eq_true rfl, Nat.le_of_ble_eq_true rfl⟩ 0 rfl (2 + (b)) (smS_b (by omega)) rfl rfl rfl (Nat.le_of_ble_eq_true rfl) dX4_isSame_148 ⟨(by show _ ≤ 20; omega), (by show _ ≤ 200; omega)⟩ rfl rfl ?_
              refine z_iast C (B' := [(smS cB a n g σ, zZ), (smG cE n g σ en, zZ), (smP cI ps, zZ), (shT t fa ta, zZ), (shF fa cI cZ, σ), (shF ta cI cZ, τ), ([(q_57, .inl (cI, 10))], (zU (zU (zU (zU (zU (zU (zU (zU (zU (zU zZ 0 (0) (σ 3 (b))) 0 (1) (σ 4 (b))) 0 (2) (σ 5 (b))) 0 (3) (σ 6 (b))) 0 (4) (zb (decide (¬ σ 7 (b) = 0)))) 0 (5) (σ 1 (b))) 0 (6) (σ 2 (b))) 0 (7) (nI (fl_ln σ (b)))) 0 (8) (nI (fl_kn σ (b)))) 0 (9) (fl_last σ (b))))]) 6 rfl 0 0 rfl rfl dX4_isSame_151 (by omega) (by omega) rfl ?_
              refine z_eq (B' := [(smS cB a n g σ, zZ), (smG cE n g σ en, zZ), (smP cI ps, zZ), (shT t fa ta, zZ), (shF fa cI cZ, σ), (shF ta cI cZ, τ), ([(q_57, .inl (cI, 10))], (tdA σ b))]) (by rw [← tdA_0]) ?_
              refine z_astore C (L' := [(6, .ref (q_57)), (5, .ref (a (2 + (b)))), (0, .ref (a 0)), (1, .ref (t)), (2, .int (nI (fl_sm (fl_kn σ) b))), (3, .int (fl_oI (fl_ldr σ b))), (4, .int (nI (b)))]) dX4_isSame_152 (by decide) rfl ?_
              refine z_iconst C (v := nI (0)) (by decide) dX4_isSame_154 ?_
              refine z_istore C (L' := [(7, .int (nI (0))), (6, .ref (q_57)), (5, .ref (a (2 + (b)))), (0, .ref (a 0)), (1, .ref (t)), (2, .int (nI (fl_sm (fl_kn σ) b))), (3, .int (fl_oI (fl_ldr σ b))), (4, .int (nI (b)))]) dX4_isSame_155 (by decide) rfl ?_
              have loop_157 : ∀ (k_157 w : Nat), 10 < w + k_157 → w ≤ 10 → zK p l e ({ frames := 8, cells := 20, slots := 200, locals := 145 } : Room) s m args below meth c D A 13 Q (cc + 1) (ss + 10) 157 [(0, .ref (a 0)), (1, .ref (t)), (2, .int (nI (fl_sm (fl_kn σ) b))), (3, .int (fl_oI (fl_ldr σ b))), (4, .int (nI (b))), (5, .ref (a (2 + (b)))), (6, .ref (q_57)), (7, .int (nI (w)))] [] [(smS cB a n g σ, zZ), (smG cE n g σ en, zZ), (smP cI ps, zZ), (shT t fa ta, zZ), (shF fa cI cZ, σ), (shF ta cI cZ, τ), ([(q_57, .inl (cI, 10))], (tdA σ b))] := by
                intro k_157
                induction k_157 with
                | zero => intro w  m1_157 m2_157; exact absurd m1_157 (by omega)
                | succ k_157 ih_157 =>
                  intro w  m1_157 m2_157 
                  refine z_iload C dX4_isSame_157 7 rfl ?_
                  refine z_bipush C (v := nI (10)) (by decide) dX4_isSame_159 ?_
                  refine z_icmp_geN C (tgt := 188) dX4_isSame_161 (by decide) (by omega) (by omega) (fun c_161 => ?_) (fun c_161 => ?_)
                  · refine z_drop (B' := [(smS cB a n g σ, zZ), (smG cE n g σ en, zZ), (smP cI ps, zZ), (shT t fa ta, zZ), (shF fa cI cZ, σ), (shF ta cI cZ, τ)]) (X := zW [([(q_57, .inl (cI, 10))], (tdA σ b))]) (by rw [← zW_app]; exact List.Perm.refl _) ?_
                    refine z_iconst C (v := nI (0)) (by decide) dX4_isSame_188 ?_
                    refine z_istore C (L' := [(7, .int (nI (0))), (0, .ref (a 0)), (1, .ref (t)), (2, .int (nI (fl_sm (fl_kn σ) b))), (3, .int (fl_oI (fl_ldr σ b))), (4, .int (nI (b))), (5, .ref (a (2 + (b)))), (6, .ref (q_57))]) dX4_isSame_189 (by decide) rfl ?_
                    have loop_191 : ∀ (k_191 k : Nat), 10 < k + k_191 → k ≤ 10 → zK p l e ({ frames := 8, cells := 20, slots := 200, locals := 145 } : Room) s m args below meth c D A 13 Q (cc + 1) (ss + 10) 191 [(0, .ref (a 0)), (1, .ref (t)), (2, .int (nI (fl_sm (fl_kn σ) b))), (3, .int (fl_oI (fl_ldr σ b))), (4, .int (nI (b))), (5, .ref (a (2 + (b)))), (7, .int (nI (k)))] [] [(smS cB a n g σ, zZ), (smG cE n g σ en, zZ), (smP cI ps, zZ), (shT t fa ta, zZ), (shF fa cI cZ, σ), (shF ta cI cZ, τ)] := by
                      intro k_191
                      induction k_191 with
                      | zero => intro k  m1_191 m2_191; exact absurd m1_191 (by omega)
                      | succ k_191 ih_191 =>
                        intro k  m1_191 m2_191 
                        refine z_iload C dX4_isSame_191 6 rfl ?_
                        refine z_aload C dX4_isSame_193 5 rfl ?_
                        refine z_bget C 0 rfl (i := b) (by omega) 8 (by decide) (v := .ref (g (b))) rfl wf_X4_73 dX4_isSame_195 ?_
                        refine z_alenG C 1 rfl (i := b) (by omega) dX4_isSame_198 ?_
                        have hl_3 := hI.lnT (i := b) (by omega)
                        refine z_icmp_geN C (tgt := 327) dX4_isSame_199 (by decide) (by omega) (by omega) (fun c_199 => ?_) (fun c_199 => ?_)
                        · refine z_iconst C (v := nI (0)) (by decide) dX4_isSame_327 ?_
                          refine z_istore C (L' := [(7, .int (nI (0))), (0, .ref (a 0)), (1, .ref (t)), (2, .int (nI (fl_sm (fl_kn σ) b))), (3, .int (fl_oI (fl_ldr σ b))), (4, .int (nI (b))), (5, .ref (a (2 + (b))))]) dX4_isSame_328 (by decide) rfl ?_
                          have loop_330 : ∀ (k_330 o : Nat), n < o + k_330 → o ≤ n → zK p l e ({ frames := 8, cells := 20, slots := 200, locals := 145 } : Room) s m args below meth c D A 13 Q (cc + 1) (ss + 10) 330 [(0, .ref (a 0)), (1, .ref (t)), (2, .int (nI (fl_sm (fl_kn σ) b))), (3, .int (fl_oI (fl_ldr σ b))), (4, .int (nI (b))), (5, .ref (a (2 + (b)))), (7, .int (nI (o)))] [] [(smS cB a n g σ, zZ), (smG cE n g σ en, zZ), (smP cI ps, zZ), (shT t fa ta, zZ), (shF fa cI cZ, σ), (shF ta cI cZ, τ)] := by
                            intro k_330
                            induction k_330 with
                            | zero => intro o  m1_330 m2_330; exact absurd m1_330 (by omega)
                            | succ k_330 ih_330 =>
                              intro o  m1_330 m2_330 
                              refine z_iload C dX4_isSame_330 6 rfl ?_
                              refine z_aload_n C dX4_isSame_332 rfl 0 rfl ?_
                              refine z_sget C 0 rfl 4 (by decide) (v := .ref (a 1)) rfl wf_X4_9 dX4_isSame_333 ?_
                              refine z_alenB C 0 rfl dX4_isSame_336 ?_
                              refine z_icmp_geN C (tgt := 394) dX4_isSame_337 (by decide) (by omega) (by omega) (fun c_337 => ?_) (fun c_337 => ?_)
                              · refine z_iload_n C dX4_isSame_394 rfl 2 rfl ?_
                                refine z_aload C dX4_isSame_395 5 rfl ?_
                                refine z_bget C 0 rfl (i := b) (by omega) 7 (by decide) (v := .int (σ 9 (b))) rfl wf_X4_81 dX4_isSame_397 ?_
                                refine z_top (y := nI (fl_kn σ (b))) (hI.kn (by omega)) ?_
                                have hn_4 := hI.knT (i := b) (by omega)
                                refine z_iaddN C dX4_isSame_400 ?_
                                refine z_istore_n C (L' := [(2, .int (nI ((fl_sm (fl_kn σ) b) + (fl_kn σ (b))))), (0, .ref (a 0)), (1, .ref (t)), (3, .int (fl_oI (fl_ldr σ b))), (4, .int (nI (b))), (5, .ref (a (2 + (b)))), (7, .int (nI (o)))]) dX4_isSame_401 rfl (by decide) rfl ?_
                                refine z_aload C dX4_isSame_402 5 rfl ?_
                                refine z_bget C 0 rfl (i := b) (by omega) 6 (by decide) (v := .int (σ 7 (b))) rfl wf_X4_36 dX4_isSame_404 ?_
                                refine z_if_eq C (tgt := 443) dX4_isSame_407 (by decide) (fun c_407 => ?_) (fun c_407 => ?_)
                                · refine z_iinc C (L' := [(4, .int (nI (b + 1))), (2, .int (nI ((fl_sm (fl_kn σ) b) + (fl_kn σ (b))))), (0, .ref (a 0)), (1, .ref (t)), (3, .int (fl_oI (fl_ldr σ b))), (5, .ref (a (2 + (b)))), (7, .int (nI (o)))]) dX4_isSame_443 4 rfl (z_inc1 _) (by decide) rfl ?_
                                  refine z_goto C (tgt := 36) dX4_isSame_446 (by decide) ?_
                                  refine z_sub (L' := [(0, .ref (a 0)), (1, .ref (t)), (2, .int (nI ((fl_sm (fl_kn σ) b) + (fl_kn σ (b))))), (3, .int (fl_oI (fl_ldr σ b))), (4, .int (nI (b + 1)))]) [2, 3, 1, 4, 0] rfl ?_
                                  have hld9 : fl_oI (fl_ldr σ b) = fl_oI (fl_ldr σ (b + 1)) := (ldr_off (Or.inl c_407))
                                  rw [hld9]
                                  exact ih_36 (b + 1) (cc + 1) (ss + 10) (by omega) (by omega) (by omega) (by omega)
                                · refine z_aload C dX4_isSame_410 5 rfl ?_
                                  refine z_bget C 0 rfl (i := b) (by omega) 4 (by decide) (v := .int (σ 5 (b))) rfl wf_X4_46 dX4_isSame_412 ?_
                                  refine z_iconst C (v := nI (2)) (by decide) dX4_isSame_415 ?_
                                  refine z_icmp_ne C (tgt := 443) dX4_isSame_416 (by decide) (fun c_416 => ?_) (fun c_416 => ?_)
                                  · refine z_iinc C (L' := [(4, .int (nI (b + 1))), (2, .int (nI ((fl_sm (fl_kn σ) b) + (fl_kn σ (b))))), (0, .ref (a 0)), (1, .ref (t)), (3, .int (fl_oI (fl_ldr σ b))), (5, .ref (a (2 + (b)))), (7, .int (nI (o)))]) dX4_isSame_443 4 rfl (z_inc1 _) (by decide) rfl ?_
                                    refine z_goto C (tgt := 36) dX4_isSame_446 (by decide) ?_
                                    refine z_sub (L' := [(0, .ref (a 0)), (1, .ref (t)), (2, .int (nI ((fl_sm (fl_kn σ) b) + (fl_kn σ (b))))), (3, .int (fl_oI (fl_ldr σ b))), (4, .int (nI (b + 1)))]) [2, 3, 1, 4, 0] rfl ?_
                                    have hld9 : fl_oI (fl_ldr σ b) = fl_oI (fl_ldr σ (b + 1)) := (ldr_off (Or.inr c_416))
                                    rw [hld9]
                                    exact ih_36 (b + 1) (cc + 1) (ss + 10) (by omega) (by omega) (by omega) (by omega)
                                  · rcases hld : fl_ldr σ b with _ | j
                                    · refine z_sub (L' := [(2, .int (nI ((fl_sm (fl_kn σ) b) + (fl_kn σ (b))))), (0, .ref (a 0)), (1, .ref (t)), (3, .int (-1)), (4, .int (nI (b))), (5, .ref (a (2 + (b)))), (7, .int (nI (o)))]) [0, 1, 2, 3, 4, 5, 6] rfl ?_
                                      refine z_iload_n C dX4_isSame_419 rfl 3 rfl ?_
                                      refine z_if_lt C (tgt := 440) dX4_isSame_420 (by decide) (fun c_420 => ?_) (fun c_420 => ?_)
                                      · refine z_iload C dX4_isSame_440 4 rfl ?_
                                        refine z_istore_n C (L' := [(3, .int (nI (b))), (2, .int (nI ((fl_sm (fl_kn σ) b) + (fl_kn σ (b))))), (0, .ref (a 0)), (1, .ref (t)), (4, .int (nI (b))), (5, .ref (a (2 + (b)))), (7, .int (nI (o)))]) dX4_isSame_442 rfl (by decide) rfl ?_
                                        refine z_iinc C (L' := [(4, .int (nI (b + 1))), (3, .int (nI (b))), (2, .int (nI ((fl_sm (fl_kn σ) b) + (fl_kn σ (b))))), (0, .ref (a 0)), (1, .ref (t)), (5, .ref (a (2 + (b)))), (7, .int (nI (o)))]) dX4_isSame_443 4 rfl (z_inc1 _) (by decide) rfl ?_
                                        refine z_goto C (tgt := 36) dX4_isSame_446 (by decide) ?_
                                        refine z_sub (L' := [(0, .ref (a 0)), (1, .ref (t)), (2, .int (nI ((fl_sm (fl_kn σ) b) + (fl_kn σ (b))))), (3, .int (nI (b))), (4, .int (nI (b + 1)))]) [3, 4, 2, 1, 0] rfl ?_
                                        have hld9 : nI b = fl_oI (fl_ldr σ (b + 1)) := (ldr_none c_407 c_416 hld)
                                        rw [hld9]
                                        exact ih_36 (b + 1) (cc + 1) (ss + 10) (by omega) (by omega) (by omega) (by omega)
                                      · exact absurd (by decide) c_420
                                    · have hjb := fl_ldr_lt σ b j hld
                                      refine z_sub (L' := [(2, .int (nI ((fl_sm (fl_kn σ) b) + (fl_kn σ (b))))), (0, .ref (a 0)), (1, .ref (t)), (3, .int (nI (j))), (4, .int (nI (b))), (5, .ref (a (2 + (b)))), (7, .int (nI (o)))]) [0, 1, 2, 3, 4, 5, 6] rfl ?_
                                      refine z_iload_n C dX4_isSame_419 rfl 3 rfl ?_
                                      refine z_if_ltN C (tgt := 440) dX4_isSame_420 (by decide) (by omega) ?_
                                      refine z_aload C dX4_isSame_423 5 rfl ?_
                                      refine z_bget C 0 rfl (i := b) (by omega) 2 (by decide) (v := .int (σ 3 (b))) rfl wf_X4_43 dX4_isSame_425 ?_
                                      refine z_aload_n C dX4_isSame_428 rfl 1 rfl ?_
                                      refine z_sget C 0 rfl 4 (by decide) (v := .ref (a 1)) rfl wf_X4_9 dX4_isSame_429 ?_
                                      refine z_iload_n C dX4_isSame_432 rfl 3 rfl ?_
                                      refine z_aB C 0 rfl (i := j) (by omega) (by omega) dX4_isSame_433 ?_
                                      refine z_bget C 0 rfl (i := j) (by omega) 2 (by decide) (v := .int (σ 3 (j))) rfl wf_X4_43 dX4_isSame_434 ?_
                                      refine z_icmp_le C (tgt := 443) dX4_isSame_437 (by decide) (fun c_437 => ?_) (fun c_437 => ?_)
                                      · refine z_iinc C (L' := [(4, .int (nI (b + 1))), (2, .int (nI ((fl_sm (fl_kn σ) b) + (fl_kn σ (b))))), (0, .ref (a 0)), (1, .ref (t)), (3, .int (nI (j))), (5, .ref (a (2 + (b)))), (7, .int (nI (o)))]) dX4_isSame_443 4 rfl (z_inc1 _) (by decide) rfl ?_
                                        refine z_goto C (tgt := 36) dX4_isSame_446 (by decide) ?_
                                        refine z_sub (L' := [(0, .ref (a 0)), (1, .ref (t)), (2, .int (nI ((fl_sm (fl_kn σ) b) + (fl_kn σ (b))))), (3, .int (nI (j))), (4, .int (nI (b + 1)))]) [2, 3, 1, 4, 0] rfl ?_
                                        have hld9 : nI j = fl_oI (fl_ldr σ (b + 1)) := (ldr_le c_407 c_416 hld c_437)
                                        rw [hld9]
                                        exact ih_36 (b + 1) (cc + 1) (ss + 10) (by omega) (by omega) (by omega) (by omega)
                                      · refine z_iload C dX4_isSame_440 4 rfl ?_
                                        refine z_istore_n C (L' := [(3, .int (nI (b))), (2, .int (nI ((fl_sm (fl_kn σ) b) + (fl_kn σ (b))))), (0, .ref (a 0)), (1, .ref (t)), (4, .int (nI (b))), (5, .ref (a (2 + (b)))), (7, .int (nI (o)))]) dX4_isSame_442 rfl (by decide) rfl ?_
                                        refine z_iinc C (L' := [(4, .int (nI (b + 1))), (3, .int (nI (b))), (2, .int (nI ((fl_sm (fl_kn σ) b) + (fl_kn σ (b))))), (0, .ref (a 0)), (1, .ref (t)), (5, .ref (a (2 + (b)))), (7, .int (nI (o)))]) dX4_isSame_443 4 rfl (z_inc1 _) (by decide) rfl ?_
                                        refine z_goto C (tgt := 36) dX4_isSame_446 (by decide) ?_
                                        refine z_sub (L' := [(0, .ref (a 0)), (1, .ref (t)), (2, .int (nI ((fl_sm (fl_kn σ) b) + (fl_kn σ (b))))), (3, .int (nI (b))), (4, .int (nI (b + 1)))]) [3, 4, 2, 1, 0] rfl ?_
                                        have hld9 : nI b = fl_oI (fl_ldr σ (b + 1)) := (ldr_gt c_407 c_416 hld c_437)
                                        rw [hld9]
                                        exact ih_36 (b + 1) (cc + 1) (ss + 10) (by omega) (by omega) (by omega) (by omega)
                              · refine z_aload_n C dX4_isSame_340 rfl 1 rfl ?_
                                refine z_iload C dX4_isSame_341 4 rfl ?_
                                refine z_iload C dX4_isSame_343 6 rfl ?_
                                refine z_cV C (st' := [.int (nI (fl_agr σ b o))]) (B' := [(smS cB a n g σ, zZ), (smG cE n g σ en, zZ), (smP cI ps, zZ), (shT t fa ta, zZ), (shF fa cI cZ, σ), (shF ta cI cZ, τ)]) [false, false, false, true, true, true] rfl (c_X2_agree l D cI cZ cB cE t fa ta σ τ n hI b o (by omega) (by omega)) wq_yX2_agree wm_X4_125 ⟨wn_yX2_agree, wo_yX2_agree⟩ ⟨rfl, rfl, Nat.le_of_ble_eq_true rfl, Nat.le_of_ble_eq_true rfl⟩ 3 rfl 0 rfl rfl rfl rfl (Nat.le_of_ble_eq_true rfl) dX4_isSame_345 ⟨(by show _ ≤ 20; omega), (by show _ ≤ 200; omega)⟩ rfl rfl ?_
                                refine z_aload C dX4_isSame_348 5 rfl ?_
                                refine z_aload_n C dX4_isSame_350 rfl 0 rfl ?_
                                refine z_sget C 0 rfl 4 (by decide) (v := .ref (a 1)) rfl wf_X4_9 dX4_isSame_351 ?_
                                refine z_iload C dX4_isSame_354 6 rfl ?_
                                refine z_aB C 0 rfl (i := o) (by omega) (by omega) dX4_isSame_356 ?_
                                refine z_cVR C (st' := [.int (nI (fl_agr σ (b) (o))), .int (nI (fl_agr σ b o))]) (B' := [(smS cB a n g σ, zZ), (smG cE n g σ en, zZ), (smP cI ps, zZ), (shT t fa ta, zZ), (shF fa cI cZ, σ), (shF ta cI cZ, τ)]) [true, true, true, false, false, false] rfl (c_X3_same l D cI cZ cB cE n a g σ en ps hI hk (b) (o) (by omega) (by omega)) wq_yX3_same wm_X4_69 ⟨wn_yX3_same, wo_yX3_same⟩ ⟨rfl, rfl, Nat.le_of_ble_eq_true rfl, Nat.le_of_ble_eq_true rfl⟩ 0 rfl (2 + (b)) (smS_b (by omega)) rfl rfl rfl (Nat.le_of_ble_eq_true rfl) dX4_isSame_357 ⟨(by show _ ≤ 20; omega), (by show _ ≤ 200; omega)⟩ rfl rfl ?_
                                have ha_5 := agr_le σ (b) (o)
                                have hl_5 := hI.lnT (i := b) (by omega)
                                have hm_5 := hI.lnT (i := o) (by omega)
                                refine z_icmp_neN C (tgt := 386) dX4_isSame_360 (by decide) (by omega) (by omega) (fun c_360 => ?_) (fun c_360 => ?_)
                                · exact absurd rfl c_360
                                · refine z_aload_n C dX4_isSame_363 rfl 1 rfl ?_
                                  refine z_iload C dX4_isSame_364 4 rfl ?_
                                  refine z_iload C dX4_isSame_366 6 rfl ?_
                                  refine z_cV C (st' := [.int (zb (fl_nw σ b o))]) (B' := [(smS cB a n g σ, zZ), (smG cE n g σ en, zZ), (smP cI ps, zZ), (shT t fa ta, zZ), (shF fa cI cZ, σ), (shF ta cI cZ, τ)]) [false, false, false, true, true, true] rfl (c_X2_newer l D cI cZ cB cE t fa ta σ τ n hI b o (by omega) (by omega)) wq_yX2_newer wm_X4_128 ⟨wn_yX2_newer, wo_yX2_newer⟩ ⟨rfl, rfl, Nat.le_of_ble_eq_true rfl, Nat.le_of_ble_eq_true rfl⟩ 3 rfl 0 rfl rfl rfl rfl (Nat.le_of_ble_eq_true rfl) dX4_isSame_368 ⟨(by show _ ≤ 20; omega), (by show _ ≤ 200; omega)⟩ rfl rfl ?_
                                  refine z_aload C dX4_isSame_371 5 rfl ?_
                                  refine z_aload_n C dX4_isSame_373 rfl 0 rfl ?_
                                  refine z_sget C 0 rfl 4 (by decide) (v := .ref (a 1)) rfl wf_X4_9 dX4_isSame_374 ?_
                                  refine z_iload C dX4_isSame_377 6 rfl ?_
                                  refine z_aB C 0 rfl (i := o) (by omega) (by omega) dX4_isSame_379 ?_
                                  refine z_cVR C (st' := [.int (zb (fl_nw σ (b) (o))), .int (zb (fl_nw σ b o))]) (B' := [(smS cB a n g σ, zZ), (smG cE n g σ en, zZ), (smP cI ps, zZ), (shT t fa ta, zZ), (shF fa cI cZ, σ), (shF ta cI cZ, τ)]) [true, true, true, false, false, false] rfl (c_X3_isAsNew l D cI cZ cB cE n a g σ en ps hI hk hL (b) (o) (by omega) (by omega)) wq_yX3_isAsNew wm_X4_65 ⟨wn_yX3_isAsNew, wo_yX3_isAsNew⟩ ⟨rfl, rfl, Nat.le_of_ble_eq_true rfl, Nat.le_of_ble_eq_true rfl⟩ 0 rfl (2 + (b)) (smS_b (by omega)) rfl rfl rfl (Nat.le_of_ble_eq_true rfl) dX4_isSame_380 ⟨(by show _ ≤ 20; omega), (by show _ ≤ 200; omega)⟩ rfl rfl ?_
                                  refine z_icmp_eq C (tgt := 388) dX4_isSame_383 (by decide) (fun c_383 => ?_) (fun c_383 => ?_)
                                  · refine z_iinc C (L' := [(7, .int (nI (o + 1))), (0, .ref (a 0)), (1, .ref (t)), (2, .int (nI (fl_sm (fl_kn σ) b))), (3, .int (fl_oI (fl_ldr σ b))), (4, .int (nI (b))), (5, .ref (a (2 + (b))))]) dX4_isSame_388 6 rfl (z_inc1 _) (by decide) rfl ?_
                                    refine z_goto C (tgt := 330) dX4_isSame_391 (by decide) ?_
                                    refine z_sub (L' := [(0, .ref (a 0)), (1, .ref (t)), (2, .int (nI (fl_sm (fl_kn σ) b))), (3, .int (fl_oI (fl_ldr σ b))), (4, .int (nI (b))), (5, .ref (a (2 + (b)))), (7, .int (nI (o + 1)))]) [1, 2, 3, 4, 5, 6, 0] rfl ?_
                                    exact ih_330 (o + 1)  (by omega) (by omega) 
                                  · exact absurd rfl c_383
                          refine z_sub (L' := [(0, .ref (a 0)), (1, .ref (t)), (2, .int (nI (fl_sm (fl_kn σ) b))), (3, .int (fl_oI (fl_ldr σ b))), (4, .int (nI (b))), (5, .ref (a (2 + (b)))), (7, .int (nI (0)))]) [1, 2, 3, 4, 5, 6, 0] rfl ?_
                          exact loop_330 (n + 1) 0  (by omega) (by omega) 
                        · refine z_iconst C (v := nI (0)) (by decide) dX4_isSame_202 ?_
                          refine z_istore C (L' := [(8, .int (nI (0))), (0, .ref (a 0)), (1, .ref (t)), (2, .int (nI (fl_sm (fl_kn σ) b))), (3, .int (fl_oI (fl_ldr σ b))), (4, .int (nI (b))), (5, .ref (a (2 + (b)))), (7, .int (nI (k)))]) dX4_isSame_203 (by decide) rfl ?_
                          refine z_aload_n C dX4_isSame_205 rfl 1 rfl ?_
                          refine z_sget C 0 rfl 4 (by decide) (v := .ref (a 1)) rfl wf_X4_9 dX4_isSame_206 ?_
                          refine z_astore C (L' := [(9, .ref (a 1)), (8, .int (nI (0))), (0, .ref (a 0)), (1, .ref (t)), (2, .int (nI (fl_sm (fl_kn σ) b))), (3, .int (fl_oI (fl_ldr σ b))), (4, .int (nI (b))), (5, .ref (a (2 + (b)))), (7, .int (nI (k)))]) dX4_isSame_209 (by decide) rfl ?_
                          refine z_aload C dX4_isSame_211 0 rfl ?_
                          refine z_alenB C 0 rfl dX4_isSame_213 ?_
                          refine z_istore C (L' := [(10, .int (nI (n))), (9, .ref (a 1)), (8, .int (nI (0))), (0, .ref (a 0)), (1, .ref (t)), (2, .int (nI (fl_sm (fl_kn σ) b))), (3, .int (fl_oI (fl_ldr σ b))), (4, .int (nI (b))), (5, .ref (a (2 + (b)))), (7, .int (nI (k)))]) dX4_isSame_214 (by decide) rfl ?_
                          refine z_iconst C (v := nI (0)) (by decide) dX4_isSame_216 ?_
                          refine z_istore C (L' := [(11, .int (nI (0))), (10, .int (nI (n))), (9, .ref (a 1)), (8, .int (nI (0))), (0, .ref (a 0)), (1, .ref (t)), (2, .int (nI (fl_sm (fl_kn σ) b))), (3, .int (fl_oI (fl_ldr σ b))), (4, .int (nI (b))), (5, .ref (a (2 + (b)))), (7, .int (nI (k)))]) dX4_isSame_217 (by decide) rfl ?_
                          have loop_219 : ∀ (k_219 i : Nat), n < i + k_219 → i ≤ n → zK p l e ({ frames := 8, cells := 20, slots := 200, locals := 145 } : Room) s m args below meth c D A 13 Q (cc + 1) (ss + 10) 219 [(0, .ref (a 0)), (1, .ref (t)), (2, .int (nI (fl_sm (fl_kn σ) b))), (3, .int (fl_oI (fl_ldr σ b))), (4, .int (nI (b))), (5, .ref (a (2 + (b)))), (7, .int (nI (k))), (8, .int (nI (fl_ct (fun o => decide (k + 1 ≤ fl_agr σ b o)) i))), (9, .ref (a 1)), (10, .int (nI (n))), (11, .int (nI (i)))] [] [(smS cB a n g σ, zZ), (smG cE n g σ en, zZ), (smP cI ps, zZ), (shT t fa ta, zZ), (shF fa cI cZ, σ), (shF ta cI cZ, τ)] := by
                            intro k_219
                            induction k_219 with
                            | zero => intro i  m1_219 m2_219; exact absurd m1_219 (by omega)
                            | succ k_219 ih_219 =>
                              intro i  m1_219 m2_219 
                              refine z_iload C dX4_isSame_219 10 rfl ?_
                              refine z_iload C dX4_isSame_221 9 rfl ?_
                              refine z_icmp_geN C (tgt := 261) dX4_isSame_223 (by decide) (by omega) (by omega) (fun c_223 => ?_) (fun c_223 => ?_)
                              · have hin9 : n = i := by omega
                                subst hin9
                                refine z_aload_n C dX4_isSame_261 rfl 1 rfl ?_
                                refine z_iload C dX4_isSame_262 4 rfl ?_
                                refine z_iload C dX4_isSame_264 6 rfl ?_
                                refine z_iconst C (v := nI (0)) (by decide) dX4_isSame_266 ?_
                                refine z_cV C (st' := [.int (fl_ofE n σ b k 0)]) (B' := [(smS cB a n g σ, zZ), (smG cE n g σ en, zZ), (smP cI ps, zZ), (shT t fa ta, zZ), (shF fa cI cZ, σ), (shF ta cI cZ, τ)]) [false, false, false, true, true, true] rfl (c_X2_entry l D cI cZ cB cE t fa ta σ τ n hI b k 0 (by omega) (by omega) (by omega)) wq_yX2_entry wm_X4_121 ⟨wn_yX2_entry, wo_yX2_entry⟩ ⟨rfl, rfl, Nat.le_of_ble_eq_true rfl, Nat.le_of_ble_eq_true rfl⟩ 3 rfl 0 rfl rfl rfl rfl (Nat.le_of_ble_eq_true rfl) dX4_isSame_267 ⟨(by show _ ≤ 20; omega), (by show _ ≤ 200; omega)⟩ rfl rfl ?_
                                refine z_aload C dX4_isSame_270 5 rfl ?_
                                refine z_bget C 0 rfl (i := b) (by omega) 8 (by decide) (v := .ref (g (b))) rfl wf_X4_73 dX4_isSame_272 ?_
                                refine z_iload C dX4_isSame_275 6 rfl ?_
                                have hl_6 := hI.lnT (i := b) (by omega)
                                refine z_aG C 1 rfl (i := b) (j := k) (by omega) (by omega) (by omega) dX4_isSame_277 ?_
                                refine z_iconst C (v := nI (0)) (by decide) dX4_isSame_278 ?_
                                refine z_iP0 C 2 rfl (hk (b) (by omega) (k) (by omega)) dX4_isSame_279 ?_
                                refine z_icmp_ne C (tgt := 319) dX4_isSame_280 (by decide) (fun c_280 => ?_) (fun c_280 => ?_)
                                · exact absurd rfl c_280
                                · refine z_aload_n C dX4_isSame_283 rfl 1 rfl ?_
                                  refine z_iload C dX4_isSame_284 4 rfl ?_
                                  refine z_iload C dX4_isSame_286 6 rfl ?_
                                  refine z_iconst C (v := nI (1)) (by decide) dX4_isSame_288 ?_
                                  refine z_cV C (st' := [.int (fl_ofE n σ b k 1)]) (B' := [(smS cB a n g σ, zZ), (smG cE n g σ en, zZ), (smP cI ps, zZ), (shT t fa ta, zZ), (shF fa cI cZ, σ), (shF ta cI cZ, τ)]) [false, false, false, true, true, true] rfl (c_X2_entry l D cI cZ cB cE t fa ta σ τ n hI b k 1 (by omega) (by omega) (by omega)) wq_yX2_entry wm_X4_121 ⟨wn_yX2_entry, wo_yX2_entry⟩ ⟨rfl, rfl, Nat.le_of_ble_eq_true rfl, Nat.le_of_ble_eq_true rfl⟩ 3 rfl 0 rfl rfl rfl rfl (Nat.le_of_ble_eq_true rfl) dX4_isSame_289 ⟨(by show _ ≤ 20; omega), (by show _ ≤ 200; omega)⟩ rfl rfl ?_
                                  refine z_aload C dX4_isSame_292 5 rfl ?_
                                  refine z_bget C 0 rfl (i := b) (by omega) 8 (by decide) (v := .ref (g (b))) rfl wf_X4_73 dX4_isSame_294 ?_
                                  refine z_iload C dX4_isSame_297 6 rfl ?_
                                  have hl_7 := hI.lnT (i := b) (by omega)
                                  refine z_aG C 1 rfl (i := b) (j := k) (by omega) (by omega) (by omega) dX4_isSame_299 ?_
                                  refine z_iconst C (v := nI (1)) (by decide) dX4_isSame_300 ?_
                                  refine z_iP1 C 2 rfl (hk (b) (by omega) (k) (by omega)) dX4_isSame_301 ?_
                                  refine z_icmp_ne C (tgt := 319) dX4_isSame_302 (by decide) (fun c_302 => ?_) (fun c_302 => ?_)
                                  · exact absurd rfl c_302
                                  · refine z_aload_n C dX4_isSame_305 rfl 1 rfl ?_
                                    refine z_iload C dX4_isSame_306 4 rfl ?_
                                    refine z_iload C dX4_isSame_308 6 rfl ?_
                                    refine z_iconst C (v := nI (2)) (by decide) dX4_isSame_310 ?_
                                    refine z_cV C (st' := [.int (fl_ofE n σ b k 2)]) (B' := [(smS cB a n g σ, zZ), (smG cE n g σ en, zZ), (smP cI ps, zZ), (shT t fa ta, zZ), (shF fa cI cZ, σ), (shF ta cI cZ, τ)]) [false, false, false, true, true, true] rfl (c_X2_entry l D cI cZ cB cE t fa ta σ τ n hI b k 2 (by omega) (by omega) (by omega)) wq_yX2_entry wm_X4_121 ⟨wn_yX2_entry, wo_yX2_entry⟩ ⟨rfl, rfl, Nat.le_of_ble_eq_true rfl, Nat.le_of_ble_eq_true rfl⟩ 3 rfl 0 rfl rfl rfl rfl (Nat.le_of_ble_eq_true rfl) dX4_isSame_311 ⟨(by show _ ≤ 20; omega), (by show _ ≤ 200; omega)⟩ rfl rfl ?_
                                    refine z_iload C dX4_isSame_314 7 rfl ?_
                                    refine z_icmp_eq C (tgt := 321) dX4_isSame_316 (by decide) (fun c_316 => ?_) (fun c_316 => ?_)
                                    · refine z_iinc C (L' := [(7, .int (nI (k + 1))), (0, .ref (a 0)), (1, .ref (t)), (2, .int (nI (fl_sm (fl_kn σ) b))), (3, .int (fl_oI (fl_ldr σ b))), (4, .int (nI (b))), (5, .ref (a (2 + (b)))), (8, .int (nI (fl_ct (fun o => decide (k + 1 ≤ fl_agr σ b o)) n))), (9, .ref (a 1)), (10, .int (nI (n))), (11, .int (nI (n)))]) dX4_isSame_321 6 rfl (z_inc1 _) (by decide) rfl ?_
                                      refine z_goto C (tgt := 191) dX4_isSame_324 (by decide) ?_
                                      refine z_sub (L' := [(0, .ref (a 0)), (1, .ref (t)), (2, .int (nI (fl_sm (fl_kn σ) b))), (3, .int (fl_oI (fl_ldr σ b))), (4, .int (nI (b))), (5, .ref (a (2 + (b)))), (7, .int (nI (k + 1)))]) [1, 2, 3, 4, 5, 6, 0] rfl ?_
                                      exact ih_191 (k + 1)  (by omega) (by omega) 
                                    · exact absurd rfl c_316
                              · refine z_aload C dX4_isSame_226 8 rfl ?_
                                refine z_iload C dX4_isSame_228 10 rfl ?_
                                refine z_aB C 0 rfl (i := i) (by omega) (by omega) dX4_isSame_230 ?_
                                refine z_astore C (L' := [(12, .ref (a (2 + (i)))), (0, .ref (a 0)), (1, .ref (t)), (2, .int (nI (fl_sm (fl_kn σ) b))), (3, .int (fl_oI (fl_ldr σ b))), (4, .int (nI (b))), (5, .ref (a (2 + (b)))), (7, .int (nI (k))), (8, .int (nI (fl_ct (fun o => decide (k + 1 ≤ fl_agr σ b o)) i))), (9, .ref (a 1)), (10, .int (nI (n))), (11, .int (nI (i)))]) dX4_isSame_231 (by decide) rfl ?_
                                refine z_iload C dX4_isSame_233 8 rfl ?_
                                refine z_aload C dX4_isSame_235 6 rfl ?_
                                refine z_aload C dX4_isSame_237 0 rfl ?_
                                refine z_cVR C (st' := [.int (nI (fl_agr σ (b) (i))), .int (nI (fl_ct (fun o => decide (k + 1 ≤ fl_agr σ b o)) i))]) (B' := [(smS cB a n g σ, zZ), (smG cE n g σ en, zZ), (smP cI ps, zZ), (shT t fa ta, zZ), (shF fa cI cZ, σ), (shF ta cI cZ, τ)]) [true, true, true, false, false, false] rfl (c_X3_same l D cI cZ cB cE n a g σ en ps hI hk (b) (i) (by omega) (by omega)) wq_yX3_same wm_X4_69 ⟨wn_yX3_same, wo_yX3_same⟩ ⟨rfl, rfl, Nat.le_of_ble_eq_true rfl, Nat.le_of_ble_eq_true rfl⟩ 0 rfl (2 + (b)) (smS_b (by omega)) rfl rfl rfl (Nat.le_of_ble_eq_true rfl) dX4_isSame_239 ⟨(by show _ ≤ 20; omega), (by show _ ≤ 200; omega)⟩ rfl rfl ?_
                                have ha_8 := agr_le σ (b) (i)
                                have hl_8 := hI.lnT (i := b) (by omega)
                                have hm_8 := hI.lnT (i := i) (by omega)
                                refine z_iload C dX4_isSame_242 7 rfl ?_
                                refine z_icmp_leN C (tgt := 251) dX4_isSame_244 (by decide) (by omega) (by omega) (fun c_244 => ?_) (fun c_244 => ?_)
                                · refine z_iconst C (v := nI (0)) (by decide) dX4_isSame_251 ?_
                                  refine z_iaddN C dX4_isSame_252 ?_
                                  refine z_istore C (L' := [(8, .int (nI ((fl_ct (fun o => decide (k + 1 ≤ fl_agr σ b o)) i) + 0))), (12, .ref (a (2 + (i)))), (0, .ref (a 0)), (1, .ref (t)), (2, .int (nI (fl_sm (fl_kn σ) b))), (3, .int (fl_oI (fl_ldr σ b))), (4, .int (nI (b))), (5, .ref (a (2 + (b)))), (7, .int (nI (k))), (9, .ref (a 1)), (10, .int (nI (n))), (11, .int (nI (i)))]) dX4_isSame_253 (by decide) rfl ?_
                                  refine z_iinc C (L' := [(11, .int (nI (i + 1))), (8, .int (nI ((fl_ct (fun o => decide (k + 1 ≤ fl_agr σ b o)) i) + 0))), (12, .ref (a (2 + (i)))), (0, .ref (a 0)), (1, .ref (t)), (2, .int (nI (fl_sm (fl_kn σ) b))), (3, .int (fl_oI (fl_ldr σ b))), (4, .int (nI (b))), (5, .ref (a (2 + (b)))), (7, .int (nI (k))), (9, .ref (a 1)), (10, .int (nI (n)))]) dX4_isSame_255 11 rfl (z_inc1 _) (by decide) rfl ?_
                                  refine z_goto C (tgt := 219) dX4_isSame_258 (by decide) ?_
                                  refine z_sub (L' := [(0, .ref (a 0)), (1, .ref (t)), (2, .int (nI (fl_sm (fl_kn σ) b))), (3, .int (fl_oI (fl_ldr σ b))), (4, .int (nI (b))), (5, .ref (a (2 + (b)))), (7, .int (nI (k))), (8, .int (nI ((fl_ct (fun o => decide (k + 1 ≤ fl_agr σ b o)) i) + 0))), (9, .ref (a 1)), (10, .int (nI (n))), (11, .int (nI (i + 1)))]) [3, 4, 5, 6, 7, 8, 9, 1, 10, 11, 0] rfl ?_
                                  rw [show (fl_ct (fun o => decide (k + 1 ≤ fl_agr σ b o)) i) + 0 = fl_ct (fun o => decide (k + 1 ≤ fl_agr σ b o)) (i + 1) from (fl_ct_n (decide_eq_false (by omega))).symm]
                                  exact ih_219 (i + 1) (by omega) (by omega)
                                · refine z_iconst C (v := nI (1)) (by decide) dX4_isSame_247 ?_
                                  refine z_goto C (tgt := 252) dX4_isSame_248 (by decide) ?_
                                  refine z_iaddN C dX4_isSame_252 ?_
                                  refine z_istore C (L' := [(8, .int (nI ((fl_ct (fun o => decide (k + 1 ≤ fl_agr σ b o)) i) + 1))), (12, .ref (a (2 + (i)))), (0, .ref (a 0)), (1, .ref (t)), (2, .int (nI (fl_sm (fl_kn σ) b))), (3, .int (fl_oI (fl_ldr σ b))), (4, .int (nI (b))), (5, .ref (a (2 + (b)))), (7, .int (nI (k))), (9, .ref (a 1)), (10, .int (nI (n))), (11, .int (nI (i)))]) dX4_isSame_253 (by decide) rfl ?_
                                  refine z_iinc C (L' := [(11, .int (nI (i + 1))), (8, .int (nI ((fl_ct (fun o => decide (k + 1 ≤ fl_agr σ b o)) i) + 1))), (12, .ref (a (2 + (i)))), (0, .ref (a 0)), (1, .ref (t)), (2, .int (nI (fl_sm (fl_kn σ) b))), (3, .int (fl_oI (fl_ldr σ b))), (4, .int (nI (b))), (5, .ref (a (2 + (b)))), (7, .int (nI (k))), (9, .ref (a 1)), (10, .int (nI (n)))]) dX4_isSame_255 11 rfl (z_inc1 _) (by decide) rfl ?_
                                  refine z_goto C (tgt := 219) dX4_isSame_258 (by decide) ?_
                                  refine z_sub (L' := [(0, .ref (a 0)), (1, .ref (t)), (2, .int (nI (fl_sm (fl_kn σ) b))), (3, .int (fl_oI (fl_ldr σ b))), (4, .int (nI (b))), (5, .ref (a (2 + (b)))), (7, .int (nI (k))), (8, .int (nI ((fl_ct (fun o => decide (k + 1 ≤ fl_agr σ b o)) i) + 1))), (9, .ref (a 1)), (10, .int (nI (n))), (11, .int (nI (i + 1)))]) [3, 4, 5, 6, 7, 8, 9, 1, 10, 11, 0] rfl ?_
                                  rw [show (fl_ct (fun o => decide (k + 1 ≤ fl_agr σ b o)) i) + 1 = fl_ct (fun o => decide (k + 1 ≤ fl_agr σ b o)) (i + 1) from (fl_ct_y (decide_eq_true (by omega))).symm]
                                  exact ih_219 (i + 1) (by omega) (by omega)
                          refine z_sub (L' := [(0, .ref (a 0)), (1, .ref (t)), (2, .int (nI (fl_sm (fl_kn σ) b))), (3, .int (fl_oI (fl_ldr σ b))), (4, .int (nI (b))), (5, .ref (a (2 + (b)))), (7, .int (nI (k))), (8, .int (nI (0))), (9, .ref (a 1)), (10, .int (nI (n))), (11, .int (nI (0)))]) [4, 5, 6, 7, 8, 9, 10, 3, 2, 1, 0] rfl ?_
                          exact loop_219 (n + 1) 0  (by omega) (by omega) 
                    refine z_sub (L' := [(0, .ref (a 0)), (1, .ref (t)), (2, .int (nI (fl_sm (fl_kn σ) b))), (3, .int (fl_oI (fl_ldr σ b))), (4, .int (nI (b))), (5, .ref (a (2 + (b)))), (7, .int (nI (0)))]) [1, 2, 3, 4, 5, 6, 0] rfl ?_
                    exact loop_191 (10 + 1) 0  (by omega) (by omega) 
                  · refine z_aload_n C dX4_isSame_164 rfl 1 rfl ?_
                    refine z_iload C dX4_isSame_165 4 rfl ?_
                    refine z_iload C dX4_isSame_167 7 rfl ?_
                    refine z_cV C (st' := [.int (fl_ofB σ b w)]) (B' := [(smS cB a n g σ, zZ), (smG cE n g σ en, zZ), (smP cI ps, zZ), (shT t fa ta, zZ), (shF fa cI cZ, σ), (shF ta cI cZ, τ), ([(q_57, .inl (cI, 10))], (tdA σ b))]) [false, false, false, true, true, true, false] rfl (c_X2_told l D cI cZ cB cE t fa ta σ τ n hI b w (by omega) (by omega)) wq_yX2_told wm_X4_118 ⟨wn_yX2_told, wo_yX2_told⟩ ⟨rfl, rfl, Nat.le_of_ble_eq_true rfl, Nat.le_of_ble_eq_true rfl⟩ 3 rfl 0 rfl rfl rfl rfl (Nat.le_of_ble_eq_true rfl) dX4_isSame_169 ⟨(by show _ ≤ 20; omega), (by show _ ≤ 200; omega)⟩ rfl rfl ?_
                    refine z_aload C dX4_isSame_172 6 rfl ?_
                    refine z_iload C dX4_isSame_174 7 rfl ?_
                    refine z_iald C 6 rfl 0 0 rfl rfl dX4_isSame_176 (by omega) (by omega) ?_
                    refine z_icmp_eq C (tgt := 182) dX4_isSame_177 (by decide) (fun c_177 => ?_) (fun c_177 => ?_)
                    · refine z_iinc C (L' := [(7, .int (nI (w + 1))), (0, .ref (a 0)), (1, .ref (t)), (2, .int (nI (fl_sm (fl_kn σ) b))), (3, .int (fl_oI (fl_ldr σ b))), (4, .int (nI (b))), (5, .ref (a (2 + (b)))), (6, .ref (q_57))]) dX4_isSame_182 7 rfl (z_inc1 _) (by decide) rfl ?_
                      refine z_goto C (tgt := 157) dX4_isSame_185 (by decide) ?_
                      refine z_sub (L' := [(0, .ref (a 0)), (1, .ref (t)), (2, .int (nI (fl_sm (fl_kn σ) b))), (3, .int (fl_oI (fl_ldr σ b))), (4, .int (nI (b))), (5, .ref (a (2 + (b)))), (6, .ref (q_57)), (7, .int (nI (w + 1)))]) [1, 2, 3, 4, 5, 6, 7, 0] rfl ?_
                      exact ih_157 (w + 1)  (by omega) (by omega) 
                    · exact absurd (tdA_eq hI (by omega) (by omega)).symm c_177
              refine z_sub (L' := [(0, .ref (a 0)), (1, .ref (t)), (2, .int (nI (fl_sm (fl_kn σ) b))), (3, .int (fl_oI (fl_ldr σ b))), (4, .int (nI (b))), (5, .ref (a (2 + (b)))), (6, .ref (q_57)), (7, .int (nI (0)))]) [3, 4, 5, 6, 7, 2, 1, 0] rfl ?_
              exact loop_157 (10 + 1) 0  (by omega) (by omega) 
        refine z_sub (L' := [(0, .ref (a 0)), (1, .ref (t)), (2, .int (nI (0))), (3, .int (-1)), (4, .int (nI (0)))]) [3, 4, 2, 1, 0] rfl ?_
        exact loop_36 (n + 1) 0 cc ss (by omega) (by omega) (by omega) (by omega)
      · refine z_aload_n C dX4_isSame_8 rfl 1 rfl ?_
        refine z_iload_n C dX4_isSame_9 rfl 2 rfl ?_
        refine z_cV C (st' := [.int (fl_ofF n σ w)]) (B' := [(smS cB a n g σ, zZ), (smG cE n g σ en, zZ), (smP cI ps, zZ), (shT t fa ta, zZ), (shF fa cI cZ, σ), (shF ta cI cZ, τ)]) [false, false, false, true, true, true] rfl (c_X2_count l D cI cZ cB cE t fa ta σ τ n hI w (by omega)) wq_yX2_count wm_X4_106 ⟨wn_yX2_count, wo_yX2_count⟩ ⟨rfl, rfl, Nat.le_of_ble_eq_true rfl, Nat.le_of_ble_eq_true rfl⟩ 3 rfl 0 rfl rfl rfl rfl (Nat.le_of_ble_eq_true rfl) dX4_isSame_10 ⟨(by show _ ≤ 20; omega), (by show _ ≤ 200; omega)⟩ rfl rfl ?_
        refine z_aload_n C dX4_isSame_13 rfl 0 rfl ?_
        refine z_iload_n C dX4_isSame_14 rfl 2 rfl ?_
        refine z_callVR C [true, true, true, false, false, false] rfl (c_X4_counted l D cI cZ cB cE n a g σ en ps hI hk (w) (by omega)) wq_yX4_counted wm_X4_111 ⟨wn_yX4_counted, wo_yX4_counted⟩ ⟨rfl, rfl, Nat.le_of_ble_eq_true rfl, Nat.le_of_ble_eq_true rfl⟩ 0 rfl 0 rfl rfl rfl rfl (Nat.le_of_ble_eq_true rfl) dX4_isSame_15 ⟨by show _ ≤ 20; omega, by show _ ≤ 200; omega⟩ ?_
        rintro r9 w9 ⟨rfl, rfl⟩
        refine z_eq (B' := [(smS cB a n g σ, zZ), (smG cE n g σ en, zZ), (smP cI ps, zZ), (shT t fa ta, zZ), (shF fa cI cZ, σ), (shF ta cI cZ, τ)]) rfl ?_
        refine z_icmp_eq C (tgt := 23) dX4_isSame_18 (by decide) (fun c_18 => ?_) (fun c_18 => ?_)
        · refine z_iinc C (L' := [(2, .int (nI (w + 1))), (0, .ref (a 0)), (1, .ref (t))]) dX4_isSame_23 2 rfl (z_inc1 _) (by decide) rfl ?_
          refine z_goto C (tgt := 2) dX4_isSame_26 (by decide) ?_
          refine z_sub (L' := [(0, .ref (a 0)), (1, .ref (t)), (2, .int (nI (w + 1)))]) [1, 2, 0] rfl ?_
          exact ih_2 (w + 1) (cc + 1) (ss + 10) (by omega) (by omega) (by omega) (by omega)
        · exact absurd rfl c_18
  refine z_sub (L' := [(0, .ref (a 0)), (1, .ref (t)), (2, .int (nI (0)))]) [1, 2, 0] rfl ?_
  exact loop_2 (10 + 1) 0 0 0 (by omega) (by omega) (by omega) (by omega)
