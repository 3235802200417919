/-! What a fleet is: cells 0 the object (boats, hour, stood, begun, lost), 1 patience, 2 clock, 3 term, 4 vote, 5 role, 6 port, 7 up, 8 length, 9 known, 10 terms, 11 fishes; and what each method does to it. Both sides are tied to these functions. -/
def fl_ln (σ : zF) (i : Nat) : Nat := (σ 8 i).toNatClampNeg
def fl_kn (σ : zF) (i : Nat) : Nat := (σ 9 i).toNatClampNeg
def fl_Iv (n : Nat) (σ : zF) : Prop := σ 0 0 = nI n ∧ 3 ≤ n ∧ n ≤ 7 ∧ (∀ i, i < n → σ 8 i = nI (fl_ln σ i) ∧ fl_ln σ i ≤ 10) ∧ (∀ i, i < n → σ 9 i = nI (fl_kn σ i) ∧ fl_kn σ i ≤ 10) ∧ ∀ i, i < 7 → σ 7 i = 0 ∨ σ 7 i = nI 1
section FLIV
variable {n : Nat} {σ : zF}
theorem fl_Iv.n0 (h : fl_Iv n σ) : σ 0 0 = nI n := h.1
theorem fl_Iv.n3 (h : fl_Iv n σ) : 3 ≤ n := h.2.1
theorem fl_Iv.n7 (h : fl_Iv n σ) : n ≤ 7 := h.2.2.1
theorem fl_Iv.ln (h : fl_Iv n σ) {i : Nat} (hi : i < n) : σ 8 i = nI (fl_ln σ i) := (h.2.2.2.1 i hi).1
theorem fl_Iv.lnT (h : fl_Iv n σ) {i : Nat} (hi : i < n) : fl_ln σ i ≤ 10 := (h.2.2.2.1 i hi).2
theorem fl_Iv.kn (h : fl_Iv n σ) {i : Nat} (hi : i < n) : σ 9 i = nI (fl_kn σ i) := (h.2.2.2.2.1 i hi).1
theorem fl_Iv.knT (h : fl_Iv n σ) {i : Nat} (hi : i < n) : fl_kn σ i ≤ 10 := (h.2.2.2.2.1 i hi).2
theorem fl_Iv.up (h : fl_Iv n σ) {i : Nat} (hi : i < n) : σ 7 i = 0 ∨ σ 7 i = nI 1 := h.2.2.2.2.2 i (Nat.lt_of_lt_of_le hi h.2.2.1)
theorem fl_Iv.u7 (h : fl_Iv n σ) : ∀ i, i < 7 → σ 7 i = 0 ∨ σ 7 i = nI 1 := h.2.2.2.2.2
theorem fl_Iv.up1 (h : fl_Iv n σ) {i : Nat} (hi : i < n) : σ 7 i = nI 1 ↔ ¬ σ 7 i = 0 := by
  rcases h.up hi with e | e
  · rw [e]; decide
  · rw [e]; decide
theorem fl_Iv.U (h : fl_Iv n σ) (k i : Nat) (v : Int32) (h0 : k ≠ 0) (h7 : k ≠ 7) (h8 : k ≠ 8) (h9 : k ≠ 9) : fl_Iv n (zU σ k i v) := by
  obtain ⟨a, b, c, d, e, f⟩ := h
  have e0 : zU σ k i v 0 = σ 0 := zU_ne (Ne.symm h0)
  have e7 : zU σ k i v 7 = σ 7 := zU_ne (Ne.symm h7)
  have e8 : zU σ k i v 8 = σ 8 := zU_ne (Ne.symm h8)
  have e9 : zU σ k i v 9 = σ 9 := zU_ne (Ne.symm h9)
  refine ⟨by rw [e0]; exact a, b, c, fun j hj => ?_, fun j hj => ?_, fun j hj => ?_⟩
  · unfold fl_ln; rw [e8]; exact d j hj
  · unfold fl_kn; rw [e9]; exact e j hj
  · rw [e7]; exact f j hj
theorem fl_Iv.U0 (h : fl_Iv n σ) (j : Nat) (v : Int32) (hj : j ≠ 0) : fl_Iv n (zU σ 0 j v) := by
  obtain ⟨a, b, c, d, e, f⟩ := h
  refine ⟨?_, b, c, d, e, f⟩
  rw [zU_at, if_neg (fun q => hj q.2.symm)]
  exact a
theorem fl_ln_U8 (σ : zF) (i j m : Nat) (hm : m < 2 ^ 31) : fl_ln (zU σ 8 i (nI m)) j = if j = i then m else fl_ln σ j := by
  unfold fl_ln
  rw [zU_at]
  by_cases h : j = i
  · rw [if_pos ⟨rfl, h⟩, if_pos h, nI_clamp hm]
  · rw [if_neg (fun q => h q.2), if_neg h]
theorem fl_kn_U9 (σ : zF) (i j m : Nat) (hm : m < 2 ^ 31) : fl_kn (zU σ 9 i (nI m)) j = if j = i then m else fl_kn σ j := by
  unfold fl_kn
  rw [zU_at]
  by_cases h : j = i
  · rw [if_pos ⟨rfl, h⟩, if_pos h, nI_clamp hm]
  · rw [if_neg (fun q => h q.2), if_neg h]
theorem fl_Iv.U8 (h : fl_Iv n σ) (i m : Nat) (hm : m ≤ 10) : fl_Iv n (zU σ 8 i (nI m)) := by
  obtain ⟨a, b, c, d, e, f⟩ := h
  refine ⟨a, b, c, fun j hj => ?_, e, f⟩
  rw [fl_ln_U8 σ i j m (by omega), zU_at]
  by_cases q : j = i
  · rw [if_pos ⟨rfl, q⟩, if_pos q]; exact ⟨rfl, hm⟩
  · rw [if_neg (fun z => q z.2), if_neg q]; exact d j hj
theorem fl_Iv.U9 (h : fl_Iv n σ) (i m : Nat) (hm : m ≤ 10) : fl_Iv n (zU σ 9 i (nI m)) := by
  obtain ⟨a, b, c, d, e, f⟩ := h
  refine ⟨a, b, c, d, fun j hj => ?_, f⟩
  rw [fl_kn_U9 σ i j m (by omega), zU_at]
  by_cases q : j = i
  · rw [if_pos ⟨rfl, q⟩, if_pos q]; exact ⟨rfl, hm⟩
  · rw [if_neg (fun z => q z.2), if_neg q]; exact e j hj
theorem fl_Iv.U7 (h : fl_Iv n σ) (i : Nat) {v : Int32} (hv : v = 0 ∨ v = nI 1) : fl_Iv n (zU σ 7 i v) := by
  obtain ⟨a, b, c, d, e, f⟩ := h
  refine ⟨a, b, c, d, e, fun j hj => ?_⟩
  rw [zU_at]
  by_cases q : j = i
  · rw [if_pos ⟨rfl, q⟩]; exact hv
  · rw [if_neg (fun z => q z.2)]; exact f j hj
end FLIV
theorem zU_self (σ : zF) (k i : Nat) (v : Int32) : zU σ k i v k i = v := by rw [zU_at, if_pos ⟨rfl, rfl⟩]
theorem zU_oth (σ : zF) (k : Nat) {i j : Nat} (v : Int32) (h : j ≠ i) : zU σ k i v k j = σ k j := by rw [zU_at, if_neg (fun q => h q.2)]
/-- the last term of a log -/
def fl_last (σ : zF) (b : Nat) : Int32 := if fl_ln σ b = 0 then -1 else σ 10 (b * 10 + fl_ln σ b - 1)
/-- the log of x is as new as that of y, or newer -/
def fl_nw (σ : zF) (x y : Nat) : Bool := decide (fl_last σ y < fl_last σ x ∨ (fl_last σ x = fl_last σ y ∧ fl_ln σ y ≤ fl_ln σ x))
/-- how far two logs agree -/
def fl_agrL (σ : zF) (x y : Nat) : Nat → Nat → Nat
  | 0, k => k
  | f + 1, k => if σ 10 (x * 10 + k) = σ 10 (y * 10 + k) ∧ σ 11 (x * 10 + k) = σ 11 (y * 10 + k) then fl_agrL σ x y f (k + 1) else k
def fl_agr (σ : zF) (x y : Nat) : Nat := fl_agrL σ x y (min (fl_ln σ x) (fl_ln σ y)) 0
def fl_hear (σ : zF) (x y : Nat) : Bool := decide (¬ σ 7 x = 0 ∧ ¬ σ 7 y = 0 ∧ σ 6 x = σ 6 y)
def fl_take (σ : zF) (b : Nat) (g : Int32) : zF := zU (zU (zU σ 3 b g) 4 b (-1)) 5 b (nI 0)
def fl_hof (σ : zF) (b : Nat) (g : Int32) : zF := if g ≤ σ 3 b then σ else fl_take σ b g
def fl_meet (σ : zF) (x o : Nat) : zF := if σ 3 x < σ 3 o then fl_take σ x (σ 3 o) else fl_hof σ o (σ 3 x)
def fl_vok (σ : zF) (b o : Nat) : Bool := decide (σ 4 o = -1 ∨ σ 4 o = nI b) && fl_nw σ b o
def fl_votT (σ : zF) (b o : Nat) : zF := if fl_vok σ b o = true then zU (zU σ 4 o (nI b)) 2 o (σ 1 o) else σ
def fl_votS (σ : zF) (b o : Nat) : zF := if σ 3 b < σ 3 o then fl_take σ b (σ 3 o) else fl_votT (fl_hof σ o (σ 3 b)) b o
def fl_votB (σ : zF) (b o : Nat) : Bool := !decide (σ 3 b < σ 3 o) && fl_vok (fl_hof σ o (σ 3 b)) b o
/-- a boat asks all others: the votes, and what has become of the fleet -/
def fl_askL (b : Nat) : Nat → Nat → Nat → zF → Nat × zF
  | 0, _, v, σ => (v, σ)
  | f + 1, o, v, σ => if σ 5 b = nI 1 then (if o ≠ b ∧ fl_hear σ b o = true then fl_askL b f (o + 1) (if fl_votB σ b o = true then v + 1 else v) (fl_votS σ b o) else fl_askL b f (o + 1) v σ) else (v, σ)
def fl_ask (n b o v : Nat) (σ : zF) : Nat × zF := fl_askL b (n - o) o v σ
def fl_std0 (σ : zF) (b : Nat) : zF := zU (zU (zU (zU (zU σ 0 2 (σ 0 2 + nI 1)) 3 b (σ 3 b + nI 1)) 5 b (nI 1)) 4 b (nI b)) 2 b (σ 1 b)
def fl_stdE (n b : Nat) (r : Nat × zF) : zF := if r.2 5 b = nI 1 ∧ n / 2 < r.1 then zU (zU r.2 5 b (nI 2)) 0 3 (r.2 0 3 + nI 1) else r.2
def fl_stand (n : Nat) (σ : zF) (b : Nat) : zF := fl_stdE n b (fl_ask n b 0 1 (fl_std0 σ b))
def fl_app (σ : zF) (b : Nat) (x y : Int32) : zF := zU (zU (zU σ 10 (b * 10 + fl_ln σ b) x) 11 (b * 10 + fl_ln σ b) y) 8 b (nI (fl_ln σ b + 1))
def fl_cut (σ : zF) (t o : Nat) : Bool := decide (fl_agr σ t o < fl_ln σ o)
def fl_mend (σ : zF) (t o : Nat) : zF := if fl_agr σ t o < fl_ln σ o then zU σ 8 o (nI (fl_ln σ o - 1)) else if fl_agr σ t o < fl_ln σ t then fl_app σ o (σ 10 (t * 10 + fl_agr σ t o)) (σ 11 (t * 10 + fl_agr σ t o)) else σ
def fl_lrn (σ : zF) (t o : Nat) : zF := zU σ 9 o (nI (max (fl_kn σ o) (min (fl_kn σ t) (fl_agr σ t o))))
def fl_got (σ : zF) (o : Nat) : zF := zU (zU σ 5 o (nI 0)) 2 o (σ 1 o)
def fl_lose (σ : zF) (b : Bool) : zF := if b = true then zU σ 0 4 (σ 0 4 + nI 1) else σ
def fl_telT (σ : zF) (t o : Nat) : zF := fl_lrn (fl_lose (fl_mend (fl_got σ o) t o) (fl_cut (fl_got σ o) t o)) t o
def fl_tel (σ : zF) (t o : Nat) : zF := if σ 3 t < σ 3 o then fl_take σ t (σ 3 o) else fl_telT (fl_hof σ o (σ 3 t)) t o
def fl_telL (t : Nat) : Nat → Nat → zF → zF
  | 0, _, σ => σ
  | f + 1, o, σ => if σ 5 t = nI 2 then (if o ≠ t ∧ fl_hear σ t o = true then fl_telL t f (o + 1) (fl_tel σ t o) else fl_telL t f (o + 1) σ) else σ
def fl_tells (n t o : Nat) (σ : zF) : zF := fl_telL t (n - o) o σ
/-- how many of the first ones are so -/
def fl_ct (p : Nat → Bool) : Nat → Nat
  | 0 => 0
  | i + 1 => if p i = true then fl_ct p i + 1 else fl_ct p i
def fl_agrees (σ : zF) (b k o : Nat) : Bool := fl_hear σ b o && decide (k ≤ fl_agr σ b o)
def fl_cnt (n : Nat) (σ : zF) (b k : Nat) : Nat := fl_ct (fl_agrees σ b k) n
def fl_comL (n : Nat) (σ : zF) (b : Nat) : Nat → zF
  | 0 => σ
  | k + 1 => if fl_kn σ b < k + 1 then (if σ 10 (b * 10 + k) = σ 3 b ∧ n / 2 < fl_cnt n σ b (k + 1) then zU σ 9 b (nI (k + 1)) else fl_comL n σ b k) else σ
def fl_com (n : Nat) (σ : zF) (b : Nat) : zF := fl_comL n σ b (fl_ln σ b)
def fl_lead (σ : zF) (b : Nat) : Bool := decide (¬ σ 7 b = 0 ∧ σ 5 b = nI 2)
def fl_fold (f : zF → Nat → zF) : Nat → zF → zF
  | 0, σ => σ
  | i + 1, σ => f (fl_fold f i σ) i
def fl_clk1 (n : Nat) (σ : zF) (i : Nat) : zF := if ¬ σ 7 i = 0 ∧ ¬ σ 5 i = nI 2 then (if σ 2 i - nI 1 = 0 then fl_stand n (zU σ 2 i (σ 2 i - nI 1)) i else zU σ 2 i (σ 2 i - nI 1)) else σ
def fl_tls1 (n : Nat) (σ : zF) (i : Nat) : zF := if fl_lead σ i = true then fl_tells n i 0 σ else σ
def fl_coms1 (n : Nat) (σ : zF) (i : Nat) : zF := if fl_lead σ i = true then fl_com n σ i else σ
def fl_tick (σ : zF) : zF := zU σ 0 1 (σ 0 1 + nI 1)
def fl_hour (n : Nat) (σ : zF) : zF := fl_tick (fl_fold (fl_coms1 n) n (fl_fold (fl_tls1 n) n (fl_fold (fl_clk1 n) n σ)))
def fl_hours (n : Nat) : Nat → zF → zF
  | 0, σ => σ
  | h + 1, σ => fl_hour n (fl_hours n h σ)
def fl_upIn (n : Nat) (σ : zF) (h : Int32) : Nat := fl_ct (fun b => decide (¬ σ 7 b = 0 ∧ σ 6 b = h)) n
def fl_any (p : Nat → Bool) : Nat → Bool
  | 0 => false
  | i + 1 => fl_any p i || p i
def fl_led1 (n : Nat) (σ : zF) (b : Nat) : Bool := fl_lead σ b && decide (n / 2 < fl_upIn n σ (σ 6 b))
def fl_led (n : Nat) (σ : zF) : Bool := fl_any (fl_led1 n σ) n
def fl_oI (r : Option Nat) : Int32 := match r with
  | none => -1
  | some j => nI j
def fl_nwst (σ : zF) (h : Int32) : Nat → Option Nat
  | 0 => none
  | i + 1 => if ¬ σ 7 i = 0 ∧ σ 6 i = h then (match fl_nwst σ h i with
    | none => some i
    | some j => if fl_nw σ j i = true then some j else some i) else fl_nwst σ h i
def fl_ldr (σ : zF) : Nat → Option Nat
  | 0 => none
  | i + 1 => if fl_lead σ i = true then (match fl_ldr σ i with
    | none => some i
    | some j => if σ 3 j < σ 3 i then some i else some j) else fl_ldr σ i
def fl_max (f : Nat → Int32) : Nat → Int32
  | 0 => nI 0
  | i + 1 => if fl_max f i < f i then f i else fl_max f i
def fl_min (f : Nat → Int32) : Nat → Int32
  | 0 => nI 10
  | i + 1 => if f i < fl_min f i then f i else fl_min f i
def fl_sum (f : Nat → Int32) : Nat → Int32
  | 0 => nI 0
  | i + 1 => fl_sum f i + f i
def fl_ofB (σ : zF) (b : Nat) (w : Nat) : Int32 := match w with
  | 0 => σ 3 b
  | 1 => σ 4 b
  | 2 => σ 5 b
  | 3 => σ 6 b
  | 4 => zb (decide (¬ σ 7 b = 0))
  | 5 => σ 1 b
  | 6 => σ 2 b
  | 7 => σ 8 b
  | 8 => σ 9 b
  | _ => fl_last σ b
def fl_ofE (n : Nat) (σ : zF) (b k : Nat) (w : Nat) : Int32 := match w with
  | 0 => σ 10 (b * 10 + k)
  | 1 => σ 11 (b * 10 + k)
  | _ => nI (fl_ct (fun o => decide (k + 1 ≤ fl_agr σ b o)) n)
def fl_ofF (n : Nat) (σ : zF) (w : Nat) : Int32 := match w with
  | 0 => σ 0 1
  | 1 => nI n
  | 2 => nI (fl_ct (fun b => decide (¬ σ 7 b = 0)) n)
  | 3 => nI (fl_ct (fl_lead σ) n)
  | 4 => fl_max (σ 3) n
  | 5 => σ 0 2
  | 6 => σ 0 3
  | 7 => σ 0 4
  | 8 => fl_max (σ 9) n
  | _ => fl_min (σ 9) n
