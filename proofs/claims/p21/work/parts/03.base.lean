/-! A world in blocks, and a walk over it: 'zK ..' is W at a point, for every heap that holds the blocks; a row of it an instruction. -/
/-- texts of exceptions: (class, place, text) -/
def zSt : List (String × Nat × String) := [("FleetTerms", 25, "boats is not 3 to 7"), ("FleetTerms", 153, "no such boat"), ("FleetTerms", 33, "patience is not 2 to 9"), ("FleetTerms", 155, "no such number"), ("FleetTerms", 53, "fish is not 0 to 99"), ("FleetTerms", 61, "the boat is sunk, or does not lead"), ("FleetTerms", 73, "the log has 10 entries"), ("FleetTerms", 157, "too few or too many hours"), ("FleetTerms", 133, "what is not 3 to 9")]
/-- an exception's class, and one that it is no part of -/
def zNcL : List (String × String) := []
abbrev zS : Type := (ClassId × Nat) ⊕ ((Nat × List (Option Nat)) ⊕ va_E)
abbrev zF : Type := Nat → Nat → Int32
abbrev zB : Type := List (Nat × zS) × zF
def zO : Nat → List (Option Nat) → (Nat → Int32) → List Value
  | _, [], _ => []
  | j, none :: fs, f => .int (f j) :: zO (j + 1) fs f
  | j, some r :: fs, f => .ref r :: zO (j + 1) fs f
def zV (o : Option Nat) (x : Int32) : Value := match o with
  | none => .int x
  | some r => .ref r
def zC (s : zS) (f : Nat → Int32) : va_E := match s with
  | .inl (cA, n) => .inl (cA, n, .inl f)
  | .inr (.inl (ci, fs)) => .inr (ci, zO 0 fs f)
  | .inr (.inr e) => e
def zW1 : Nat → List (Nat × zS) → zF → va_W
  | _, [], _ => []
  | k, p :: sh, σ => (p.1, zC p.2 (σ k)) :: zW1 (k + 1) sh σ
def zW : List zB → va_W
  | [] => []
  | b :: B => zW1 0 b.1 b.2 ++ zW B
def zU (σ : zF) (k i : Nat) (v : Int32) : zF := fun k' => bif k' == k then upd (σ k') i v else σ k'
theorem zU_eq (σ : zF) (k i : Nat) (v : Int32) : zU σ k i v k = upd (σ k) i v := by simp [zU]
theorem zU_ne {σ : zF} {k i k' : Nat} {v : Int32} (h : k' ≠ k) : zU σ k i v k' = σ k' := by
  simp [zU, beq_eq_false_iff_ne.mpr h]
theorem zU_at (σ : zF) (k i : Nat) (v : Int32) (k' j : Nat) : zU σ k i v k' j = if k' = k ∧ j = i then v else σ k' j := by
  by_cases h : k' = k
  · subst h
    rw [zU_eq]
    by_cases h2 : j = i <;> simp [upd, h2]
  · rw [zU_ne h]
    simp [h]
theorem zO_get : ∀ (fs : List (Option Nat)) (j0 : Nat) (f : Nat → Int32) (j : Nat), (zO j0 fs f)[j]? = (fs[j]?).map (fun o => zV o (f (j0 + j)))
  | [], _, _, _ => by simp [zO]
  | o :: fs, j0, f, j => by
    cases j with
    | zero => cases o <;> simp [zO, zV]
    | succ j =>
      have h := zO_get fs (j0 + 1) f j
      rw [show j0 + 1 + j = j0 + (j + 1) by omega] at h
      cases o <;> simpa [zO] using h
theorem zO_len (fs : List (Option Nat)) (j0 : Nat) (f : Nat → Int32) {j : Nat} {o : Option Nat} (h : fs[j]? = some o) : j < (zO j0 fs f).length := by
  have h1 : (zO j0 fs f)[j]? = some (zV o (f (j0 + j))) := by rw [zO_get, h]; rfl
  exact (List.getElem?_eq_some_iff.mp h1).1
theorem zO_set (fs : List (Option Nat)) (j0 : Nat) (f : Nat → Int32) {j : Nat} (v : Int32) (h : fs[j]? = some none) : (zO j0 fs f).set j (.int v) = zO j0 fs (upd f (j0 + j) v) := by
  apply List.ext_getElem?
  intro k
  by_cases hk : k = j
  · subst hk
    rw [List.getElem?_set_self (zO_len fs j0 f h), zO_get, h]
    simp [zV, upd]
  · rw [List.getElem?_set_ne (Ne.symm hk), zO_get, zO_get]
    congr 1
    funext o
    congr 1
    have hne : ¬ j0 + k = j0 + j := by omega
    simp [upd, hk]
theorem zW1_get : ∀ (sh : List (Nat × zS)) (k0 : Nat) (σ : zF) (j : Nat), (zW1 k0 sh σ)[j]? = (sh[j]?).map (fun p => (p.1, zC p.2 (σ (k0 + j))))
  | [], _, _, _ => by simp [zW1]
  | p :: sh, k0, σ, j => by
    cases j with
    | zero => simp [zW1]
    | succ j =>
      have h := zW1_get sh (k0 + 1) σ j
      rw [show k0 + 1 + j = k0 + (j + 1) by omega] at h
      simpa [zW1] using h
theorem zW1_len {sh : List (Nat × zS)} {k0 : Nat} {σ : zF} {j : Nat} {p : Nat × zS} (h : sh[j]? = some p) : j < (zW1 k0 sh σ).length := by
  have h1 : (zW1 k0 sh σ)[j]? = some (p.1, zC p.2 (σ (k0 + j))) := by rw [zW1_get, h]; rfl
  exact (List.getElem?_eq_some_iff.mp h1).1
theorem zW1_set {sh : List (Nat × zS)} {k0 : Nat} {σ σ' : zF} {j a : Nat} {s : zS} {e' : va_E} (h : sh[j]? = some (a, s)) (he : zC s (σ' (k0 + j)) = e') (ho : ∀ k, k ≠ k0 + j → σ' k = σ k) : (zW1 k0 sh σ).set j (a, e') = zW1 k0 sh σ' := by
  apply List.ext_getElem?
  intro k
  by_cases hk : k = j
  · subst hk
    rw [List.getElem?_set_self (zW1_len h), zW1_get, h]
    simp [he]
  · rw [List.getElem?_set_ne (Ne.symm hk), zW1_get, zW1_get]
    congr 1
    funext p
    rw [ho (k0 + k) (by omega)]
theorem zW1_setR {sh : List (Nat × zS)} {k0 : Nat} {σ : zF} {j a : Nat} {s : zS} {e' : va_E} (h : sh[j]? = some (a, s)) : (zW1 k0 sh σ).set j (a, e') = zW1 k0 (sh.set j (a, .inr (.inr e'))) σ := by
  have hl := (List.getElem?_eq_some_iff.mp h).1
  apply List.ext_getElem?
  intro k
  by_cases hk : k = j
  · subst hk
    rw [List.getElem?_set_self (zW1_len h), zW1_get, List.getElem?_set_self hl]
    rfl
  · rw [List.getElem?_set_ne (Ne.symm hk), zW1_get, zW1_get, List.getElem?_set_ne (Ne.symm hk)]
theorem zW_at : ∀ (B : List zB) (b : Nat) {sh : List (Nat × zS)} {σ : zF}, B[b]? = some (sh, σ) → ∀ {k a : Nat} {s : zS}, sh[k]? = some (a, s) → ∃ q0 : Nat, (zW B)[q0]? = some (a, zC s (σ k)) ∧ (∀ (σ' : zF) (e' : va_E), zC s (σ' k) = e' → (∀ k', k' ≠ k → σ' k' = σ k') → (zW B).set q0 (a, e') = zW (B.set b (sh, σ'))) ∧ (∀ e' : va_E, (zW B).set q0 (a, e') = zW (B.set b (sh.set k (a, .inr (.inr e')), σ)))
  | [], b, _, _, h, _, _, _, _ => by simp at h
  | b0 :: B, 0, sh, σ, h, k, a, s, hk => by
    have hb0 : b0 = (sh, σ) := by simpa using h
    subst hb0
    have hl : k < (zW1 0 sh σ).length := zW1_len hk
    refine ⟨k, ?_, fun σ' e' he ho => ?_, fun e' => ?_⟩
    · show (zW1 0 sh σ ++ zW B)[k]? = _
      rw [List.getElem?_append_left hl, zW1_get, hk]
      simp
    · show (zW1 0 sh σ ++ zW B).set k (a, e') = zW1 0 sh σ' ++ zW B
      rw [List.set_append_left k _ hl, zW1_set (σ' := σ') hk (by simpa using he) (fun k' hk' => ho k' (by simpa using hk'))]
    · show (zW1 0 sh σ ++ zW B).set k (a, e') = zW1 0 (sh.set k (a, .inr (.inr e'))) σ ++ zW B
      rw [List.set_append_left k _ hl, zW1_setR hk]
  | b0 :: B, b + 1, sh, σ, h, k, a, s, hk => by
    have hB : B[b]? = some (sh, σ) := by simpa using h
    obtain ⟨q, h1, h2, h3⟩ := zW_at B b hB hk
    refine ⟨(zW1 0 b0.1 b0.2).length + q, ?_, fun σ' e' he ho => ?_, fun e' => ?_⟩
    · show (zW1 0 b0.1 b0.2 ++ zW B)[(zW1 0 b0.1 b0.2).length + q]? = _
      rw [List.getElem?_append_right (by omega), Nat.add_sub_cancel_left]
      exact h1
    · show (zW1 0 b0.1 b0.2 ++ zW B).set ((zW1 0 b0.1 b0.2).length + q) (a, e') = zW1 0 b0.1 b0.2 ++ zW (B.set b (sh, σ'))
      rw [List.set_append_right _ _ (by omega), Nat.add_sub_cancel_left, h2 σ' e' he ho]
    · show (zW1 0 b0.1 b0.2 ++ zW B).set ((zW1 0 b0.1 b0.2).length + q) (a, e') = zW1 0 b0.1 b0.2 ++ zW (B.set b (sh.set k (a, .inr (.inr e')), σ))
      rw [List.set_append_right _ _ (by omega), Nat.add_sub_cancel_left, h3 e']
theorem zD_iff {A : Nat → Prop} {ws : va_W} : va_D A ws ↔ (ws.map (·.1)).Nodup ∧ ∀ q ∈ ws, A q.1 := by
  constructor
  · intro h
    refine ⟨List.nodup_iff_pairwise_ne.mpr (List.pairwise_iff_getElem.mpr fun i j hi hj hij e => ?_), fun q hq => ?_⟩
    · rw [List.length_map] at hi hj
      rw [List.getElem_map, List.getElem_map] at e
      have := h.1 i j _ _ (List.getElem?_eq_getElem hi) (List.getElem?_eq_getElem hj) e
      omega
    · obtain ⟨k, hk⟩ := List.getElem?_of_mem hq
      exact h.2 k q hk
  · intro h
    have h1 := List.pairwise_iff_getElem.mp (List.nodup_iff_pairwise_ne.mp h.1)
    refine ⟨fun i j p q hi hj e => ?_, fun k q hk => h.2 q (List.mem_of_getElem? hk)⟩
    obtain ⟨li, ei⟩ := List.getElem?_eq_some_iff.mp hi
    obtain ⟨lj, ej⟩ := List.getElem?_eq_some_iff.mp hj
    rcases Nat.lt_trichotomy i j with g | g | g
    · exact absurd (by rw [List.getElem_map, List.getElem_map, ei, ej]; exact e) (h1 i j (by rw [List.length_map]; exact li) (by rw [List.length_map]; exact lj) g)
    · exact g
    · exact absurd (by rw [List.getElem_map, List.getElem_map, ei, ej]; exact e.symm) (h1 j i (by rw [List.length_map]; exact lj) (by rw [List.length_map]; exact li) g)
theorem zP_iff {D : va_G} {cl : List vw_C} {ws : va_W} {H : Heap} : va_P D cl ws H ↔ ∀ q ∈ ws, va_at D cl q H := by
  constructor
  · intro h q hq
    obtain ⟨k, hk⟩ := List.getElem?_of_mem hq
    exact h k q hk
  · intro h k q hk
    exact h q (List.mem_of_getElem? hk)
theorem zA_iff {ws : va_W} {sz q : Nat} : va_A ws sz q ↔ (∃ p ∈ ws, p.1 = q) ∨ sz ≤ q := by
  constructor
  · rintro (⟨k, e, h⟩ | h)
    · exact Or.inl ⟨(q, e), List.mem_of_getElem? h, rfl⟩
    · exact Or.inr h
  · rintro (⟨p, hp, rfl⟩ | h)
    · obtain ⟨k, hk⟩ := List.getElem?_of_mem hp
      exact va_A.in hk
    · exact Or.inr h
theorem zW_app : ∀ (B B' : List zB), zW (B ++ B') = zW B ++ zW B'
  | [], _ => rfl
  | b :: B, B' => by
    show zW1 0 b.1 b.2 ++ zW (B ++ B') = zW1 0 b.1 b.2 ++ zW B ++ zW B'
    rw [zW_app B B', List.append_assoc]
theorem zW_perm {B B' : List zB} (h : B.Perm B') : (zW B).Perm (zW B') := by
  induction h with
  | nil => exact List.Perm.refl _
  | cons b _ ih => exact List.Perm.append_left _ ih
  | swap a b l =>
    show (zW1 0 b.1 b.2 ++ (zW1 0 a.1 a.2 ++ zW l)).Perm (zW1 0 a.1 a.2 ++ (zW1 0 b.1 b.2 ++ zW l))
    rw [← List.append_assoc, ← List.append_assoc]
    exact List.Perm.append_right _ List.perm_append_comm
  | trans _ _ h1 h2 => exact h1.trans h2
def zPick : List Bool → List zB → List zB
  | true :: m, b :: B => b :: zPick m B
  | false :: m, _ :: B => zPick m B
  | _, _ => []
def zRest : List Bool → List zB → List zB
  | true :: m, _ :: B => zRest m B
  | false :: m, b :: B => b :: zRest m B
  | _, B => B
def zPut : List Bool → List zB → List zB → List zB
  | true :: m, _ :: B, c :: u => c :: zPut m B u
  | true :: m, _ :: B, [] => zPut m B []
  | false :: m, b :: B, u => b :: zPut m B u
  | _, B, u => B ++ u
theorem zPick_perm : ∀ (m : List Bool) (B : List zB), B.Perm (zRest m B ++ zPick m B)
  | [], B => by cases B <;> simp [zRest, zPick]
  | _ :: _, [] => by simp [zRest, zPick]
  | true :: m, b :: B => by
    show (b :: B).Perm (zRest m B ++ b :: zPick m B)
    exact (List.Perm.cons b (zPick_perm m B)).trans List.perm_middle.symm
  | false :: m, b :: B => List.Perm.cons b (zPick_perm m B)
theorem zPut_perm : ∀ (m : List Bool) (B u : List zB), (zPut m B u).Perm (zRest m B ++ u)
  | [], B, u => by cases B <;> simp [zRest, zPut]
  | _ :: _, [], u => by simp [zRest, zPut]
  | true :: m, b :: B, [] => zPut_perm m B []
  | true :: m, b :: B, c :: u => by
    show (c :: zPut m B u).Perm (zRest m B ++ c :: u)
    exact (List.Perm.cons c (zPut_perm m B u)).trans List.perm_middle.symm
  | false :: m, b :: B, u => List.Perm.cons b (zPut_perm m B u)
theorem zP_perm {D : va_G} {cl : List vw_C} {w w' : va_W} {H : Heap} (h : w.Perm w') (hP : va_P D cl w H) : va_P D cl w' H := zP_iff.mpr fun q hq => zP_iff.mp hP q (h.mem_iff.mpr hq)
theorem zD_perm {A : Nat → Prop} {w w' : va_W} (h : w.Perm w') (hD : va_D A w) : va_D A w' := by
  obtain ⟨h1, h2⟩ := zD_iff.mp hD
  exact zD_iff.mpr ⟨(h.map (·.1)).nodup h1, fun q hq => h2 q (h.mem_iff.mpr hq)⟩
theorem zD_split {A : Nat → Prop} {w w' : va_W} (hD : va_D A (w ++ w')) : va_D A w ∧ va_D A w' ∧ ∀ q ∈ w, ∀ q' ∈ w', q.1 ≠ q'.1 := by
  obtain ⟨h1, h2⟩ := zD_iff.mp hD
  rw [List.map_append, List.nodup_append] at h1
  exact ⟨zD_iff.mpr ⟨h1.1, fun q hq => h2 q (List.mem_append_left _ hq)⟩, zD_iff.mpr ⟨h1.2.1, fun q hq => h2 q (List.mem_append_right _ hq)⟩, fun q hq q' hq' => h1.2.2 _ (List.mem_map_of_mem hq) _ (List.mem_map_of_mem hq')⟩
theorem z_pick {D : va_G} {A0 : Nat → Prop} {H0 H : Heap} {locs : List Loc} (m : List Bool) {B : List zB} (hP : va_P D vwCl (zW B) H) (hD : va_D A0 (zW B)) (hS : va_S A0 H0 H locs) (hA : ∀ q, H0.size ≤ q → A0 q) :
    va_P D vwCl (zW (zPick m B)) H ∧ va_D (fun _ => True) (zW (zPick m B)) ∧ ∀ q, va_A (zW (zPick m B)) H.size q → A0 q := by
  have hp := zW_perm (zPick_perm m B)
  rw [zW_app] at hp
  have hP1 := zP_perm hp hP
  have hD1 := zD_perm hp hD
  obtain ⟨-, d2, -⟩ := zD_split hD1
  refine ⟨zP_iff.mpr fun q hq => zP_iff.mp hP1 q (List.mem_append_right _ hq), d2.weaken (fun _ _ _ _ => trivial), fun q h => ?_⟩
  rcases zA_iff.mp h with ⟨p, hp, rfl⟩ | h
  · exact (zD_iff.mp d2).2 p hp
  · exact hA q (Nat.le_trans hS.1 h)
theorem z_join {D : va_G} {A0 : Nat → Prop} (m : List Bool) {B u : List zB} {H H1 : Heap} (hP : va_P D vwCl (zW B) H) (hD : va_D A0 (zW B)) (hk : ∀ q : Nat, q < H.size → ¬ va_A (zW (zPick m B)) H.size q → H1[q]? = H[q]?) (hF : ∀ q, va_A (zW (zPick m B)) H.size q → A0 q) (hP1 : va_P D vwCl (zW u) H1) (hD1 : va_D (va_A (zW (zPick m B)) H.size) (zW u)) :
    va_P D vwCl (zW (zPut m B u)) H1 ∧ va_D A0 (zW (zPut m B u)) := by
  have hp := zW_perm (zPick_perm m B)
  rw [zW_app] at hp
  have hPb := zP_perm hp hP
  obtain ⟨d1, -, d3⟩ := zD_split (zD_perm hp hD)
  have apart : ∀ q ∈ zW (zRest m B), q.1 < H.size ∧ ¬ va_A (zW (zPick m B)) H.size q.1 := fun q hq => by
    have hl := (zP_iff.mp hPb q (List.mem_append_left _ hq)).lt
    refine ⟨hl, fun h => ?_⟩
    rcases zA_iff.mp h with ⟨p, hp, e⟩ | h
    · exact d3 q hq p hp e.symm
    · omega
  have hq := zW_perm (zPut_perm m B u).symm
  rw [zW_app] at hq
  refine ⟨zP_perm hq (zP_iff.mpr fun q hq => ?_), zD_perm hq (zD_iff.mpr ⟨?_, fun q hq => ?_⟩)⟩
  · rcases List.mem_append.mp hq with h | h
    · exact (zP_iff.mp hPb q (List.mem_append_left _ h)).kept (hk q.1 (apart q h).1 (apart q h).2)
    · exact zP_iff.mp hP1 q h
  · rw [List.map_append, List.nodup_append]
    refine ⟨(zD_iff.mp d1).1, (zD_iff.mp hD1).1, fun a ha b hb e => ?_⟩
    obtain ⟨q, hq, rfl⟩ := List.mem_map.mp ha
    obtain ⟨q', hq', rfl⟩ := List.mem_map.mp hb
    exact (apart q hq).2 (by rw [e]; exact (zD_iff.mp hD1).2 q' hq')
  · rcases List.mem_append.mp hq with h | h
    · exact (zD_iff.mp d1).2 q h
    · exact hF q.1 ((zD_iff.mp hD1).2 q h)
/-- the words that go with every method: those of the tables that any warming keeps -/
def lw_all : List Cond := lw_tbl.filter goodWord
/-- the words that go in premises: members of nest mates, and casts -/
def zNk : Cond → Bool
  | .fieldLinkNest .. => true
  | .methodLinkNest .. => true
  | .castable .. => true
  | .declares _ => true
  | .arrayOver (.object _) => true
  | .arrayOver (.array _) => true
  | _ => false
def lw_env : List Cond := lw_tbl.filter zNk
theorem zAO_moved {t : FieldType} {u U : State} (hvm : u.vm.Alike U.vm) (h : va_Nw (.arrayOver (.array t)) u) : va_Nw (.arrayOver (.array t)) U := by
  obtain ⟨comp, c, k, h1, h2, h3, h4, h5⟩ := arrayOverA_spec h
  obtain ⟨k', hk', he⟩ := hvm.2.2 _ _ h3
  have hi : (U.vm.classes.findIdx? fun (x : Class) => match x.kind with | .array component _ => component == comp | _ => false) = some c := by
    rw [hvm.findIdx?_eq _ (fun _ => rfl)]
    exact h2
  have hkind : k'.kind = .array comp (.array t) := by rw [he]; exact h4
  have f1 : U.vm.findClass (FieldType.array t).toString = some comp := by rw [hvm.findClass]; exact h1
  have f2 : U.vm.findClass ("[" ++ (FieldType.array t).toString) = some c := by rw [hvm.findClass]; exact h5
  unfold va_Nw Cond.before Cond.holds
  simp only [Cond.value]
  rw [f1, Option.bind_some]
  refine (congrArg (fun o : Option Nat => (o.bind (fun c => (U.vm.classes[c]?).map fun (k : Class) => match k.kind with | .array _ ty => decide (ty = FieldType.array t) && decide (U.vm.findClass ("[" ++ (FieldType.array t).toString) = some c) | _ => false) == some true)) hi).trans ?_
  simp [hk', hkind, f2]
theorem zNk_go {s U : State} (hW : s.WarmedH U.vm) : ∀ w : Cond, zNk w = true → va_Nw w s → va_Nw w U := by
  intro w hw h
  cases w with
  | fieldLinkNest a i b n d h9 => exact va_Nw.warmF hW h
  | methodLinkNest a i x h9 => exact va_Nw.warmM hW h
  | castable a b => exact va_tabs rfl (rfl : (s.setVm U.vm).vm = U.vm) (Cond.before_shiftedFace (State.Shifted.of_warmed hW) (.castable a b) rfl h)
  | declares a => exact va_tabs rfl (rfl : (s.setVm U.vm).vm = U.vm) (Cond.before_shiftedFace (State.Shifted.of_warmed hW) (.declares a) rfl h)
  | arrayOver t =>
    cases t with
    | object C => exact va_AO.moved hW.alike h
    | array t => exact zAO_moved hW.alike h
    | _ => simp [zNk] at hw
  | _ => simp [zNk] at hw
def zEv (A : Nat → Prop) (U : State) (H : Heap) : Prop :=
  (∀ w ∈ lw_env, va_Nw w U) ∧ (∀ q ∈ zSt, ∃ sa : Nat, vk_R q.1 q.2.1 q.2.2 sa U) ∧ (∀ q ∈ zNcL, va_Nc q.1 q.2 U) ∧ vx_Zq Bundle.tN "UNASSIGNED_STACK" Bundle.steD A U H ∧ vx_Zq Bundle.tN "SUPPRESSED_SENTINEL" Bundle.listD A U H
theorem zEv.go {A B : Nat → Prop} {s U : State} {H H1 : Heap} (h : zEv A s H) (hW : s.WarmedH U.vm) (hq : ∀ a : Nat, a < H.size → ¬ A a → H1[a]? = H[a]?) (hAB : ∀ q, B q → A q) : zEv B U H1 := by
  obtain ⟨h1, h2, h3, h4, h5⟩ := h
  refine ⟨fun w hw => zNk_go hW w (List.mem_filter.mp hw).2 (h1 w hw), fun q hq => ?_, fun q hq => (h3 q hq).moved hW.alike, ((h4.kept hq).narrow hAB).moved hW.alike, ((h5.kept hq).narrow hAB).moved hW.alike⟩
  obtain ⟨sa, h⟩ := h2 q hq
  exact ⟨sa, vk_R.warm hW h⟩
theorem zEv_calling {A : Nat → Prop} {U : State} {g : JFrame} {mk : MethodId} {a : Array Value} (h : zEv A U U.heap) : zEv A (U.calling g mk a) (U.calling g mk a).heap := h.go (State.WarmedH.refl U) (fun _ _ _ => rfl) (fun _ h => h)
/-- a method's words -/
abbrev wz (y : MethodName) (cc : ByteArray) (n : Nat) (ret : Option FieldType) : List Cond := Cond.code y cc n ret :: lw_all
theorem lw_good {w : Cond} (h : w ∈ lw_all) : w ∈ lw_all ∧ ((w.onTables && w.keeps) = true ∨ ∃ ty, w = .arrayClass ty) := ⟨h, good_of_word (List.mem_filter.mp h).2⟩
theorem lw_goodIn {l : List Cond} (h : ∀ w ∈ l, w ∈ lw_all) : GoodIn lw_all l := fun w hw => lw_good (h w hw)
/-- what a caller asks of a method's tables: its code, and that it is found in objects of the class Cl -/
def zCal (y : MethodName) (cc : ByteArray) (n : Nat) (ret : Option FieldType) (k : Nat) : Prop := Cond.code y cc n ret ∈ lw_all ∧ Cond.initialized y.cls ∈ lw_all ∧ (y.cls ≠ "java/lang/invoke/MethodHandle" ∧ y.cls ≠ "java/lang/invoke/VarHandle" ∧ (parseMethodDescriptor y.desc).map (fun d => d.parameters.length) = some k)
theorem zCal.ws {y : MethodName} {cc : ByteArray} {n k : Nat} {ret : Option FieldType} (h : zCal y cc n ret k) : ∀ w ∈ wz y cc n ret, w ∈ lw_all := fun w hw => by
  rcases List.mem_cons.mp hw with rfl | hw
  · exact h.1
  · exact hw
theorem zg_V {own Cl : String} {idx : Nat} {y : MethodName} {ws : List Cond} (h1 : Cond.methodLink own idx y ∈ lw_all) (h2 : Cond.instanceMethod y ∈ lw_all) (h3 : Cond.selects Cl y y ∈ lw_all) (h4 : Cond.initialized Cl ∈ lw_all) (h5 : ∀ w ∈ ws, w ∈ lw_all) : GoodIn lw_all (wsV own idx Cl y ws) := lw_goodIn fun w hw => by
  rcases List.mem_append.mp hw with h | h
  · simp only [List.mem_cons, List.not_mem_nil, or_false] at h
    rcases h with rfl | rfl | rfl | rfl
    · exact h1
    · exact h2
    · exact h3
    · exact h4
  · exact h5 w h
theorem zg_S {own : String} {idx : Nat} {y : MethodName} {ws : List Cond} (h1 : Cond.methodLink own idx y ∈ lw_all) (h2 : Cond.static y ∈ lw_all) (h4 : Cond.initialized y.cls ∈ lw_all) (h5 : ∀ w ∈ ws, w ∈ lw_all) : GoodIn lw_all (va_wsS own idx y ws) := lw_goodIn fun w hw => by
  rcases List.mem_append.mp hw with h | h
  · simp only [List.mem_cons, List.not_mem_nil, or_false] at h
    rcases h with rfl | rfl | rfl
    · exact h1
    · exact h2
    · exact h4
  · exact h5 w h
/-- what holds all along a method's walk -/
def zX (p : Program) (s : State) (m : MethodId) (args : Array Value) (meth : Method) (c : Code) (D : va_G) (tys : List (ClassId × FieldType)) (A : Nat → Prop) (own : String) (cc : ByteArray) (nL : Nat) : Prop :=
  p.tables.exec = Jvm.exec ∧ c.code = cc ∧ c.maxLocals = nL ∧ s.vm.findClass own = some m.cls ∧ (∀ w ∈ lw_all, w.before args s = true) ∧ va_K D vwCl tys s ∧ (∀ q : Nat, s.heap.size ≤ q → A q) ∧ meth.locks = false ∧ zEv A s s.heap
def zK (p : Program) (l : Launch) (e : Env) (R : Room) (s : State) (m : MethodId) (args : Array Value) (below : List Frame) (meth : Method) (c : Code) (D : va_G) (A : Nat → Prop) (nL : Nat) (Q : State → Prop) (cells slots pc : Nat) (L : List (Nat × Value)) (st : List Value) (B : List zB) : Prop :=
  ∀ (H : Heap) (locs : List Loc) (ls : Array Slot), va_P D vwCl (zW B) H → va_D A (zW B) → va_S A s.heap H locs → lv_has ls nL L → W p l e R s m args below meth c H locs cells slots Q (F0 m pc ls st)
/-- a contract: from the blocks B it returns; what it answers, and the blocks behind it -/
def zPre (D : va_G) (tys : List (ClassId × FieldType)) (sz : Nat) (B : List zB) (U : State) : Prop := U.heap.size = sz ∧ va_P D vwCl (zW B) U.heap ∧ va_K D vwCl tys U ∧ va_D (fun _ => True) (zW B) ∧ zEv (va_A (zW B) sz) U U.heap
def zQ (post : Option Value → List zB → Prop) (D : va_G) (tys : List (ClassId × FieldType)) (A : Nat → Prop) : Array Value → State → Outcome → State → Prop := fun _ st oc t =>
  (∃ (r : Option Value) (u : List zB), oc = .returned r ∧ post r u ∧ va_P D vwCl (zW u) t.heap ∧ va_K D vwCl tys t ∧ va_D A (zW u)) ∧ va_F A st t
def zM (l : Launch) (D : va_G) (tys : List (ClassId × FieldType)) (y : MethodName) (cc : ByteArray) (n : Nat) (ret : Option FieldType) (rm : Room) (as : List Value) (B : List zB) (mc ms : Nat) (post : Option Value → List zB → Prop) : Prop :=
  ∀ sz : Nat, Met l y (wz y cc n ret) rm (va_Pc as (zPre D tys sz B)) (zQ post D tys (va_A (zW B) sz)) mc ms (va_A (zW B) sz)
theorem zPre_blind {D : va_G} {tys : List (ClassId × FieldType)} {sz : Nat} {B : List zB} {as : List Value} : FrameBlind (va_Pc as (zPre D tys sz B)) := fun a U g mk q => by
  obtain ⟨q0, q1, qP, qK, qD, qE⟩ := q
  exact ⟨q0, q1, qP, va_K.moved (u := U) (U := U.calling g mk a) (Vm.Alike.refl U.vm) qK, qD, zEv_calling qE⟩
section ZROWS
variable {p : Program} {l : Launch} {e : Env} {R : Room} {s : State} {m : MethodId} {args : Array Value} {below : List Frame} {meth : Method} {c : Code} {D : va_G} {tys : List (ClassId × FieldType)} {A : Nat → Prop} {own : String} {cc : ByteArray} {nL : Nat} {Q : State → Prop} {cells slots pc : Nat} {L L' : List (Nat × Value)} {st rest : List Value} {B B' : List zB}
theorem z_of {y : MethodName} {rm : Room} {as : List Value} {mc ms : Nat} {post : Option Value → List zB → Prop} {maxL : Nat} {ret : Option FieldType} (hy : plainName y.cls = true) (hlen : (lg_sl as).length ≤ maxL) (hL : lv_args 0 as = L)
    (body : ∀ (p : Program) (e : Env) (s : State) (m : MethodId) (args : Array Value) (below : List Frame) (meth : Method) (c : Code) (A : Nat → Prop), zX p s m args meth c D tys A y.cls cc maxL → meth.sig.returnType = ret → (y.name = "<init>" → meth.name = "<init>") → zK p l e rm s m args below meth c D A maxL (MQ below (zQ post D tys A) args s mc ms A) 0 0 0 L [] B) : zM l D tys y cc maxL ret rm as B mc ms post := by
  intro sz
  refine Met.ofW (cc := cc) (maxL := maxL) (ret := ret) hy rfl ?_
  intro p e s m args below meth c s₁ BL hml hv
  obtain ⟨rfl, hsz, hP, hK, hD0, hE⟩ := hv
  subst hsz
  have hl := lv_entry as (n := maxL) hlen
  rw [hL] at hl
  rw [lg_entry_eq]
  have hts := atoms_spec (ws := wz y cc maxL ret) BL.pre
  exact body p e s m as.toArray below meth c (va_A (zW B) s.heap.size) ⟨BL.exec, BL.bytes, hml, findClass_of_methodNamed BL.named, fun w hw => hts w (List.mem_cons_of_mem _ hw), hK, fun q h => Or.inr h, BL.notSynchronized, hE⟩ BL.returns (fun h => (name_of_methodNamed BL.named BL.method).1.trans h) s.heap [] _ hP hD0.self va_S.rf hl
theorem z_sub (ks : List Nat) (hl : lv_pick L ks = L') (k : zK p l e R s m args below meth c D A nL Q cells slots pc L' st B) : zK p l e R s m args below meth c D A nL Q cells slots pc L st B := fun H locs ls hP hD hS hh => k H locs ls hP hD hS (lv_sub hh ks hl)
theorem z_widen {k n : Nat} (h1 : cells ≤ k) (h2 : slots ≤ n) (kk : zK p l e R s m args below meth c D A nL Q k n pc L st B) : zK p l e R s m args below meth c D A nL Q cells slots pc L st B := fun H locs ls hP hD hS hh => W.widen h1 h2 (kk H locs ls hP hD hS hh)
theorem z_top {x y : Int32} (h : x = y) (k : zK p l e R s m args below meth c D A nL Q cells slots pc L (.int y :: st) B) : zK p l e R s m args below meth c D A nL Q cells slots pc L (.int x :: st) B := h ▸ k
theorem z_eq (hB : B = B') (k : zK p l e R s m args below meth c D A nL Q cells slots pc L st B') : zK p l e R s m args below meth c D A nL Q cells slots pc L st B := hB ▸ k

theorem z_iconst (C : zX p s m args meth c D tys A own cc nL) {n : Int} {v : Int32} (hv : Int32.ofInt n = v) (hdg : decode cc pc = .ok (.iconst n, 1)) (k : zK p l e R s m args below meth c D A nL Q cells slots (pc + 1) L (.int v :: st) B) : zK p l e R s m args below meth c D A nL Q cells slots pc L (st) B := fun H locs ls hP hD hS hl => lv_iconst C.1 C.2.1 hdg hv (k H locs ls hP hD hS hl)
theorem z_bipush (C : zX p s m args meth c D tys A own cc nL) {n : Int} {v : Int32} (hv : (Int8.ofInt n).toInt32 = v) (hdg : decode cc pc = .ok (.bipush n, 2)) (k : zK p l e R s m args below meth c D A nL Q cells slots (pc + 2) L (.int v :: st) B) : zK p l e R s m args below meth c D A nL Q cells slots pc L (st) B := fun H locs ls hP hD hS hl => lv_bipush C.1 C.2.1 hdg hv (k H locs ls hP hD hS hl)
theorem z_lconst (C : zX p s m args meth c D tys A own cc nL) {n : Fin 2} {v : Int64} (hv : Int64.ofNat (n : Nat) = v) (hdg : decode cc pc = .ok (.lconst n, 1)) (k : zK p l e R s m args below meth c D A nL Q cells slots (pc + 1) L (.long v :: st) B) : zK p l e R s m args below meth c D A nL Q cells slots pc L (st) B := fun H locs ls hP hD hS hl => lv_lconst C.1 C.2.1 hdg hv (k H locs ls hP hD hS hl)
theorem z_iload_n (C : zX p s m args meth c D tys A own cc nL) {k : Fin 4} {i : Nat} {x : Int32} (hdg : decode cc pc = .ok (.iload_n k, 1)) (hi : (k : Nat) = i) (j : Nat) (hj : L[j]? = some (i, .int x)) (kk : zK p l e R s m args below meth c D A nL Q cells slots (pc + 1) L (.int x :: st) B) : zK p l e R s m args below meth c D A nL Q cells slots pc L st B := fun H locs ls hP hD hS hl => lv_iload_n C.1 C.2.1 hdg hi (lv_at hl j hj) (kk H locs ls hP hD hS hl)
theorem z_iload (C : zX p s m args meth c D tys A own cc nL) {i : Nat} {x : Int32} (hdg : decode cc pc = .ok (.iload i, 2)) (j : Nat) (hj : L[j]? = some (i, .int x)) (kk : zK p l e R s m args below meth c D A nL Q cells slots (pc + 2) L (.int x :: st) B) : zK p l e R s m args below meth c D A nL Q cells slots pc L st B := fun H locs ls hP hD hS hl => lv_iload C.1 C.2.1 hdg (lv_at hl j hj) (kk H locs ls hP hD hS hl)
theorem z_istore_n (C : zX p s m args meth c D tys A own cc nL) {k : Fin 4} {i : Nat} {x : Int32} (hdg : decode cc pc = .ok (.istore_n k, 1)) (hi : (k : Nat) = i) (hn : i < nL) (hL : (i, Value.int x) :: L.filter (fun q => !(q.1 == i) && !(q.1 + 1 == i && q.2.category == 2)) = L') (kk : zK p l e R s m args below meth c D A nL Q cells slots (pc + 1) L' st B) : zK p l e R s m args below meth c D A nL Q cells slots pc L (.int x :: st) B := fun H locs ls hP hD hS hl => lv_istore_n C.1 C.2.1 hdg hi hl hn hL (fun ls hl => kk H locs ls hP hD hS hl)
theorem z_istore (C : zX p s m args meth c D tys A own cc nL) {i : Nat} {x : Int32} (hdg : decode cc pc = .ok (.istore i, 2)) (hn : i < nL) (hL : (i, Value.int x) :: L.filter (fun q => !(q.1 == i) && !(q.1 + 1 == i && q.2.category == 2)) = L') (kk : zK p l e R s m args below meth c D A nL Q cells slots (pc + 2) L' st B) : zK p l e R s m args below meth c D A nL Q cells slots pc L (.int x :: st) B := fun H locs ls hP hD hS hl => lv_istore C.1 C.2.1 hdg hl hn hL (fun ls hl => kk H locs ls hP hD hS hl)
theorem z_lload_n (C : zX p s m args meth c D tys A own cc nL) {k : Fin 4} {i : Nat} {x : Int64} (hdg : decode cc pc = .ok (.lload_n k, 1)) (hi : (k : Nat) = i) (j : Nat) (hj : L[j]? = some (i, .long x)) (kk : zK p l e R s m args below meth c D A nL Q cells slots (pc + 1) L (.long x :: st) B) : zK p l e R s m args below meth c D A nL Q cells slots pc L st B := fun H locs ls hP hD hS hl => lv_lload_n C.1 C.2.1 hdg hi (lv_at hl j hj) (kk H locs ls hP hD hS hl)
theorem z_lload (C : zX p s m args meth c D tys A own cc nL) {i : Nat} {x : Int64} (hdg : decode cc pc = .ok (.lload i, 2)) (j : Nat) (hj : L[j]? = some (i, .long x)) (kk : zK p l e R s m args below meth c D A nL Q cells slots (pc + 2) L (.long x :: st) B) : zK p l e R s m args below meth c D A nL Q cells slots pc L st B := fun H locs ls hP hD hS hl => lv_lload C.1 C.2.1 hdg (lv_at hl j hj) (kk H locs ls hP hD hS hl)
theorem z_lstore_n (C : zX p s m args meth c D tys A own cc nL) {k : Fin 4} {i : Nat} {x : Int64} (hdg : decode cc pc = .ok (.lstore_n k, 1)) (hi : (k : Nat) = i) (hn : i + 1 < nL) (hL : (i, Value.long x) :: L.filter (fun q => !(q.1 == i) && (!(q.1 == i + 1) && !(q.1 + 1 == i && q.2.category == 2))) = L') (kk : zK p l e R s m args below meth c D A nL Q cells slots (pc + 1) L' st B) : zK p l e R s m args below meth c D A nL Q cells slots pc L (.long x :: st) B := fun H locs ls hP hD hS hl => lv_lstore_n C.1 C.2.1 hdg hi hl hn hL (fun ls hl => kk H locs ls hP hD hS hl)
theorem z_lstore (C : zX p s m args meth c D tys A own cc nL) {i : Nat} {x : Int64} (hdg : decode cc pc = .ok (.lstore i, 2)) (hn : i + 1 < nL) (hL : (i, Value.long x) :: L.filter (fun q => !(q.1 == i) && (!(q.1 == i + 1) && !(q.1 + 1 == i && q.2.category == 2))) = L') (kk : zK p l e R s m args below meth c D A nL Q cells slots (pc + 2) L' st B) : zK p l e R s m args below meth c D A nL Q cells slots pc L (.long x :: st) B := fun H locs ls hP hD hS hl => lv_lstore C.1 C.2.1 hdg hl hn hL (fun ls hl => kk H locs ls hP hD hS hl)
theorem z_aload_n (C : zX p s m args meth c D tys A own cc nL) {k : Fin 4} {i : Nat} {x : Nat} (hdg : decode cc pc = .ok (.aload_n k, 1)) (hi : (k : Nat) = i) (j : Nat) (hj : L[j]? = some (i, .ref x)) (kk : zK p l e R s m args below meth c D A nL Q cells slots (pc + 1) L (.ref x :: st) B) : zK p l e R s m args below meth c D A nL Q cells slots pc L st B := fun H locs ls hP hD hS hl => lv_aload_n C.1 C.2.1 hdg hi (lv_at hl j hj) (kk H locs ls hP hD hS hl)
theorem z_aload (C : zX p s m args meth c D tys A own cc nL) {i : Nat} {x : Nat} (hdg : decode cc pc = .ok (.aload i, 2)) (j : Nat) (hj : L[j]? = some (i, .ref x)) (kk : zK p l e R s m args below meth c D A nL Q cells slots (pc + 2) L (.ref x :: st) B) : zK p l e R s m args below meth c D A nL Q cells slots pc L st B := fun H locs ls hP hD hS hl => lv_aload C.1 C.2.1 hdg (lv_at hl j hj) (kk H locs ls hP hD hS hl)
theorem z_astore_n (C : zX p s m args meth c D tys A own cc nL) {k : Fin 4} {i : Nat} {x : Nat} (hdg : decode cc pc = .ok (.astore_n k, 1)) (hi : (k : Nat) = i) (hn : i < nL) (hL : (i, Value.ref x) :: L.filter (fun q => !(q.1 == i) && !(q.1 + 1 == i && q.2.category == 2)) = L') (kk : zK p l e R s m args below meth c D A nL Q cells slots (pc + 1) L' st B) : zK p l e R s m args below meth c D A nL Q cells slots pc L (.ref x :: st) B := fun H locs ls hP hD hS hl => lv_astore_n C.1 C.2.1 hdg hi hl hn hL (fun ls hl => kk H locs ls hP hD hS hl)
theorem z_astore (C : zX p s m args meth c D tys A own cc nL) {i : Nat} {x : Nat} (hdg : decode cc pc = .ok (.astore i, 2)) (hn : i < nL) (hL : (i, Value.ref x) :: L.filter (fun q => !(q.1 == i) && !(q.1 + 1 == i && q.2.category == 2)) = L') (kk : zK p l e R s m args below meth c D A nL Q cells slots (pc + 2) L' st B) : zK p l e R s m args below meth c D A nL Q cells slots pc L (.ref x :: st) B := fun H locs ls hP hD hS hl => lv_astore C.1 C.2.1 hdg hl hn hL (fun ls hl => kk H locs ls hP hD hS hl)
theorem z_dload_n (C : zX p s m args meth c D tys A own cc nL) {k : Fin 4} {i : Nat} {x : UInt64} (hdg : decode cc pc = .ok (.dload_n k, 1)) (hi : (k : Nat) = i) (j : Nat) (hj : L[j]? = some (i, .double x)) (kk : zK p l e R s m args below meth c D A nL Q cells slots (pc + 1) L (.double x :: st) B) : zK p l e R s m args below meth c D A nL Q cells slots pc L st B := fun H locs ls hP hD hS hl => lv_dload_n C.1 C.2.1 hdg hi (lv_at hl j hj) (kk H locs ls hP hD hS hl)
theorem z_dload (C : zX p s m args meth c D tys A own cc nL) {i : Nat} {x : UInt64} (hdg : decode cc pc = .ok (.dload i, 2)) (j : Nat) (hj : L[j]? = some (i, .double x)) (kk : zK p l e R s m args below meth c D A nL Q cells slots (pc + 2) L (.double x :: st) B) : zK p l e R s m args below meth c D A nL Q cells slots pc L st B := fun H locs ls hP hD hS hl => lv_dload C.1 C.2.1 hdg (lv_at hl j hj) (kk H locs ls hP hD hS hl)
theorem z_dstore_n (C : zX p s m args meth c D tys A own cc nL) {k : Fin 4} {i : Nat} {x : UInt64} (hdg : decode cc pc = .ok (.dstore_n k, 1)) (hi : (k : Nat) = i) (hn : i + 1 < nL) (hL : (i, Value.double x) :: L.filter (fun q => !(q.1 == i) && (!(q.1 == i + 1) && !(q.1 + 1 == i && q.2.category == 2))) = L') (kk : zK p l e R s m args below meth c D A nL Q cells slots (pc + 1) L' st B) : zK p l e R s m args below meth c D A nL Q cells slots pc L (.double x :: st) B := fun H locs ls hP hD hS hl => lv_dstore_n C.1 C.2.1 hdg hi hl hn hL (fun ls hl => kk H locs ls hP hD hS hl)
theorem z_dstore (C : zX p s m args meth c D tys A own cc nL) {i : Nat} {x : UInt64} (hdg : decode cc pc = .ok (.dstore i, 2)) (hn : i + 1 < nL) (hL : (i, Value.double x) :: L.filter (fun q => !(q.1 == i) && (!(q.1 == i + 1) && !(q.1 + 1 == i && q.2.category == 2))) = L') (kk : zK p l e R s m args below meth c D A nL Q cells slots (pc + 2) L' st B) : zK p l e R s m args below meth c D A nL Q cells slots pc L (.double x :: st) B := fun H locs ls hP hD hS hl => lv_dstore C.1 C.2.1 hdg hl hn hL (fun ls hl => kk H locs ls hP hD hS hl)
theorem z_iinc (C : zX p s m args meth c D tys A own cc nL) {i : Nat} {n : Int} {x v : Int32} (hdg : decode cc pc = .ok (.iinc i n, 3)) (j : Nat) (hj : L[j]? = some (i, .int x)) (hv : x + Int32.ofInt n = v) (hn : i < nL) (hL : (i, Value.int v) :: L.filter (fun q => !(q.1 == i) && !(q.1 + 1 == i && q.2.category == 2)) = L') (kk : zK p l e R s m args below meth c D A nL Q cells slots (pc + 3) L' st B) : zK p l e R s m args below meth c D A nL Q cells slots pc L st B := fun H locs ls hP hD hS hl => lv_iinc (k := j) C.1 C.2.1 hdg hl hj hv hn hL (fun ls hl => kk H locs ls hP hD hS hl)
theorem z_inc1 (a : Nat) : nI a + Int32.ofInt 1 = nI (a + 1) := (nI_1 a)
theorem z_dec1 {a : Nat} (h : 1 ≤ a) : nI a + Int32.ofInt (-1) = nI (a - 1) := sb_m1 h
theorem z_iadd (C : zX p s m args meth c D tys A own cc nL) {x y : Int32} (hdg : decode cc pc = .ok (.iadd, 1)) (k : zK p l e R s m args below meth c D A nL Q cells slots (pc + 1) L (.int (x + y) :: st) B) : zK p l e R s m args below meth c D A nL Q cells slots pc L (.int y :: .int x :: st) B := fun H locs ls hP hD hS hl => lv_iadd C.1 C.2.1 hdg (k H locs ls hP hD hS hl)
theorem z_isub (C : zX p s m args meth c D tys A own cc nL) {x y : Int32} (hdg : decode cc pc = .ok (.isub, 1)) (k : zK p l e R s m args below meth c D A nL Q cells slots (pc + 1) L (.int (x - y) :: st) B) : zK p l e R s m args below meth c D A nL Q cells slots pc L (.int y :: .int x :: st) B := fun H locs ls hP hD hS hl => lv_isub C.1 C.2.1 hdg (k H locs ls hP hD hS hl)
theorem z_imul (C : zX p s m args meth c D tys A own cc nL) {x y : Int32} (hdg : decode cc pc = .ok (.imul, 1)) (k : zK p l e R s m args below meth c D A nL Q cells slots (pc + 1) L (.int (x * y) :: st) B) : zK p l e R s m args below meth c D A nL Q cells slots pc L (.int y :: .int x :: st) B := fun H locs ls hP hD hS hl => lv_imul C.1 C.2.1 hdg (k H locs ls hP hD hS hl)
theorem z_iand (C : zX p s m args meth c D tys A own cc nL) {x y : Int32} (hdg : decode cc pc = .ok (.iand, 1)) (k : zK p l e R s m args below meth c D A nL Q cells slots (pc + 1) L (.int (x &&& y) :: st) B) : zK p l e R s m args below meth c D A nL Q cells slots pc L (.int y :: .int x :: st) B := fun H locs ls hP hD hS hl => lv_iand C.1 C.2.1 hdg (k H locs ls hP hD hS hl)
theorem z_ladd (C : zX p s m args meth c D tys A own cc nL) {x y : Int64} (hdg : decode cc pc = .ok (.ladd, 1)) (k : zK p l e R s m args below meth c D A nL Q cells slots (pc + 1) L (.long (x + y) :: st) B) : zK p l e R s m args below meth c D A nL Q cells slots pc L (.long y :: .long x :: st) B := fun H locs ls hP hD hS hl => lv_ladd C.1 C.2.1 hdg (k H locs ls hP hD hS hl)
theorem z_lmul (C : zX p s m args meth c D tys A own cc nL) {x y : Int64} (hdg : decode cc pc = .ok (.lmul, 1)) (k : zK p l e R s m args below meth c D A nL Q cells slots (pc + 1) L (.long (x * y) :: st) B) : zK p l e R s m args below meth c D A nL Q cells slots pc L (.long y :: .long x :: st) B := fun H locs ls hP hD hS hl => lv_lmul C.1 C.2.1 hdg (k H locs ls hP hD hS hl)
theorem z_idiv (C : zX p s m args meth c D tys A own cc nL) {x y : Int32} (hne : ¬ y = 0) (hdg : decode cc pc = .ok (.idiv, 1)) (k : zK p l e R s m args below meth c D A nL Q cells slots (pc + 1) L (.int (x / y) :: st) B) : zK p l e R s m args below meth c D A nL Q cells slots pc L (.int y :: .int x :: st) B := fun H locs ls hP hD hS hl => lv_idiv C.1 C.2.1 hdg hne (k H locs ls hP hD hS hl)
theorem z_i2l (C : zX p s m args meth c D tys A own cc nL) {x : Int32} {v : Int64} (hv : x.toInt64 = v) (hdg : decode cc pc = .ok (.i2l, 1)) (k : zK p l e R s m args below meth c D A nL Q cells slots (pc + 1) L (.long v :: st) B) : zK p l e R s m args below meth c D A nL Q cells slots pc L (.int x :: st) B := fun H locs ls hP hD hS hl => lv_i2l C.1 C.2.1 hdg hv (k H locs ls hP hD hS hl)
theorem z_i2d (C : zX p s m args meth c D tys A own cc nL) {x : Int32} (hdg : decode cc pc = .ok (.i2d, 1)) (k : zK p l e R s m args below meth c D A nL Q cells slots (pc + 1) L (.double (FP.i2d x) :: st) B) : zK p l e R s m args below meth c D A nL Q cells slots pc L (.int x :: st) B := fun H locs ls hP hD hS hl => lv_i2d C.1 C.2.1 hdg (k H locs ls hP hD hS hl)
theorem z_ddiv (C : zX p s m args meth c D tys A own cc nL) {x y : UInt64} (hne : vf_n64 (FP.ddiv x y)) (hdg : decode cc pc = .ok (.ddiv, 1)) (k : zK p l e R s m args below meth c D A nL Q cells slots (pc + 1) L (.double (FP.ddiv x y) :: st) B) : zK p l e R s m args below meth c D A nL Q cells slots pc L (.double y :: .double x :: st) B := fun H locs ls hP hD hS hl => lv_ddiv C.1 C.2.1 hdg hne (k H locs ls hP hD hS hl)
theorem z_dcmp (C : zX p s m args meth c D tys A own cc nL) {x y : UInt64} {op : CmpOp} (hdg : decode cc pc = .ok (.dcmp op, 1)) (k : zK p l e R s m args below meth c D A nL Q cells slots (pc + 1) L (.int (Op.cmpValue (FP.dcmp x y) op) :: st) B) : zK p l e R s m args below meth c D A nL Q cells slots pc L (.double y :: .double x :: st) B := fun H locs ls hP hD hS hl => lv_dcmp C.1 C.2.1 hdg (k H locs ls hP hD hS hl)
theorem z_dconst0 (C : zX p s m args meth c D tys A own cc nL)  (hdg : decode cc pc = .ok (.dconst 0, 1)) (k : zK p l e R s m args below meth c D A nL Q cells slots (pc + 1) L (.double FP.dconst0 :: st) B) : zK p l e R s m args below meth c D A nL Q cells slots pc L (st) B := fun H locs ls hP hD hS hl => lv_dconst0 C.1 C.2.1 hdg (k H locs ls hP hD hS hl)
theorem z_lcmp (C : zX p s m args meth c D tys A own cc nL) {x y : Int64} (hdg : decode cc pc = .ok (.lcmp, 1)) (k : zK p l e R s m args below meth c D A nL Q cells slots (pc + 1) L (.int (lg_cmp x y) :: st) B) : zK p l e R s m args below meth c D A nL Q cells slots pc L (.long y :: .long x :: st) B := fun H locs ls hP hD hS hl => W.lcmp C.1 C.2.1 hdg (k H locs ls hP hD hS hl)
theorem z_dup (C : zX p s m args meth c D tys A own cc nL) {va : Value} (hva : va.category = 1) (hdg : decode cc pc = .ok (.dup, 1)) (k : zK p l e R s m args below meth c D A nL Q cells slots (pc + 1) L (va :: va :: st) B) : zK p l e R s m args below meth c D A nL Q cells slots pc L (va :: st) B := fun H locs ls hP hD hS hl => lv_dup C.1 C.2.1 hdg hva (k H locs ls hP hD hS hl)
theorem z_dup2 (C : zX p s m args meth c D tys A own cc nL) {va vb : Value} (hva : va.category = 1) (hvb : vb.category = 1) (hdg : decode cc pc = .ok (.dup2, 1)) (k : zK p l e R s m args below meth c D A nL Q cells slots (pc + 1) L (va :: vb :: va :: vb :: st) B) : zK p l e R s m args below meth c D A nL Q cells slots pc L (va :: vb :: st) B := fun H locs ls hP hD hS hl => lv_dup2_11 C.1 C.2.1 hdg hva hvb (k H locs ls hP hD hS hl)
theorem z_ldc2 (C : zX p s m args meth c D tys A own cc nL) {index : Nat} {v : Int64} (hw : Jvm.Cond.constantLong own index v ∈ lw_all) (hdg : decode cc pc = .ok (.ldc2_w index, 3)) (k : zK p l e R s m args below meth c D A nL Q cells slots (pc + 3) L (.long v :: st) B) : zK p l e R s m args below meth c D A nL Q cells slots pc L st B := fun H locs ls hP hD hS hl => lv_ldc2 C.1 C.2.1 C.2.2.2.1 (C.2.2.2.2.1 _ hw) hdg (k H locs ls hP hD hS hl)
theorem z_goto (C : zX p s m args meth c D tys A own cc nL) {off : Int} {tgt : Nat} (hdg : decode cc pc = .ok (.goto off, 3)) (ht : (pc : Int) + off = (tgt : Int)) (k : zK p l e R s m args below meth c D A nL Q cells slots tgt L st B) : zK p l e R s m args below meth c D A nL Q cells slots pc L st B := fun H locs ls hP hD hS hl => lv_goto C.1 C.2.1 hdg ht (k H locs ls hP hD hS hl)
theorem z_if_eq (C : zX p s m args meth c D tys A own cc nL) {x : Int32} {off : Int} {tgt : Nat} (hdg : decode cc pc = .ok (.ifCond .eq off, 3)) (ht : (pc : Int) + off = (tgt : Int)) (kt : x = 0 → zK p l e R s m args below meth c D A nL Q cells slots tgt L st B) (kf : ¬ x = 0 → zK p l e R s m args below meth c D A nL Q cells slots (pc + 3) L st B) : zK p l e R s m args below meth c D A nL Q cells slots pc L (.int x :: st) B := fun H locs ls hP hD hS hl => lv_if_eq C.1 C.2.1 hdg ht (fun h => kt h H locs ls hP hD hS hl) (fun h => kf h H locs ls hP hD hS hl)
theorem z_icmp_eq (C : zX p s m args meth c D tys A own cc nL) {x y : Int32} {off : Int} {tgt : Nat} (hdg : decode cc pc = .ok (.if_icmp .eq off, 3)) (ht : (pc : Int) + off = (tgt : Int)) (kt : x = y → zK p l e R s m args below meth c D A nL Q cells slots tgt L st B) (kf : ¬ x = y → zK p l e R s m args below meth c D A nL Q cells slots (pc + 3) L st B) : zK p l e R s m args below meth c D A nL Q cells slots pc L (.int y :: .int x :: st) B := fun H locs ls hP hD hS hl => lv_icmp_eq C.1 C.2.1 hdg ht (fun h => kt h H locs ls hP hD hS hl) (fun h => kf h H locs ls hP hD hS hl)
theorem z_icmp_eqN (C : zX p s m args meth c D tys A own cc nL) {a b : Nat} {off : Int} {tgt : Nat} (hdg : decode cc pc = .ok (.if_icmp .eq off, 3)) (ht : (pc : Int) + off = (tgt : Int)) (ha : a < 2 ^ 31) (hb : b < 2 ^ 31) (kt : a = b → zK p l e R s m args below meth c D A nL Q cells slots tgt L st B) (kf : a ≠ b → zK p l e R s m args below meth c D A nL Q cells slots (pc + 3) L st B) : zK p l e R s m args below meth c D A nL Q cells slots pc L (.int (nI b) :: .int (nI a) :: st) B := z_icmp_eq C hdg ht (fun h => kt ((nI_eq ha hb).mp h)) (fun h => kf (fun q => h ((nI_eq ha hb).mpr q)))
theorem z_if_ne (C : zX p s m args meth c D tys A own cc nL) {x : Int32} {off : Int} {tgt : Nat} (hdg : decode cc pc = .ok (.ifCond .ne off, 3)) (ht : (pc : Int) + off = (tgt : Int)) (kt : ¬ x = 0 → zK p l e R s m args below meth c D A nL Q cells slots tgt L st B) (kf : x = 0 → zK p l e R s m args below meth c D A nL Q cells slots (pc + 3) L st B) : zK p l e R s m args below meth c D A nL Q cells slots pc L (.int x :: st) B := fun H locs ls hP hD hS hl => lv_if_ne C.1 C.2.1 hdg ht (fun h => kt h H locs ls hP hD hS hl) (fun h => kf h H locs ls hP hD hS hl)
theorem z_icmp_ne (C : zX p s m args meth c D tys A own cc nL) {x y : Int32} {off : Int} {tgt : Nat} (hdg : decode cc pc = .ok (.if_icmp .ne off, 3)) (ht : (pc : Int) + off = (tgt : Int)) (kt : ¬ x = y → zK p l e R s m args below meth c D A nL Q cells slots tgt L st B) (kf : x = y → zK p l e R s m args below meth c D A nL Q cells slots (pc + 3) L st B) : zK p l e R s m args below meth c D A nL Q cells slots pc L (.int y :: .int x :: st) B := fun H locs ls hP hD hS hl => lv_icmp_ne C.1 C.2.1 hdg ht (fun h => kt h H locs ls hP hD hS hl) (fun h => kf h H locs ls hP hD hS hl)
theorem z_icmp_neN (C : zX p s m args meth c D tys A own cc nL) {a b : Nat} {off : Int} {tgt : Nat} (hdg : decode cc pc = .ok (.if_icmp .ne off, 3)) (ht : (pc : Int) + off = (tgt : Int)) (ha : a < 2 ^ 31) (hb : b < 2 ^ 31) (kt : a ≠ b → zK p l e R s m args below meth c D A nL Q cells slots tgt L st B) (kf : a = b → zK p l e R s m args below meth c D A nL Q cells slots (pc + 3) L st B) : zK p l e R s m args below meth c D A nL Q cells slots pc L (.int (nI b) :: .int (nI a) :: st) B := z_icmp_ne C hdg ht (fun h => kt (fun q => h ((nI_eq ha hb).mpr q))) (fun h => kf ((nI_eq ha hb).mp h))
theorem z_if_lt (C : zX p s m args meth c D tys A own cc nL) {x : Int32} {off : Int} {tgt : Nat} (hdg : decode cc pc = .ok (.ifCond .lt off, 3)) (ht : (pc : Int) + off = (tgt : Int)) (kt : x < 0 → zK p l e R s m args below meth c D A nL Q cells slots tgt L st B) (kf : ¬ x < 0 → zK p l e R s m args below meth c D A nL Q cells slots (pc + 3) L st B) : zK p l e R s m args below meth c D A nL Q cells slots pc L (.int x :: st) B := fun H locs ls hP hD hS hl => lv_if_lt C.1 C.2.1 hdg ht (fun h => kt h H locs ls hP hD hS hl) (fun h => kf h H locs ls hP hD hS hl)
theorem z_icmp_lt (C : zX p s m args meth c D tys A own cc nL) {x y : Int32} {off : Int} {tgt : Nat} (hdg : decode cc pc = .ok (.if_icmp .lt off, 3)) (ht : (pc : Int) + off = (tgt : Int)) (kt : x < y → zK p l e R s m args below meth c D A nL Q cells slots tgt L st B) (kf : ¬ x < y → zK p l e R s m args below meth c D A nL Q cells slots (pc + 3) L st B) : zK p l e R s m args below meth c D A nL Q cells slots pc L (.int y :: .int x :: st) B := fun H locs ls hP hD hS hl => lv_icmp_lt C.1 C.2.1 hdg ht (fun h => kt h H locs ls hP hD hS hl) (fun h => kf h H locs ls hP hD hS hl)
theorem z_icmp_ltN (C : zX p s m args meth c D tys A own cc nL) {a b : Nat} {off : Int} {tgt : Nat} (hdg : decode cc pc = .ok (.if_icmp .lt off, 3)) (ht : (pc : Int) + off = (tgt : Int)) (ha : a < 2 ^ 31) (hb : b < 2 ^ 31) (kt : a < b → zK p l e R s m args below meth c D A nL Q cells slots tgt L st B) (kf : b ≤ a → zK p l e R s m args below meth c D A nL Q cells slots (pc + 3) L st B) : zK p l e R s m args below meth c D A nL Q cells slots pc L (.int (nI b) :: .int (nI a) :: st) B := z_icmp_lt C hdg ht (fun h => kt ((nI_ltI ha hb).mp h)) (fun h => kf (Nat.le_of_not_lt fun q => h ((nI_ltI ha hb).mpr q)))
theorem z_if_ge (C : zX p s m args meth c D tys A own cc nL) {x : Int32} {off : Int} {tgt : Nat} (hdg : decode cc pc = .ok (.ifCond .ge off, 3)) (ht : (pc : Int) + off = (tgt : Int)) (kt : 0 ≤ x → zK p l e R s m args below meth c D A nL Q cells slots tgt L st B) (kf : ¬ 0 ≤ x → zK p l e R s m args below meth c D A nL Q cells slots (pc + 3) L st B) : zK p l e R s m args below meth c D A nL Q cells slots pc L (.int x :: st) B := fun H locs ls hP hD hS hl => lv_if_ge C.1 C.2.1 hdg ht (fun h => kt h H locs ls hP hD hS hl) (fun h => kf h H locs ls hP hD hS hl)
theorem z_icmp_ge (C : zX p s m args meth c D tys A own cc nL) {x y : Int32} {off : Int} {tgt : Nat} (hdg : decode cc pc = .ok (.if_icmp .ge off, 3)) (ht : (pc : Int) + off = (tgt : Int)) (kt : y ≤ x → zK p l e R s m args below meth c D A nL Q cells slots tgt L st B) (kf : ¬ y ≤ x → zK p l e R s m args below meth c D A nL Q cells slots (pc + 3) L st B) : zK p l e R s m args below meth c D A nL Q cells slots pc L (.int y :: .int x :: st) B := fun H locs ls hP hD hS hl => lv_icmp_ge C.1 C.2.1 hdg ht (fun h => kt h H locs ls hP hD hS hl) (fun h => kf h H locs ls hP hD hS hl)
theorem z_icmp_geN (C : zX p s m args meth c D tys A own cc nL) {a b : Nat} {off : Int} {tgt : Nat} (hdg : decode cc pc = .ok (.if_icmp .ge off, 3)) (ht : (pc : Int) + off = (tgt : Int)) (ha : a < 2 ^ 31) (hb : b < 2 ^ 31) (kt : b ≤ a → zK p l e R s m args below meth c D A nL Q cells slots tgt L st B) (kf : a < b → zK p l e R s m args below meth c D A nL Q cells slots (pc + 3) L st B) : zK p l e R s m args below meth c D A nL Q cells slots pc L (.int (nI b) :: .int (nI a) :: st) B := z_icmp_ge C hdg ht (fun h => kt ((nI_leI hb ha).mp h)) (fun h => kf (Nat.lt_of_not_le fun q => h ((nI_leI hb ha).mpr q)))
theorem z_if_gt (C : zX p s m args meth c D tys A own cc nL) {x : Int32} {off : Int} {tgt : Nat} (hdg : decode cc pc = .ok (.ifCond .gt off, 3)) (ht : (pc : Int) + off = (tgt : Int)) (kt : 0 < x → zK p l e R s m args below meth c D A nL Q cells slots tgt L st B) (kf : ¬ 0 < x → zK p l e R s m args below meth c D A nL Q cells slots (pc + 3) L st B) : zK p l e R s m args below meth c D A nL Q cells slots pc L (.int x :: st) B := fun H locs ls hP hD hS hl => lv_if_gt C.1 C.2.1 hdg ht (fun h => kt h H locs ls hP hD hS hl) (fun h => kf h H locs ls hP hD hS hl)
theorem z_icmp_gt (C : zX p s m args meth c D tys A own cc nL) {x y : Int32} {off : Int} {tgt : Nat} (hdg : decode cc pc = .ok (.if_icmp .gt off, 3)) (ht : (pc : Int) + off = (tgt : Int)) (kt : y < x → zK p l e R s m args below meth c D A nL Q cells slots tgt L st B) (kf : ¬ y < x → zK p l e R s m args below meth c D A nL Q cells slots (pc + 3) L st B) : zK p l e R s m args below meth c D A nL Q cells slots pc L (.int y :: .int x :: st) B := fun H locs ls hP hD hS hl => lv_icmp_gt C.1 C.2.1 hdg ht (fun h => kt h H locs ls hP hD hS hl) (fun h => kf h H locs ls hP hD hS hl)
theorem z_icmp_gtN (C : zX p s m args meth c D tys A own cc nL) {a b : Nat} {off : Int} {tgt : Nat} (hdg : decode cc pc = .ok (.if_icmp .gt off, 3)) (ht : (pc : Int) + off = (tgt : Int)) (ha : a < 2 ^ 31) (hb : b < 2 ^ 31) (kt : b < a → zK p l e R s m args below meth c D A nL Q cells slots tgt L st B) (kf : a ≤ b → zK p l e R s m args below meth c D A nL Q cells slots (pc + 3) L st B) : zK p l e R s m args below meth c D A nL Q cells slots pc L (.int (nI b) :: .int (nI a) :: st) B := z_icmp_gt C hdg ht (fun h => kt ((nI_ltI hb ha).mp h)) (fun h => kf (Nat.le_of_not_lt fun q => h ((nI_ltI hb ha).mpr q)))
theorem z_if_le (C : zX p s m args meth c D tys A own cc nL) {x : Int32} {off : Int} {tgt : Nat} (hdg : decode cc pc = .ok (.ifCond .le off, 3)) (ht : (pc : Int) + off = (tgt : Int)) (kt : x ≤ 0 → zK p l e R s m args below meth c D A nL Q cells slots tgt L st B) (kf : ¬ x ≤ 0 → zK p l e R s m args below meth c D A nL Q cells slots (pc + 3) L st B) : zK p l e R s m args below meth c D A nL Q cells slots pc L (.int x :: st) B := fun H locs ls hP hD hS hl => lv_if_le C.1 C.2.1 hdg ht (fun h => kt h H locs ls hP hD hS hl) (fun h => kf h H locs ls hP hD hS hl)
theorem z_icmp_le (C : zX p s m args meth c D tys A own cc nL) {x y : Int32} {off : Int} {tgt : Nat} (hdg : decode cc pc = .ok (.if_icmp .le off, 3)) (ht : (pc : Int) + off = (tgt : Int)) (kt : x ≤ y → zK p l e R s m args below meth c D A nL Q cells slots tgt L st B) (kf : ¬ x ≤ y → zK p l e R s m args below meth c D A nL Q cells slots (pc + 3) L st B) : zK p l e R s m args below meth c D A nL Q cells slots pc L (.int y :: .int x :: st) B := fun H locs ls hP hD hS hl => lv_icmp_le C.1 C.2.1 hdg ht (fun h => kt h H locs ls hP hD hS hl) (fun h => kf h H locs ls hP hD hS hl)
theorem z_icmp_leN (C : zX p s m args meth c D tys A own cc nL) {a b : Nat} {off : Int} {tgt : Nat} (hdg : decode cc pc = .ok (.if_icmp .le off, 3)) (ht : (pc : Int) + off = (tgt : Int)) (ha : a < 2 ^ 31) (hb : b < 2 ^ 31) (kt : a ≤ b → zK p l e R s m args below meth c D A nL Q cells slots tgt L st B) (kf : b < a → zK p l e R s m args below meth c D A nL Q cells slots (pc + 3) L st B) : zK p l e R s m args below meth c D A nL Q cells slots pc L (.int (nI b) :: .int (nI a) :: st) B := z_icmp_le C hdg ht (fun h => kt ((nI_leI ha hb).mp h)) (fun h => kf (Nat.lt_of_not_le fun q => h ((nI_leI ha hb).mpr q)))
def zb (b : Bool) : Int32 := if b = true then nI 1 else nI 0
theorem zb_0 {b : Bool} : zb b = 0 ↔ b = false := by cases b <;> decide
theorem z_b1 {x : Bool} (h : x = true) : some (Value.int (nI 1)) = some (Value.int (zb x)) := by subst h; rfl
theorem z_b0 {x : Bool} (h : x = false) : some (Value.int (nI 0)) = some (Value.int (zb x)) := by subst h; rfl
theorem nI_z {a : Nat} (h : a < 2 ^ 31) : nI a = 0 ↔ a = 0 := (nI_eq h (Nat.lt_of_sub_ne_zero (by decide)) : nI a = nI 0 ↔ a = 0)
theorem z_if_eqN (C : zX p s m args meth c D tys A own cc nL) {a : Nat} {off : Int} {tgt : Nat} (hdg : decode cc pc = .ok (.ifCond .eq off, 3)) (ht : (pc : Int) + off = (tgt : Int)) (ha : a < 2 ^ 31) (kt : a = 0 → zK p l e R s m args below meth c D A nL Q cells slots tgt L st B) (kf : 0 < a → zK p l e R s m args below meth c D A nL Q cells slots (pc + 3) L st B) : zK p l e R s m args below meth c D A nL Q cells slots pc L (.int (nI a) :: st) B := z_if_eq C hdg ht (fun h => kt ((nI_z ha).mp h)) (fun h => kf (Nat.pos_of_ne_zero fun q => h ((nI_z ha).mpr q)))
theorem z_if_neN (C : zX p s m args meth c D tys A own cc nL) {a : Nat} {off : Int} {tgt : Nat} (hdg : decode cc pc = .ok (.ifCond .ne off, 3)) (ht : (pc : Int) + off = (tgt : Int)) (ha : a < 2 ^ 31) (kt : 0 < a → zK p l e R s m args below meth c D A nL Q cells slots tgt L st B) (kf : a = 0 → zK p l e R s m args below meth c D A nL Q cells slots (pc + 3) L st B) : zK p l e R s m args below meth c D A nL Q cells slots pc L (.int (nI a) :: st) B := z_if_ne C hdg ht (fun h => kt (Nat.pos_of_ne_zero fun q => h ((nI_z ha).mpr q))) (fun h => kf ((nI_z ha).mp h))
theorem z_if_leN (C : zX p s m args meth c D tys A own cc nL) {a : Nat} {off : Int} {tgt : Nat} (hdg : decode cc pc = .ok (.ifCond .le off, 3)) (ht : (pc : Int) + off = (tgt : Int)) (ha : a < 2 ^ 31) (kt : a = 0 → zK p l e R s m args below meth c D A nL Q cells slots tgt L st B) (kf : 0 < a → zK p l e R s m args below meth c D A nL Q cells slots (pc + 3) L st B) : zK p l e R s m args below meth c D A nL Q cells slots pc L (.int (nI a) :: st) B := z_if_le C hdg ht (fun h => kt (Nat.eq_zero_of_le_zero ((nI_leI ha (b := 0) (by decide)).mp h))) (fun h => kf (Nat.pos_of_ne_zero fun q => h ((nI_leI ha (b := 0) (by decide)).mpr (Nat.le_of_eq q))))
theorem z_if_gtN (C : zX p s m args meth c D tys A own cc nL) {a : Nat} {off : Int} {tgt : Nat} (hdg : decode cc pc = .ok (.ifCond .gt off, 3)) (ht : (pc : Int) + off = (tgt : Int)) (ha : a < 2 ^ 31) (kt : 0 < a → zK p l e R s m args below meth c D A nL Q cells slots tgt L st B) (kf : a = 0 → zK p l e R s m args below meth c D A nL Q cells slots (pc + 3) L st B) : zK p l e R s m args below meth c D A nL Q cells slots pc L (.int (nI a) :: st) B := z_if_gt C hdg ht (fun h => kt ((nI_ltI (a := 0) (by decide) ha).mp h)) (fun h => kf (Nat.eq_zero_of_not_pos fun q => h ((nI_ltI (a := 0) (by decide) ha).mpr q)))
theorem z_if_ltN (C : zX p s m args meth c D tys A own cc nL) {a : Nat} {off : Int} (hdg : decode cc pc = .ok (.ifCond .lt off, 3)) {tgt : Nat} (ht : (pc : Int) + off = (tgt : Int)) (ha : a < 2 ^ 31) (kf : zK p l e R s m args below meth c D A nL Q cells slots (pc + 3) L st B) : zK p l e R s m args below meth c D A nL Q cells slots pc L (.int (nI a) :: st) B := z_if_lt C hdg ht (fun h => absurd h (nI_pos ha)) (fun _ => kf)
theorem z_if_geN (C : zX p s m args meth c D tys A own cc nL) {a : Nat} {off : Int} {tgt : Nat} (hdg : decode cc pc = .ok (.ifCond .ge off, 3)) (ht : (pc : Int) + off = (tgt : Int)) (ha : a < 2 ^ 31) (kt : zK p l e R s m args below meth c D A nL Q cells slots tgt L st B) : zK p l e R s m args below meth c D A nL Q cells slots pc L (.int (nI a) :: st) B := z_if_ge C hdg ht (fun _ => kt) (fun h => absurd (nI_pos' ha) h)
theorem z_if_eqB (C : zX p s m args meth c D tys A own cc nL) {b : Bool} {off : Int} {tgt : Nat} (hdg : decode cc pc = .ok (.ifCond .eq off, 3)) (ht : (pc : Int) + off = (tgt : Int)) (kt : b = false → zK p l e R s m args below meth c D A nL Q cells slots tgt L st B) (kf : b = true → zK p l e R s m args below meth c D A nL Q cells slots (pc + 3) L st B) : zK p l e R s m args below meth c D A nL Q cells slots pc L (.int (zb b) :: st) B := z_if_eq C hdg ht (fun h => kt (zb_0.mp h)) (fun h => kf (by cases b with | true => rfl | false => exact absurd (zb_0.mpr rfl) h))
theorem z_if_neB (C : zX p s m args meth c D tys A own cc nL) {b : Bool} {off : Int} {tgt : Nat} (hdg : decode cc pc = .ok (.ifCond .ne off, 3)) (ht : (pc : Int) + off = (tgt : Int)) (kt : b = true → zK p l e R s m args below meth c D A nL Q cells slots tgt L st B) (kf : b = false → zK p l e R s m args below meth c D A nL Q cells slots (pc + 3) L st B) : zK p l e R s m args below meth c D A nL Q cells slots pc L (.int (zb b) :: st) B := z_if_ne C hdg ht (fun h => kt (by cases b with | true => rfl | false => exact absurd (zb_0.mpr rfl) h)) (fun h => kf (zb_0.mp h))
theorem z_iaddN (C : zX p s m args meth c D tys A own cc nL) {a b : Nat} (hdg : decode cc pc = .ok (.iadd, 1)) (k : zK p l e R s m args below meth c D A nL Q cells slots (pc + 1) L (.int (nI (a + b)) :: st) B) : zK p l e R s m args below meth c D A nL Q cells slots pc L (.int (nI b) :: .int (nI a) :: st) B := z_iadd C hdg (z_top (nI_add a b) k)
theorem z_imulN (C : zX p s m args meth c D tys A own cc nL) {a b : Nat} (hdg : decode cc pc = .ok (.imul, 1)) (k : zK p l e R s m args below meth c D A nL Q cells slots (pc + 1) L (.int (nI (a * b)) :: st) B) : zK p l e R s m args below meth c D A nL Q cells slots pc L (.int (nI b) :: .int (nI a) :: st) B := z_imul C hdg (z_top (pk_mul a b) k)
theorem z_isubN (C : zX p s m args meth c D tys A own cc nL) {a b : Nat} (hdg : decode cc pc = .ok (.isub, 1)) (h : b ≤ a) (k : zK p l e R s m args below meth c D A nL Q cells slots (pc + 1) L (.int (nI (a - b)) :: st) B) : zK p l e R s m args below meth c D A nL Q cells slots pc L (.int (nI b) :: .int (nI a) :: st) B := z_isub C hdg (z_top (pk_sub h) k)
theorem z_idivN (C : zX p s m args meth c D tys A own cc nL) {a b : Nat} (hdg : decode cc pc = .ok (.idiv, 1)) (ha : a < 2 ^ 31) (h0 : 0 < b) (hb : b < 2 ^ 31) (k : zK p l e R s m args below meth c D A nL Q cells slots (pc + 1) L (.int (nI (a / b)) :: st) B) : zK p l e R s m args below meth c D A nL Q cells slots pc L (.int (nI b) :: .int (nI a) :: st) B := z_idiv C (nI_ne0 h0 hb) hdg (z_top (pk_div ha h0 hb) k)
theorem z_iald (C : zX p s m args meth c D tys A own cc nL) (b : Nat) {sh : List (Nat × zS)} {σ : zF} (hb : B[b]? = some (sh, σ)) (q t : Nat) {a n i : Nat} {cA : ClassId} (hq : sh[q]? = some (a, .inl (cA, n))) (ht : tys[t]? = some (cA, .int)) (hdg : decode cc pc = .ok (.iaload, 1)) (hi : i < n) (hn : n < 2 ^ 31) (k : zK p l e R s m args below meth c D A nL Q cells slots (pc + 1) L (.int (σ q i) :: st) B) : zK p l e R s m args below meth c D A nL Q cells slots pc L (.int (nI i) :: .ref a :: st) B := fun H locs ls hP hD hS hl => by
  obtain ⟨q0, h1, -⟩ := zW_at B b hb hq
  refine va_iald (D := D) C.1 C.2.1 C.2.2.2.2.2.1 hP q0 t h1 ht (vp_in_nI hi hn) hdg ?_
  rw [nI_clamp (Nat.lt_trans hi hn)]
  exact k H locs ls hP hD hS hl
theorem z_zald (C : zX p s m args meth c D tys A own cc nL) (b : Nat) {sh : List (Nat × zS)} {σ : zF} (hb : B[b]? = some (sh, σ)) (q t : Nat) {a n i : Nat} {cA : ClassId} (hq : sh[q]? = some (a, .inl (cA, n))) (ht : tys[t]? = some (cA, .boolean)) (hdg : decode cc pc = .ok (.baload, 1)) (hi : i < n) (hn : n < 2 ^ 31) (k : zK p l e R s m args below meth c D A nL Q cells slots (pc + 1) L (.int (σ q i) :: st) B) : zK p l e R s m args below meth c D A nL Q cells slots pc L (.int (nI i) :: .ref a :: st) B := fun H locs ls hP hD hS hl => by
  obtain ⟨q0, h1, -⟩ := zW_at B b hb hq
  refine va_zald (D := D) C.1 C.2.1 C.2.2.2.2.2.1 hP q0 t h1 ht (vp_in_nI hi hn) hdg ?_
  rw [nI_clamp (Nat.lt_trans hi hn)]
  exact k H locs ls hP hD hS hl
theorem z_iast (C : zX p s m args meth c D tys A own cc nL) (b : Nat) {sh : List (Nat × zS)} {σ : zF} (hb : B[b]? = some (sh, σ)) (q t : Nat) {a n i : Nat} {x : Int32} {cA : ClassId} (hq : sh[q]? = some (a, .inl (cA, n))) (ht : tys[t]? = some (cA, .int)) (hdg : decode cc pc = .ok (.iastore, 1)) (hi : i < n) (hn : n < 2 ^ 31) (hB : B.set b (sh, zU σ q i x) = B') (k : zK p l e R s m args below meth c D A nL Q cells slots (pc + 1) L st B') : zK p l e R s m args below meth c D A nL Q cells slots pc L (.int x :: .int (nI i) :: .ref a :: st) B := fun H locs ls hP hD hS hl => by
  obtain ⟨q0, h1, h2, -⟩ := zW_at B b hb hq
  have h3 := h2 (zU σ q i x) (.inl (cA, n, .inl (upd (σ q) i x))) (by rw [zU_eq]; rfl) (fun k' hk' => zU_ne hk')
  refine va_iast (D := D) C.1 C.2.1 C.2.2.2.2.2.1 hP hD hS q0 t h1 ht (vp_in_nI hi hn) hdg (fun H1 locs1 hP1 hD1 hS1 => ?_)
  rw [nI_clamp (Nat.lt_trans hi hn), h3, hB] at hP1 hD1
  exact k H1 locs1 ls hP1 hD1 hS1 hl
theorem z_zast (C : zX p s m args meth c D tys A own cc nL) (b : Nat) {sh : List (Nat × zS)} {σ : zF} (hb : B[b]? = some (sh, σ)) (q t : Nat) {a n i : Nat} {x : Int32} {cA : ClassId} (hq : sh[q]? = some (a, .inl (cA, n))) (ht : tys[t]? = some (cA, .boolean)) (hdg : decode cc pc = .ok (.bastore, 1)) (hi : i < n) (hn : n < 2 ^ 31) (hx : vp_nar .boolean x = x) (hB : B.set b (sh, zU σ q i x) = B') (k : zK p l e R s m args below meth c D A nL Q cells slots (pc + 1) L st B') : zK p l e R s m args below meth c D A nL Q cells slots pc L (.int x :: .int (nI i) :: .ref a :: st) B := fun H locs ls hP hD hS hl => by
  obtain ⟨q0, h1, h2, -⟩ := zW_at B b hb hq
  have h3 := h2 (zU σ q i x) (.inl (cA, n, .inl (upd (σ q) i x))) (by rw [zU_eq]; rfl) (fun k' hk' => zU_ne hk')
  refine va_zast (D := D) C.1 C.2.1 C.2.2.2.2.2.1 hP hD hS q0 t h1 ht (vp_in_nI hi hn) hdg (fun H1 locs1 hP1 hD1 hS1 => ?_)
  rw [nI_clamp (Nat.lt_trans hi hn), hx, h3, hB] at hP1 hD1
  exact k H1 locs1 ls hP1 hD1 hS1 hl
theorem z_lald (C : zX p s m args meth c D tys A own cc nL) (b : Nat) {sh : List (Nat × zS)} {σ : zF} (hb : B[b]? = some (sh, σ)) (q t : Nat) {a n i : Nat} {g : Nat → Int64} {cA : ClassId} (hq : sh[q]? = some (a, .inr (.inr (.inl (cA, n, .inr (.inl g)))))) (ht : tys[t]? = some (cA, .long)) (hdg : decode cc pc = .ok (.laload, 1)) (hi : i < n) (hn : n < 2 ^ 31) (k : zK p l e R s m args below meth c D A nL Q cells slots (pc + 1) L (.long (g i) :: st) B) : zK p l e R s m args below meth c D A nL Q cells slots pc L (.int (nI i) :: .ref a :: st) B := fun H locs ls hP hD hS hl => by
  obtain ⟨q0, h1, -⟩ := zW_at B b hb hq
  refine va_lald (D := D) C.1 C.2.1 C.2.2.2.2.2.1 hP q0 t h1 ht (vp_in_nI hi hn) hdg ?_
  rw [nI_clamp (Nat.lt_trans hi hn)]
  exact k H locs ls hP hD hS hl
theorem z_last (C : zX p s m args meth c D tys A own cc nL) (b : Nat) {sh : List (Nat × zS)} {σ : zF} (hb : B[b]? = some (sh, σ)) (q t : Nat) {a n i : Nat} {x : Int64} {g : Nat → Int64} {cA : ClassId} (hq : sh[q]? = some (a, .inr (.inr (.inl (cA, n, .inr (.inl g)))))) (ht : tys[t]? = some (cA, .long)) (hdg : decode cc pc = .ok (.lastore, 1)) (hi : i < n) (hn : n < 2 ^ 31) (hB : B.set b (sh.set q (a, .inr (.inr (.inl (cA, n, .inr (.inl (vp_updL g i x)))))), σ) = B') (k : zK p l e R s m args below meth c D A nL Q cells slots (pc + 1) L st B') : zK p l e R s m args below meth c D A nL Q cells slots pc L (.long x :: .int (nI i) :: .ref a :: st) B := fun H locs ls hP hD hS hl => by
  obtain ⟨q0, h1, -, h3⟩ := zW_at B b hb hq
  refine va_last (D := D) C.1 C.2.1 C.2.2.2.2.2.1 hP hD hS q0 t h1 ht (vp_in_nI hi hn) hdg (fun H1 locs1 hP1 hD1 hS1 => ?_)
  rw [nI_clamp (Nat.lt_trans hi hn), h3, hB] at hP1 hD1
  exact k H1 locs1 ls hP1 hD1 hS1 hl
theorem z_getI (C : zX p s m args meth c D tys A own cc nL) {Cn : String} {T : u_T} {N ci index : Nat} (hin : ∀ w ∈ u_ws Cn T N, w ∈ lw_all) (b : Nat) {sh : List (Nat × zS)} {σ : zF} (hb : B[b]? = some (sh, σ)) (q : Nat) {a : Nat} {fs : List (Option Nat)} (hq : sh[q]? = some (a, .inr (.inl (ci, fs)))) (hc : vwCl[ci]? = some (Cn, T, N)) (j : Nat) (hj : j < N) (hf : fs[j]? = some none) (hlink : Cond.fieldLink own index (T j).1 (T j).2.1 (T j).2.2.1 ∈ lw_all) (hdg : decode cc pc = .ok (.getfield index, 3)) (k : zK p l e R s m args below meth c D A nL Q cells slots (pc + 3) L (.int (σ q j) :: st) B) : zK p l e R s m args below meth c D A nL Q cells slots pc L (.ref a :: st) B := fun H locs ls hP hD hS hl => by
  obtain ⟨q0, h1, -⟩ := zW_at B b hb hq
  refine va_get (D := D) C.1 C.2.1 C.2.2.2.2.1 hin C.2.2.2.1 C.2.2.2.2.2.1 hP q0 (fs := zO 0 fs (σ q)) h1 hc j hj (C.2.2.2.2.1 _ hlink) (fun _ h9 => h9) (v := .int (σ q j)) (by rw [zO_get, hf]; simp [zV]) hdg ?_
  exact k H locs ls hP hD hS hl
theorem z_getIN (C : zX p s m args meth c D tys A own cc nL) {Cn : String} {T : u_T} {N ci index : Nat} {host : String} (hin : ∀ w ∈ u_ws Cn T N, w ∈ lw_all) (b : Nat) {sh : List (Nat × zS)} {σ : zF} (hb : B[b]? = some (sh, σ)) (q : Nat) {a : Nat} {fs : List (Option Nat)} (hq : sh[q]? = some (a, .inr (.inl (ci, fs)))) (hc : vwCl[ci]? = some (Cn, T, N)) (j : Nat) (hj : j < N) (hf : fs[j]? = some none) (hlink : Cond.fieldLinkNest own index (T j).1 (T j).2.1 (T j).2.2.1 host ∈ lw_env) (hdg : decode cc pc = .ok (.getfield index, 3)) (k : zK p l e R s m args below meth c D A nL Q cells slots (pc + 3) L (.int (σ q j) :: st) B) : zK p l e R s m args below meth c D A nL Q cells slots pc L (.ref a :: st) B := fun H locs ls hP hD hS hl => by
  obtain ⟨q0, h1, -⟩ := zW_at B b hb hq
  refine va_getN (D := D) C.1 C.2.1 C.2.2.2.2.1 hin C.2.2.2.1 C.2.2.2.2.2.1 hP q0 (fs := zO 0 fs (σ q)) h1 hc j hj ((C.2.2.2.2.2.2.2.2.1 _ hlink).use rfl) (fun _ h9 => h9) (v := .int (σ q j)) (by rw [zO_get, hf]; simp [zV]) hdg ?_
  exact k H locs ls hP hD hS hl
theorem z_getR (C : zX p s m args meth c D tys A own cc nL) {Cn : String} {T : u_T} {N ci index : Nat} (hin : ∀ w ∈ u_ws Cn T N, w ∈ lw_all) (b : Nat) {sh : List (Nat × zS)} {σ : zF} (hb : B[b]? = some (sh, σ)) (q : Nat) {a : Nat} {fs : List (Option Nat)} (hq : sh[q]? = some (a, .inr (.inl (ci, fs)))) (hc : vwCl[ci]? = some (Cn, T, N)) (j : Nat) (hj : j < N) {r : Nat} (hf : fs[j]? = some (some r)) (hlink : Cond.fieldLink own index (T j).1 (T j).2.1 (T j).2.2.1 ∈ lw_all) (hdg : decode cc pc = .ok (.getfield index, 3)) (k : zK p l e R s m args below meth c D A nL Q cells slots (pc + 3) L (.ref r :: st) B) : zK p l e R s m args below meth c D A nL Q cells slots pc L (.ref a :: st) B := fun H locs ls hP hD hS hl => by
  obtain ⟨q0, h1, -⟩ := zW_at B b hb hq
  refine va_get (D := D) C.1 C.2.1 C.2.2.2.2.1 hin C.2.2.2.1 C.2.2.2.2.2.1 hP q0 (fs := zO 0 fs (σ q)) h1 hc j hj (C.2.2.2.2.1 _ hlink) (fun _ h9 => h9) (v := .ref r) (by rw [zO_get, hf]; simp [zV]) hdg ?_
  exact k H locs ls hP hD hS hl
theorem z_getRN (C : zX p s m args meth c D tys A own cc nL) {Cn : String} {T : u_T} {N ci index : Nat} {host : String} (hin : ∀ w ∈ u_ws Cn T N, w ∈ lw_all) (b : Nat) {sh : List (Nat × zS)} {σ : zF} (hb : B[b]? = some (sh, σ)) (q : Nat) {a : Nat} {fs : List (Option Nat)} (hq : sh[q]? = some (a, .inr (.inl (ci, fs)))) (hc : vwCl[ci]? = some (Cn, T, N)) (j : Nat) (hj : j < N) {r : Nat} (hf : fs[j]? = some (some r)) (hlink : Cond.fieldLinkNest own index (T j).1 (T j).2.1 (T j).2.2.1 host ∈ lw_env) (hdg : decode cc pc = .ok (.getfield index, 3)) (k : zK p l e R s m args below meth c D A nL Q cells slots (pc + 3) L (.ref r :: st) B) : zK p l e R s m args below meth c D A nL Q cells slots pc L (.ref a :: st) B := fun H locs ls hP hD hS hl => by
  obtain ⟨q0, h1, -⟩ := zW_at B b hb hq
  refine va_getN (D := D) C.1 C.2.1 C.2.2.2.2.1 hin C.2.2.2.1 C.2.2.2.2.2.1 hP q0 (fs := zO 0 fs (σ q)) h1 hc j hj ((C.2.2.2.2.2.2.2.2.1 _ hlink).use rfl) (fun _ h9 => h9) (v := .ref r) (by rw [zO_get, hf]; simp [zV]) hdg ?_
  exact k H locs ls hP hD hS hl
theorem z_putI (C : zX p s m args meth c D tys A own cc nL) {Cn : String} {T : u_T} {N ci index : Nat} (hin : ∀ w ∈ u_ws Cn T N, w ∈ lw_all) {ty0 : Nat → FieldType} (hty : ∀ k, k < N → parseFieldDescriptor (T k).2.2.1 = some (ty0 k)) (hnm : ∀ a, a < N → ∀ b, b < N → a ≠ b → (T a).2.1 ≠ (T b).2.1) (b : Nat) {sh : List (Nat × zS)} {σ : zF} (hb : B[b]? = some (sh, σ)) (q : Nat) {a : Nat} {fs : List (Option Nat)} (hq : sh[q]? = some (a, .inr (.inl (ci, fs)))) (hc : vwCl[ci]? = some (Cn, T, N)) (j : Nat) (hj : j < N) {x : Int32} (hf : fs[j]? = some none) (hlink : Cond.fieldLink own index (T j).1 (T j).2.1 (T j).2.2.1 ∈ lw_all) (hfin : (T j).2.2.2 = false) (hd : parseFieldDescriptor (T j).2.2.1 = some .int) (hdg : decode cc pc = .ok (.putfield index, 3)) (hB : B.set b (sh, zU σ q j x) = B') (k : zK p l e R s m args below meth c D A nL Q cells slots (pc + 3) L st B') : zK p l e R s m args below meth c D A nL Q cells slots pc L (.int x :: .ref a :: st) B := fun H locs ls hP hD hS hl => by
  obtain ⟨q0, h1, h2, -⟩ := zW_at B b hb hq
  have h3 := h2 (zU σ q j x) (.inr (ci, (zO 0 fs (σ q)).set j (.int x))) (by rw [zU_eq, zO_set fs 0 (σ q) x hf, Nat.zero_add]; rfl) (fun k' hk' => zU_ne hk')
  refine va_put (D := D) C.1 C.2.1 C.2.2.2.2.1 hin ty0 hty hnm C.2.2.2.1 C.2.2.2.2.2.1 hP hD hS q0 (fs := zO 0 fs (σ q)) h1 hc j hj (C.2.2.2.2.1 _ hlink) (fun _ h9 => h9) hfin (ty := .int) (v := .int x) hd rfl rfl (zO_len fs 0 (σ q) hf) hdg (fun H1 locs1 hP1 hD1 hS1 => ?_)
  rw [h3, hB] at hP1 hD1
  exact k H1 locs1 ls hP1 hD1 hS1 hl
theorem z_putIN (C : zX p s m args meth c D tys A own cc nL) {Cn : String} {T : u_T} {N ci index : Nat} {host : String} (hin : ∀ w ∈ u_ws Cn T N, w ∈ lw_all) {ty0 : Nat → FieldType} (hty : ∀ k, k < N → parseFieldDescriptor (T k).2.2.1 = some (ty0 k)) (hnm : ∀ a, a < N → ∀ b, b < N → a ≠ b → (T a).2.1 ≠ (T b).2.1) (b : Nat) {sh : List (Nat × zS)} {σ : zF} (hb : B[b]? = some (sh, σ)) (q : Nat) {a : Nat} {fs : List (Option Nat)} (hq : sh[q]? = some (a, .inr (.inl (ci, fs)))) (hc : vwCl[ci]? = some (Cn, T, N)) (j : Nat) (hj : j < N) {x : Int32} (hf : fs[j]? = some none) (hlink : Cond.fieldLinkNest own index (T j).1 (T j).2.1 (T j).2.2.1 host ∈ lw_env) (hfin : (T j).2.2.2 = false) (hd : parseFieldDescriptor (T j).2.2.1 = some .int) (hdg : decode cc pc = .ok (.putfield index, 3)) (hB : B.set b (sh, zU σ q j x) = B') (k : zK p l e R s m args below meth c D A nL Q cells slots (pc + 3) L st B') : zK p l e R s m args below meth c D A nL Q cells slots pc L (.int x :: .ref a :: st) B := fun H locs ls hP hD hS hl => by
  obtain ⟨q0, h1, h2, -⟩ := zW_at B b hb hq
  have h3 := h2 (zU σ q j x) (.inr (ci, (zO 0 fs (σ q)).set j (.int x))) (by rw [zU_eq, zO_set fs 0 (σ q) x hf, Nat.zero_add]; rfl) (fun k' hk' => zU_ne hk')
  refine va_putN (D := D) C.1 C.2.1 C.2.2.2.2.1 hin ty0 hty hnm C.2.2.2.1 C.2.2.2.2.2.1 hP hD hS q0 (fs := zO 0 fs (σ q)) h1 hc j hj ((C.2.2.2.2.2.2.2.2.1 _ hlink).use rfl) (fun _ h9 => h9) hfin (ty := .int) (v := .int x) hd rfl rfl (zO_len fs 0 (σ q) hf) hdg (fun H1 locs1 hP1 hD1 hS1 => ?_)
  rw [h3, hB] at hP1 hD1
  exact k H1 locs1 ls hP1 hD1 hS1 hl
theorem z_iret (C : zX p s m args meth c D tys A own cc nL) {post : Option Value → List zB → Prop} {v : Int32} (hr : meth.sig.returnType = some .int) (hdg : decode cc pc = .ok (.ireturn, 1)) (hp : post (some (.int v)) B) : zK p l e R s m args below meth c D A nL (MQ below (zQ post D tys A) args s cells slots A) cells slots pc L [.int v] B := fun H locs ls hP hD hS hl => W.iret C.1 C.2.1 hr (fun t ht hW => ⟨⟨_, B, rfl, hp, by rw [ht]; exact hP, va_K.moved hW.alike C.2.2.2.2.2.1, hD⟩, hS.F ht⟩) hS.2.2 hdg C.2.2.2.2.2.2.2.1
theorem z_zret (C : zX p s m args meth c D tys A own cc nL) {post : Option Value → List zB → Prop} {v : Int32} (hr : meth.sig.returnType = some .boolean) (hv : narrow .boolean (.int v) = .int v) (hdg : decode cc pc = .ok (.ireturn, 1)) (hp : post (some (.int v)) B) : zK p l e R s m args below meth c D A nL (MQ below (zQ post D tys A) args s cells slots A) cells slots pc L [.int v] B := fun H locs ls hP hD hS hl => W.zret C.1 C.2.1 hr hv (fun t ht hW => ⟨⟨_, B, rfl, hp, by rw [ht]; exact hP, va_K.moved hW.alike C.2.2.2.2.2.1, hD⟩, hS.F ht⟩) hS.2.2 hdg C.2.2.2.2.2.2.2.1
theorem z_lret (C : zX p s m args meth c D tys A own cc nL) {post : Option Value → List zB → Prop} {v : Int64} (hr : meth.sig.returnType = some .long) (hdg : decode cc pc = .ok (.lreturn, 1)) (hp : post (some (.long v)) B) : zK p l e R s m args below meth c D A nL (MQ below (zQ post D tys A) args s cells slots A) cells slots pc L [.long v] B := fun H locs ls hP hD hS hl => W.lret C.1 C.2.1 hr (fun t ht hW => ⟨⟨_, B, rfl, hp, by rw [ht]; exact hP, va_K.moved hW.alike C.2.2.2.2.2.1, hD⟩, hS.F ht⟩) hS.2.2 hdg C.2.2.2.2.2.2.2.1
theorem z_dret (C : zX p s m args meth c D tys A own cc nL) {post : Option Value → List zB → Prop} {v : UInt64} (hr : meth.sig.returnType = some .double) (hdg : decode cc pc = .ok (.dreturn, 1)) (hp : post (some (.double v)) B) : zK p l e R s m args below meth c D A nL (MQ below (zQ post D tys A) args s cells slots A) cells slots pc L [.double v] B := fun H locs ls hP hD hS hl => W.dret C.1 C.2.1 hr (fun t ht hW => ⟨⟨_, B, rfl, hp, by rw [ht]; exact hP, va_K.moved hW.alike C.2.2.2.2.2.1, hD⟩, hS.F ht⟩) hS.2.2 hdg C.2.2.2.2.2.2.2.1
theorem z_vret (C : zX p s m args meth c D tys A own cc nL) {post : Option Value → List zB → Prop} (hr : meth.sig.returnType = none) (hdg : decode cc pc = .ok (.return_, 1)) (hp : post none B) : zK p l e R s m args below meth c D A nL (MQ below (zQ post D tys A) args s cells slots A) cells slots pc L [] B := fun H locs ls hP hD hS hl => W.vret C.1 C.2.1 hr (fun t ht hW => ⟨⟨_, B, rfl, hp, by rw [ht]; exact hP, va_K.moved hW.alike C.2.2.2.2.2.1, hD⟩, hS.F ht⟩) hS.2.2 hdg C.2.2.2.2.2.2.2.1
theorem z_back {mc ms : Nat} {post : Option Value → List zB → Prop} {a : Array Value} {H : Heap} {locs : List Loc} {ls : Array Slot} {st0 : List Value} (K : va_K D vwCl tys s) (hAq : ∀ q : Nat, s.heap.size ≤ q → A q) (msk : List Bool) (hP : va_P D vwCl (zW B) H) (hD : va_D A (zW B)) (hS : va_S A s.heap H locs) (hl : lv_has ls nL L)
    (hr : va_Run p l e R s m args below meth c H locs cells slots mc ms (F0 m pc ls st0) rest (zQ post D tys (va_A (zW (zPick msk B)) H.size) a) (va_A (zW (zPick msk B)) H.size))
    (kk : ∀ (r : Option Value) (u : List zB), post r u → zK p l e R s m args below meth c D A nL Q (cells + mc) (slots + ms) (pc + 3) L (r.toList ++ rest) (zPut msk B u)) : W p l e R s m args below meth c H locs cells slots Q (F0 m pc ls st0) := by
  obtain ⟨-, -, hF⟩ := z_pick msk hP hD hS hAq
  intro T hT X
  obtain ⟨v, st₀, t, T', Lc, h0, X', hLc, e1, e2, ⟨⟨r, u, hv, hp, hb, -, hDu⟩, hz, hk⟩, stp⟩ := hr T hT X
  cases hv
  rw [h0] at hz hk
  rw [← e1] at hb hz hk
  obtain ⟨hP2, hD2⟩ := z_join msk hP hD hk hF hb hDu
  obtain ⟨t2, a1, b1⟩ := kk v u hp T'.heap (locs ++ Lc) ls hP2 hD2 ⟨Nat.le_trans hS.1 hz, fun q h1 h2 => by
      rw [hk q (Nat.lt_of_lt_of_le h1 hS.1) (fun z => h2 (hF q z))]
      exact hS.2.1 q h1 h2, fun q hq => by
      rcases List.mem_append.mp hq with h | h
      · exact hS.2.2 q h
      · exact hF _ (hLc q h)⟩ hl T' rfl X'
  exact ⟨t2, stp t2 a1, b1⟩
theorem z_callV (C : zX p s m args meth c D tys A own cc nL) {y : MethodName} {bytes : ByteArray} {maxL mc ms n index : Nat} {ret : Option FieldType} {rm : Room} {post : Option Value → List zB → Prop} {As : List Value} {Bc : List zB} {b : Nat} (msk : List Bool) (hBc : zPick msk B = Bc) (hM : zM l D tys y bytes maxL ret rm (.ref b :: As) Bc mc ms post) (hcal : zCal y bytes maxL ret n) (hlink : Cond.methodLink own index y ∈ lw_all) (hinst : Cond.instanceMethod y ∈ lw_all ∧ Cond.selects y.cls y y ∈ lw_all) (hR : rm.cells = mc ∧ rm.slots = ms ∧ rm.frames + 1 ≤ R.frames ∧ 8 + (maxL + 11) + rm.locals ≤ R.locals)
    (bi : Nat) {sh : List (Nat × zS)} {σ : zF} (hbi : B[bi]? = some (sh, σ)) (q : Nat) {fs : List (Option Nat)} {ci : Nat} {T : u_T} {N : Nat} (hq : sh[q]? = some (b, .inr (.inl (ci, fs)))) (hc : vwCl[ci]? = some (y.cls, T, N))
    (hst : st = As.reverse ++ .ref b :: rest) (hn : As.length = n) (hcat : (rest.map fun v => v.category).sum ≤ 8) (hdg : decode cc pc = .ok (.invokevirtual index, 3)) (hf : cells + mc ≤ R.cells ∧ slots + ms ≤ R.slots)
    (kk : ∀ (r : Option Value) (u : List zB), post r u → zK p l e R s m args below meth c D A nL Q (cells + mc) (slots + ms) (pc + 3) L (r.toList ++ rest) (zPut msk B u)) : zK p l e R s m args below meth c D A nL Q cells slots pc L st B := fun H locs ls hP hD hS hl => by
  subst hBc
  subst hst
  obtain ⟨hPc, hDc, hF⟩ := z_pick msk hP hD hS C.2.2.2.2.2.2.1
  obtain ⟨q0, h1, -⟩ := zW_at B bi hbi hq
  exact z_back (a := (Value.ref b :: As).toArray) C.2.2.2.2.2.1 C.2.2.2.2.2.2.1 msk hP hD hS hl (va_runV (As := As) (rest := rest) ⟨C.1, C.2.1, C.2.2.1, C.2.2.2.1, C.2.2.2.2.1⟩ (hM H.size) (cwV n C.2.2.2.2.1 (zg_V hlink hinst.1 hinst.2 hcal.2.1 hcal.ws) rfl hR.1 hR.2.1 ⟨rfl, hcal.2.2⟩ hR.2.2) ⟨zPre_blind, va_recv C.2.2.2.2.2.1 hP hc h1, fun U hU hW => ⟨rfl, by rw [hU], by rw [hU]; exact hPc, va_K.moved hW.alike C.2.2.2.2.2.1, hDc, by rw [hU]; exact C.2.2.2.2.2.2.2.2.go hW hS.2.1 hF⟩⟩ rfl hn hl.1 rfl (lv_room hcat) hdg hf) kk
theorem z_callS (C : zX p s m args meth c D tys A own cc nL) {y : MethodName} {bytes : ByteArray} {maxL mc ms n index : Nat} {ret : Option FieldType} {rm : Room} {post : Option Value → List zB → Prop} {As : List Value} {Bc : List zB}  (msk : List Bool) (hBc : zPick msk B = Bc) (hM : zM l D tys y bytes maxL ret rm As Bc mc ms post) (hcal : zCal y bytes maxL ret n) (hlink : Cond.methodLink own index y ∈ lw_all) (hstat : Cond.static y ∈ lw_all) (hR : rm.cells = mc ∧ rm.slots = ms ∧ rm.frames + 1 ≤ R.frames ∧ 8 + (maxL + 11) + rm.locals ≤ R.locals)
    (hst : st = As.reverse ++ rest) (hn : As.length = n) (hcat : (rest.map fun v => v.category).sum ≤ 8) (hdg : decode cc pc = .ok (.invokestatic index, 3)) (hf : cells + mc ≤ R.cells ∧ slots + ms ≤ R.slots)
    (kk : ∀ (r : Option Value) (u : List zB), post r u → zK p l e R s m args below meth c D A nL Q (cells + mc) (slots + ms) (pc + 3) L (r.toList ++ rest) (zPut msk B u)) : zK p l e R s m args below meth c D A nL Q cells slots pc L st B := fun H locs ls hP hD hS hl => by
  subst hBc
  subst hst
  obtain ⟨hPc, hDc, hF⟩ := z_pick msk hP hD hS C.2.2.2.2.2.2.1
  exact z_back (a := As.toArray) C.2.2.2.2.2.1 C.2.2.2.2.2.2.1 msk hP hD hS hl (va_runS (As := As) (rest := rest) ⟨C.1, C.2.1, C.2.2.1, C.2.2.2.1, C.2.2.2.2.1⟩ (hM H.size) (va_cwS n C.2.2.2.2.1 (zg_S hlink hstat hcal.2.1 hcal.ws) rfl hR.1 hR.2.1 hcal.2.2 hR.2.2) ⟨zPre_blind, fun U hU hW => ⟨rfl, by rw [hU], by rw [hU]; exact hPc, va_K.moved hW.alike C.2.2.2.2.2.1, hDc, by rw [hU]; exact C.2.2.2.2.2.2.2.2.go hW hS.2.1 hF⟩⟩ rfl hn hl.1 rfl (lv_room hcat) hdg hf) kk
theorem z_callI (C : zX p s m args meth c D tys A own cc nL) {y : MethodName} {bytes : ByteArray} {maxL mc ms n index : Nat} {ret : Option FieldType} {rm : Room} {post : Option Value → List zB → Prop} {As : List Value} {Bc : List zB} {b : Nat} (msk : List Bool) (hBc : zPick msk B = Bc) (hM : zM l D tys y bytes maxL none rm (.ref b :: As) Bc mc ms post) (hcal : zCal y bytes maxL none n) (hlink : Cond.methodLink own index y ∈ lw_all) (hinst : y.name = "<init>" ∧ Cond.instanceMethod y ∈ lw_all) (hR : rm.cells = mc ∧ rm.slots = ms ∧ rm.frames + 1 ≤ R.frames ∧ 8 + (maxL + 11) + rm.locals ≤ R.locals)
    (hst : st = As.reverse ++ .ref b :: rest) (hn : As.length = n) (hcat : (rest.map fun v => v.category).sum ≤ 8) (hdg : decode cc pc = .ok (.invokespecial index, 3)) (hf : cells + mc ≤ R.cells ∧ slots + ms ≤ R.slots)
    (kk : ∀ (r : Option Value) (u : List zB), post r u → zK p l e R s m args below meth c D A nL Q (cells + mc) (slots + ms) (pc + 3) L (r.toList ++ rest) (zPut msk B u)) : zK p l e R s m args below meth c D A nL Q cells slots pc L st B := fun H locs ls hP hD hS hl => by
  subst hBc
  subst hst
  obtain ⟨hPc, hDc, hF⟩ := z_pick msk hP hD hS C.2.2.2.2.2.2.1
  exact z_back (a := (Value.ref b :: As).toArray) C.2.2.2.2.2.1 C.2.2.2.2.2.2.1 msk hP hD hS hl (va_runI (As := As) (rest := rest) ⟨C.1, C.2.1, C.2.2.1, C.2.2.2.1, C.2.2.2.2.1⟩ (hM H.size) (cwI n C.2.2.2.2.1 (lw_goodIn hcal.ws) rfl hR.1 hR.2.1 (C.2.2.2.2.1 _ hcal.2.1) (C.2.2.2.2.1 _ hlink) (C.2.2.2.2.1 _ hinst.2) hinst.1 hcal.2.2 hR.2.2) ⟨zPre_blind, fun U hU hW => ⟨rfl, by rw [hU], by rw [hU]; exact hPc, va_K.moved hW.alike C.2.2.2.2.2.1, hDc, by rw [hU]; exact C.2.2.2.2.2.2.2.2.go hW hS.2.1 hF⟩⟩ rfl hn hl.1 rfl (lv_room hcat) hdg hf) kk
theorem z_mmin (C : zX p s m args meth c D tys A own cc nL) {index : Nat} {x y : Int32} (h1 : Cond.methodLink own index Lib.Math.min.name ∈ lw_all) (h2 : Cond.static Lib.Math.min.name ∈ lw_all) (h3 : Cond.initialized "java/lang/Math" ∈ lw_all) (h4 : Cond.code Lib.Math.min.name Lib.Math.min.code 2 (some .int) ∈ lw_all) (hR : 1 ≤ R.frames ∧ (st.map fun v => v.category).sum + 13 ≤ R.locals ∧ cells ≤ R.cells ∧ slots ≤ R.slots) (hdg : decode cc pc = .ok (.invokestatic index, 3)) (k : zK p l e R s m args below meth c D A nL Q cells slots (pc + 3) L (.int (if y < x then y else x) :: st) B) : zK p l e R s m args below meth c D A nL Q cells slots pc L (.int y :: .int x :: st) B := fun H locs ls hP hD hS hl => va_mmin C.1 C.2.1 (C.2.2.1.trans hl.1.symm) C.2.2.2.1 (C.2.2.2.2.1 _ h1) (C.2.2.2.2.1 _ h2) (C.2.2.2.2.1 _ h3) (C.2.2.2.2.1 _ h4) hR.1 hR.2.1 hR.2.2.1 hR.2.2.2 hdg (k H locs ls hP hD hS hl)
theorem z_mmax (C : zX p s m args meth c D tys A own cc nL) {index : Nat} {x y : Int32} (h1 : Cond.methodLink own index Lib.Math.max.name ∈ lw_all) (h2 : Cond.static Lib.Math.max.name ∈ lw_all) (h3 : Cond.initialized "java/lang/Math" ∈ lw_all) (h4 : Cond.code Lib.Math.max.name Lib.Math.max.code 2 (some .int) ∈ lw_all) (hR : 1 ≤ R.frames ∧ (st.map fun v => v.category).sum + 13 ≤ R.locals ∧ cells ≤ R.cells ∧ slots ≤ R.slots) (hdg : decode cc pc = .ok (.invokestatic index, 3)) (k : zK p l e R s m args below meth c D A nL Q cells slots (pc + 3) L (.int (if x < y then y else x) :: st) B) : zK p l e R s m args below meth c D A nL Q cells slots pc L (.int y :: .int x :: st) B := fun H locs ls hP hD hS hl => va_mmax C.1 C.2.1 (C.2.2.1.trans hl.1.symm) C.2.2.2.1 (C.2.2.2.2.1 _ h1) (C.2.2.2.2.1 _ h2) (C.2.2.2.2.1 _ h3) (C.2.2.2.2.1 _ h4) hR.1 hR.2.1 hR.2.2.1 hR.2.2.2 hdg (k H locs ls hP hD hS hl)
end ZROWS
