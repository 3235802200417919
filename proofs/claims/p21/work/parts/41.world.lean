/-! The fleet by hand, as it lies in the heap: its object, the array of its boats, the boats, their logs, the entries; all as the contents σ of a fleet say. -/
def en2 (x y : Int32) : Nat → Int32 := upd (upd (fun _ => 0) 0 x) 1 y
def smV (g : Nat → Nat) (σ : zF) (i : Nat) : List Value := [.int (σ 1 i), .int (σ 2 i), .int (σ 3 i), .int (σ 4 i), .int (σ 5 i), .int (σ 6 i), .int (σ 7 i), .int (σ 9 i), .ref (g i)]
def smO (a : Nat → Nat) (σ : zF) : List Value := [.int (σ 0 1), .int (σ 0 2), .int (σ 0 3), .int (σ 0 4), .ref (a 1)]
def smB (a g : Nat → Nat) (σ : zF) (n : Nat) : List (Nat × zS) := (List.range n).map (fun i => (a (2 + i), .inr (.inr (.inr (3, smV g σ i)))))
def smS (cB : ClassId) (a : Nat → Nat) (n : Nat) (g : Nat → Nat) (σ : zF) : List (Nat × zS) := (a 0, .inr (.inr (.inr (4, smO a σ)))) :: (a 1, zQr cB n (fun i => some (a (2 + i)))) :: smB a g σ n
def smG (cE : ClassId) (n : Nat) (g : Nat → Nat) (σ : zF) (en : Nat → Nat → Nat) : List (Nat × zS) := (List.range n).map (fun i => (g i, zQr cE (fl_ln σ i) (fun k => some (en i k))))
def smP (cI : ClassId) (ps : List (Nat × Int32 × Int32)) : List (Nat × zS) := ps.map (fun q => (q.1, zQi cI 2 (en2 q.2.1 q.2.2)))
/-- each entry of each log is one of the entries that there are -/
def smK (n : Nat) (σ : zF) (en : Nat → Nat → Nat) (ps : List (Nat × Int32 × Int32)) : Prop := ∀ i, i < n → ∀ k, k < fl_ln σ i → (en i k, σ 10 (i * 10 + k), σ 11 (i * 10 + k)) ∈ ps
def smC (j : Nat) : Nat := match j with
  | 0 => 1
  | 1 => 2
  | 2 => 3
  | 3 => 4
  | 4 => 5
  | 5 => 6
  | 6 => 7
  | _ => 9
theorem map_range_set {β : Type} {f f' : Nat → β} {i : Nat} {y : β} (n : Nat) (hi : f' i = y) (ho : ∀ j, j < n → j ≠ i → f' j = f j) : ((List.range n).map f).set i y = (List.range n).map f' := by
  apply List.ext_getElem?
  intro k
  by_cases hk : k < n
  · by_cases e : k = i
    · subst e
      rw [List.getElem?_set_self (by simpa using hk), List.getElem?_map, List.getElem?_range hk]
      exact congrArg some hi.symm
    · rw [List.getElem?_set_ne (Ne.symm e), List.getElem?_map, List.getElem?_map, List.getElem?_range hk]
      exact congrArg some (ho k hk e).symm
  · rw [List.getElem?_eq_none (by simp; omega), List.getElem?_eq_none (by simp; omega)]
theorem smS_b {cB : ClassId} {a g : Nat → Nat} {σ : zF} {n i : Nat} (hi : i < n) : (smS cB a n g σ)[2 + i]? = some (a (2 + i), .inr (.inr (.inr (3, smV g σ i)))) := by
  rw [Nat.add_comm 2 i]
  show (smB a g σ n)[i]? = _
  unfold smB
  rw [List.getElem?_map, List.getElem?_range hi, Nat.add_comm i 2]
  rfl
theorem smG_i {cE : ClassId} {g : Nat → Nat} {σ : zF} {en : Nat → Nat → Nat} {n i : Nat} (hi : i < n) : (smG cE n g σ en)[i]? = some (g i, zQr cE (fl_ln σ i) (fun k => some (en i k))) := by
  unfold smG
  rw [List.getElem?_map, List.getElem?_range hi]
  rfl
theorem smP_mem {cI : ClassId} {ps : List (Nat × Int32 × Int32)} {e : Nat} {x y : Int32} (h : (e, x, y) ∈ ps) : ∃ j : Nat, (smP cI ps)[j]? = some (e, zQi cI 2 (en2 x y)) := by
  obtain ⟨j, hj⟩ := List.getElem?_of_mem h
  refine ⟨j, ?_⟩
  unfold smP
  rw [List.getElem?_map, hj]
  rfl
theorem smS_set {cB : ClassId} {a g g' : Nat → Nat} {σ σ' : zF} {n i : Nat} {vs : List Value} (hO : smO a σ' = smO a σ) (hi : smV g' σ' i = vs) (ho : ∀ j, j < n → j ≠ i → smV g' σ' j = smV g σ j) : (smS cB a n g σ).set (2 + i) (a (2 + i), .inr (.inr (.inr (3, vs)))) = smS cB a n g' σ' := by
  rw [Nat.add_comm 2 i]
  show _ :: _ :: (smB a g σ n).set i _ = _
  unfold smS
  rw [hO]
  congr 1
  congr 1
  unfold smB
  refine map_range_set n ?_ (fun j hj hji => ?_)
  · rw [hi, Nat.add_comm i 2]
  · rw [ho j hj hji]
theorem smV_U (g : Nat → Nat) (σ : zF) (i : Nat) (x : Int32) (j : Nat) (hj : j < 8) : smV g (zU σ (smC j) i x) i = (smV g σ i).set j (.int x) := by
  rcases (show j = 0 ∨ j = 1 ∨ j = 2 ∨ j = 3 ∨ j = 4 ∨ j = 5 ∨ j = 6 ∨ j = 7 by omega) with rfl | rfl | rfl | rfl | rfl | rfl | rfl | rfl <;> simp [smV, smC, zU_at]
theorem smV_Uo (g : Nat → Nat) (σ : zF) {i i' : Nat} (x : Int32) (c : Nat) (h : i' ≠ i) : smV g (zU σ c i x) i' = smV g σ i' := by
  simp [smV, zU_at, h]
theorem smO_U (a : Nat → Nat) (σ : zF) (i : Nat) (x : Int32) (c : Nat) (h : c ≠ 0) : smO a (zU σ c i x) = smO a σ := by
  have h2 : (0 : Nat) ≠ c := fun z => h z.symm
  simp [smO, zU_at, h2]
theorem smC_ne (j : Nat) : smC j ≠ 0 := by
  unfold smC
  split <;> decide
theorem smS_U {cB : ClassId} {a g : Nat → Nat} {σ : zF} {n : Nat} (i : Nat) (x : Int32) (j : Nat) (hj : j < 8) : (smS cB a n g σ).set (2 + i) (a (2 + i), .inr (.inr (.inr (3, (smV g σ i).set j (.int x))))) = smS cB a n g (zU σ (smC j) i x) :=
  smS_set (smO_U a σ i x _ (smC_ne j)) (smV_U g σ i x j hj) (fun _ _ h => smV_Uo g σ x _ h)
theorem smS_Ug {cB : ClassId} {a g : Nat → Nat} {σ : zF} {n : Nat} (i r : Nat) : (smS cB a n g σ).set (2 + i) (a (2 + i), .inr (.inr (.inr (3, (smV g σ i).set 8 (.ref r))))) = smS cB a n (va_up g i r) σ :=
  smS_set rfl (by simp [smV, va_up]) (fun j _ h => by simp [smV, va_up, h])
theorem smS_UO {cB : ClassId} {a g : Nat → Nat} {σ : zF} {n : Nat} (x : Int32) (j : Nat) (hj : j < 4) : (smS cB a n g σ).set 0 (a 0, .inr (.inr (.inr (4, (smO a σ).set j (.int x))))) = smS cB a n g (zU σ 0 (j + 1) x) := by
  have hB : smB a g (zU σ 0 (j + 1) x) n = smB a g σ n := by
    unfold smB
    apply List.map_congr_left
    intro i _
    simp [smV, zU_at]
  unfold smS
  rw [hB]
  show (_ :: _ :: _) = _
  congr 1
  rcases (show j = 0 ∨ j = 1 ∨ j = 2 ∨ j = 3 by omega) with rfl | rfl | rfl | rfl <;> simp [smO, zU_at]
/-- the boats' own cells don't tell what the logs have -/
theorem smS_cells {cB : ClassId} {a g : Nat → Nat} {σ τ : zF} {n : Nat} (h0 : ∀ j, 1 ≤ j → j ≤ 4 → σ 0 j = τ 0 j) (hk : ∀ k, 1 ≤ k → k ≤ 9 → k ≠ 8 → ∀ i, i < n → σ k i = τ k i) : smS cB a n g σ = smS cB a n g τ := by
  have hB : smB a g σ n = smB a g τ n := by
    unfold smB
    apply List.map_congr_left
    intro i hi
    have hi := List.mem_range.mp hi
    unfold smV
    rw [hk 1 (by omega) (by omega) (by omega) i hi, hk 2 (by omega) (by omega) (by omega) i hi, hk 3 (by omega) (by omega) (by omega) i hi, hk 4 (by omega) (by omega) (by omega) i hi, hk 5 (by omega) (by omega) (by omega) i hi, hk 6 (by omega) (by omega) (by omega) i hi, hk 7 (by omega) (by omega) (by omega) i hi, hk 9 (by omega) (by omega) (by omega) i hi]
  unfold smS
  rw [hB]
  unfold smO
  rw [h0 1 (by omega) (by omega), h0 2 (by omega) (by omega), h0 3 (by omega) (by omega), h0 4 (by omega) (by omega)]
theorem smG_cells {cE : ClassId} {g : Nat → Nat} {σ τ : zF} {en : Nat → Nat → Nat} {n : Nat} (h : ∀ i, i < n → fl_ln σ i = fl_ln τ i) : smG cE n g σ en = smG cE n g τ en := by
  unfold smG
  apply List.map_congr_left
  intro i hi
  rw [h i (List.mem_range.mp hi)]
theorem smK_cells {n : Nat} {σ τ : zF} {en : Nat → Nat → Nat} {ps : List (Nat × Int32 × Int32)} (h : smK n σ en ps) (h8 : σ 8 = τ 8) (h10 : σ 10 = τ 10) (h11 : σ 11 = τ 11) : smK n τ en ps := fun i hi k hk => by
  unfold fl_ln at hk
  rw [← h8] at hk
  rw [← h10, ← h11]
  exact h i hi k hk
theorem smK_more {n : Nat} {σ : zF} {en : Nat → Nat → Nat} {ps : List (Nat × Int32 × Int32)} (h : smK n σ en ps) (q : List (Nat × Int32 × Int32)) : smK n σ en (ps ++ q) := fun i hi k hk => List.mem_append_left _ (h i hi k hk)
theorem perm_set {β : Type} : ∀ (l : List β) (i : Nat) {x : β} (y : β), l[i]? = some x → (l ++ [y]).Perm (l.set i y ++ [x])
  | [], i, x, y, h => by simp at h
  | z :: l, 0, x, y, h => by
    have hz : z = x := by simpa using h
    subst hz
    show (z :: (l ++ [y])).Perm (y :: (l ++ [z]))
    exact ((List.Perm.cons z List.perm_append_comm).trans (List.Perm.swap y z l)).trans (List.Perm.cons y List.perm_append_comm)
  | z :: l, i + 1, x, y, h => List.Perm.cons z (perm_set l i y (by simpa using h))
theorem zW1_raw : ∀ (sh : List (Nat × va_E)) (k : Nat) (σ : zF), zW1 k (sh.map (fun p => (p.1, (.inr (.inr p.2) : zS)))) σ = sh
  | [], _, _ => rfl
  | p :: sh, k, σ => congrArg (fun l => p :: l) (zW1_raw sh (k + 1) σ)
theorem smG_w (cE : ClassId) (n : Nat) (g : Nat → Nat) (σ : zF) (en : Nat → Nat → Nat) (τ : zF) : zW1 0 (smG cE n g σ en) τ = (List.range n).map (fun i => (g i, .inl (cE, fl_ln σ i, .inr (.inr (.inr (.inr (fun k => some (en i k)))))))) := by
  have e : smG cE n g σ en = ((List.range n).map (fun i => (g i, (.inl (cE, fl_ln σ i, .inr (.inr (.inr (.inr (fun k => some (en i k))))) ) : va_E)))).map (fun p => (p.1, (.inr (.inr p.2) : zS))) := by
    rw [List.map_map]
    rfl
  rw [e, zW1_raw]
theorem smP_w (cI : ClassId) (ps : List (Nat × Int32 × Int32)) (τ : zF) : zW1 0 (smP cI ps) τ = ps.map (fun q => (q.1, .inl (cI, 2, .inl (en2 q.2.1 q.2.2)))) := by
  have e : smP cI ps = (ps.map (fun q => (q.1, (.inl (cI, 2, .inl (en2 q.2.1 q.2.2)) : va_E)))).map (fun p => (p.1, (.inr (.inr p.2) : zS))) := by
    rw [List.map_map]
    rfl
  rw [e, zW1_raw]
/-- a boat's log is another array now: the old one is left -/
theorem smG_re {cE : ClassId} {n i q m : Nat} {g : Nat → Nat} {σ σ' τ : zF} {en : Nat → Nat → Nat} {f : Nat → Nat} (hi : i < n) (hm : fl_ln σ' i = m) (ho : ∀ j, j < n → j ≠ i → fl_ln σ' j = fl_ln σ j) (B1 B2 : List zB) : ∃ X : va_W, (zW (B1 ++ ((smG cE n g σ en, zZ) :: B2) ++ [([(q, zQr cE m (fun k => some (f k)))], τ)])).Perm (zW (B1 ++ ((smG cE n (va_up g i q) σ' (va_up en i f), zZ) :: B2)) ++ X) := by
  refine ⟨[(g i, .inl (cE, fl_ln σ i, .inr (.inr (.inr (.inr (fun k => some (en i k)))))))], ?_⟩
  rw [zW_app, zW_app, zW_app]
  show ((zW B1 ++ (zW1 0 (smG cE n g σ en) zZ ++ zW B2)) ++ ([(q, .inl (cE, m, .inr (.inr (.inr (.inr (fun k => some (f k)))))))] : va_W)).Perm ((zW B1 ++ (zW1 0 (smG cE n (va_up g i q) σ' (va_up en i f)) zZ ++ zW B2)) ++ _)
  rw [smG_w, smG_w]
  have key := perm_set ((List.range n).map (fun i => ((g i, .inl (cE, fl_ln σ i, .inr (.inr (.inr (.inr (fun k => some (en i k))))))) : Nat × va_E))) i (x := (g i, .inl (cE, fl_ln σ i, .inr (.inr (.inr (.inr (fun k => some (en i k)))))))) (q, .inl (cE, m, .inr (.inr (.inr (.inr (fun k => some (f k))))))) (by rw [List.getElem?_map, List.getElem?_range hi]; rfl)
  rw [map_range_set (f' := fun j => ((va_up g i q j, .inl (cE, fl_ln σ' j, .inr (.inr (.inr (.inr (fun k => some (va_up en i f j k))))))) : Nat × va_E)) n (by simp [va_up, hm]) (fun j hj hji => by simp [va_up, hji, ho j hj hji])] at key
  rw [List.append_assoc, List.append_assoc, List.append_assoc, List.append_assoc]
  refine List.Perm.append_left _ ?_
  refine ((List.Perm.append_left _ List.perm_append_comm).trans ?_).trans (List.Perm.append_left _ List.perm_append_comm)
  rw [← List.append_assoc, ← List.append_assoc]
  exact List.Perm.append_right _ key
section ZSIM
variable {p : Program} {l : Launch} {e : Env} {R : Room} {s : State} {m : MethodId} {args : Array Value} {below : List Frame} {meth : Method} {c : Code} {D : va_G} {cI cZ cB cE : ClassId} {A : Nat → Prop} {own : String} {cc : ByteArray} {nL : Nat} {Q : State → Prop} {cells slots pc : Nat} {L L' : List (Nat × Value)} {st st' rest : List Value} {B B' : List zB} {n : Nat} {a g : Nat → Nat} {σ : zF} {en : Nat → Nat → Nat} {ps : List (Nat × Int32 × Int32)}
theorem z_bget (C : zX p s m args meth c D (tyL cI cZ cB cE) A own cc nL) (b : Nat) (hb : B[b]? = some (smS cB a n g σ, zZ)) {i index : Nat} (hi : i < n) (j : Nat) (hj : j < 9) {v : Value} (hv : (smV g σ i)[j]? = some v) (hlink : Cond.fieldLink own index (TX3 j).1 (TX3 j).2.1 (TX3 j).2.2.1 ∈ lw_all) (hdg : decode cc pc = .ok (.getfield index, 3)) (k : zK p l e R s m args below meth c D A nL Q cells slots (pc + 3) L (v :: st) B) : zK p l e R s m args below meth c D A nL Q cells slots pc L (.ref (a (2 + i)) :: st) B := z_getV C wu_X3 b hb (2 + i) (smS_b hi) rfl j hj hv hlink hdg k
theorem z_bput (C : zX p s m args meth c D (tyL cI cZ cB cE) A own cc nL) (b : Nat) (hb : B[b]? = some (smS cB a n g σ, zZ)) {i index : Nat} (hi : i < n) (j cl : Nat) (hj : j < 8) (hcl : smC j = cl) (hty : tyX3 j = .int) (hlink : Cond.fieldLink own index (TX3 j).1 (TX3 j).2.1 (TX3 j).2.2.1 ∈ lw_all) (hfin : (TX3 j).2.2.2 = false) {x : Int32} (hdg : decode cc pc = .ok (.putfield index, 3)) (hB : B.set b (smS cB a n g (zU σ cl i x), zZ) = B') (k : zK p l e R s m args below meth c D A nL Q cells slots (pc + 3) L st B') : zK p l e R s m args below meth c D A nL Q cells slots pc L (.int x :: .ref (a (2 + i)) :: st) B := by
  subst hcl
  exact z_putV C wu_X3 tyX3_ok nmX3 b hb (2 + i) (smS_b hi) rfl j (by omega) hlink hfin (ty := .int) (v := .int x) (by rw [tyX3_ok j (by omega), hty]) rfl rfl (by show j < 9; omega) hdg (by rw [smS_U i x j hj]; exact hB) k
theorem z_bputZ (C : zX p s m args meth c D (tyL cI cZ cB cE) A own cc nL) (b : Nat) (hb : B[b]? = some (smS cB a n g σ, zZ)) {i index : Nat} (hi : i < n) (hlink : Cond.fieldLink own index (TX3 6).1 (TX3 6).2.1 (TX3 6).2.2.1 ∈ lw_all) {x : Int32} (hx : x = nI 0 ∨ x = nI 1) (hdg : decode cc pc = .ok (.putfield index, 3)) (hB : B.set b (smS cB a n g (zU σ 7 i x), zZ) = B') (k : zK p l e R s m args below meth c D A nL Q cells slots (pc + 3) L st B') : zK p l e R s m args below meth c D A nL Q cells slots pc L (.int x :: .ref (a (2 + i)) :: st) B :=
  z_putV C wu_X3 tyX3_ok nmX3 b hb (2 + i) (smS_b hi) rfl 6 (by omega) hlink rfl (ty := .boolean) (v := .int x) (tyX3_ok 6 (by omega)) (by rcases hx with rfl | rfl <;> first | exact nar_0 | exact nar_1) (by rcases hx with rfl | rfl <;> decide) (by show 6 < 9; omega) hdg (by rw [smS_U i x 6 (by omega)]; exact hB) k
theorem z_bputG (C : zX p s m args meth c D (tyL cI cZ cB cE) A own cc nL) (b : Nat) (hb : B[b]? = some (smS cB a n g σ, zZ)) {i index : Nat} (hi : i < n) (hlink : Cond.fieldLink own index (TX3 8).1 (TX3 8).2.1 (TX3 8).2.2.1 ∈ lw_all) {r : Nat} (hdg : decode cc pc = .ok (.putfield index, 3)) (hB : B.set b (smS cB a n (va_up g i r) σ, zZ) = B') (k : zK p l e R s m args below meth c D A nL Q cells slots (pc + 3) L st B') : zK p l e R s m args below meth c D A nL Q cells slots pc L (.ref r :: .ref (a (2 + i)) :: st) B :=
  z_putV C wu_X3 tyX3_ok nmX3 b hb (2 + i) (smS_b hi) rfl 8 (by omega) hlink rfl (ty := .array (.array .int)) (v := .ref r) (tyX3_ok 8 (by omega)) rfl rfl (by show 8 < 9; omega) hdg (by rw [smS_Ug i r]; exact hB) k
theorem z_sget (C : zX p s m args meth c D (tyL cI cZ cB cE) A own cc nL) (b : Nat) (hb : B[b]? = some (smS cB a n g σ, zZ)) {index : Nat} (j : Nat) (hj : j < 5) {v : Value} (hv : (smO a σ)[j]? = some v) (hlink : Cond.fieldLink own index (TX4 j).1 (TX4 j).2.1 (TX4 j).2.2.1 ∈ lw_all) (hdg : decode cc pc = .ok (.getfield index, 3)) (k : zK p l e R s m args below meth c D A nL Q cells slots (pc + 3) L (v :: st) B) : zK p l e R s m args below meth c D A nL Q cells slots pc L (.ref (a 0) :: st) B := z_getV C wu_X4 b hb 0 rfl rfl j hj hv hlink hdg k
theorem z_sput (C : zX p s m args meth c D (tyL cI cZ cB cE) A own cc nL) (b : Nat) (hb : B[b]? = some (smS cB a n g σ, zZ)) {index : Nat} (j : Nat) (hj : j < 4) (hty : tyX4 j = .int) (hlink : Cond.fieldLink own index (TX4 j).1 (TX4 j).2.1 (TX4 j).2.2.1 ∈ lw_all) (hfin : (TX4 j).2.2.2 = false) {x : Int32} (hdg : decode cc pc = .ok (.putfield index, 3)) (hB : B.set b (smS cB a n g (zU σ 0 (j + 1) x), zZ) = B') (k : zK p l e R s m args below meth c D A nL Q cells slots (pc + 3) L st B') : zK p l e R s m args below meth c D A nL Q cells slots pc L (.int x :: .ref (a 0) :: st) B :=
  z_putV C wu_X4 tyX4_ok nmX4 b hb 0 rfl rfl j (by omega) hlink hfin (ty := .int) (v := .int x) (by rw [tyX4_ok j (by omega), hty]) rfl rfl (by show j < 5; omega) hdg (by rw [smS_UO x j hj]; exact hB) k
theorem z_aB (C : zX p s m args meth c D (tyL cI cZ cB cE) A own cc nL) (b : Nat) (hb : B[b]? = some (smS cB a n g σ, zZ)) {i : Nat} (hi : i < n) (hn : n < 2 ^ 31) (hdg : decode cc pc = .ok (.aaload, 1)) (k : zK p l e R s m args below meth c D A nL Q cells slots (pc + 1) L (.ref (a (2 + i)) :: st) B) : zK p l e R s m args below meth c D A nL Q cells slots pc L (.int (nI i) :: .ref (a 1) :: st) B := z_aldO C b hb 1 2 rfl rfl hdg hi hn rfl k
theorem z_alenB (C : zX p s m args meth c D (tyL cI cZ cB cE) A own cc nL) (b : Nat) (hb : B[b]? = some (smS cB a n g σ, zZ)) (hdg : decode cc pc = .ok (.arraylength, 1)) (k : zK p l e R s m args below meth c D A nL Q cells slots (pc + 1) L (.int (nI n) :: st) B) : zK p l e R s m args below meth c D A nL Q cells slots pc L (.ref (a 1) :: st) B := z_alenQ C b hb 1 rfl 2 rfl hdg k
theorem z_alenG (C : zX p s m args meth c D (tyL cI cZ cB cE) A own cc nL) (b : Nat) (hb : B[b]? = some (smG cE n g σ en, zZ)) {i : Nat} (hi : i < n) (hdg : decode cc pc = .ok (.arraylength, 1)) (k : zK p l e R s m args below meth c D A nL Q cells slots (pc + 1) L (.int (nI (fl_ln σ i)) :: st) B) : zK p l e R s m args below meth c D A nL Q cells slots pc L (.ref (g i) :: st) B := z_alenQ C b hb i (smG_i hi) 3 rfl hdg k
theorem z_aG (C : zX p s m args meth c D (tyL cI cZ cB cE) A own cc nL) (b : Nat) (hb : B[b]? = some (smG cE n g σ en, zZ)) {i j : Nat} (hi : i < n) (hj : j < fl_ln σ i) (hl : fl_ln σ i < 2 ^ 31) (hdg : decode cc pc = .ok (.aaload, 1)) (k : zK p l e R s m args below meth c D A nL Q cells slots (pc + 1) L (.ref (en i j) :: st) B) : zK p l e R s m args below meth c D A nL Q cells slots pc L (.int (nI j) :: .ref (g i) :: st) B := z_aldA C b hb i 3 (smG_i hi) rfl hdg hj hl rfl k
theorem z_iP0 (C : zX p s m args meth c D (tyL cI cZ cB cE) A own cc nL) (b : Nat) (hb : B[b]? = some (smP cI ps, zZ)) {r : Nat} {x y : Int32} (hm : (r, x, y) ∈ ps) (hdg : decode cc pc = .ok (.iaload, 1)) (k : zK p l e R s m args below meth c D A nL Q cells slots (pc + 1) L (.int x :: st) B) : zK p l e R s m args below meth c D A nL Q cells slots pc L (.int (nI 0) :: .ref r :: st) B := by
  obtain ⟨j, hj⟩ := smP_mem (cI := cI) hm
  refine z_ialR C b hb j 0 hj rfl hdg (by decide) (by decide) ?_
  exact k
theorem z_iP1 (C : zX p s m args meth c D (tyL cI cZ cB cE) A own cc nL) (b : Nat) (hb : B[b]? = some (smP cI ps, zZ)) {r : Nat} {x y : Int32} (hm : (r, x, y) ∈ ps) (hdg : decode cc pc = .ok (.iaload, 1)) (k : zK p l e R s m args below meth c D A nL Q cells slots (pc + 1) L (.int y :: st) B) : zK p l e R s m args below meth c D A nL Q cells slots pc L (.int (nI 1) :: .ref r :: st) B := by
  obtain ⟨j, hj⟩ := smP_mem (cI := cI) hm
  refine z_ialR C b hb j 0 hj rfl hdg (by decide) (by decide) ?_
  exact k
end ZSIM
