/-! rows of arrays of references, of objects as they are, and of worlds that get smaller -/
abbrev zQr (cA : ClassId) (n : Nat) (f : Nat → Option Nat) : zS := .inr (.inr (.inl (cA, n, .inr (.inr (.inr (.inr f))))))
abbrev zQi (cA : ClassId) (n : Nat) (f : Nat → Int32) : zS := .inr (.inr (.inl (cA, n, .inl f)))
section ZREFS
variable {p : Program} {l : Launch} {e : Env} {R : Room} {s : State} {m : MethodId} {args : Array Value} {below : List Frame} {meth : Method} {c : Code} {D : va_G} {tys : List (ClassId × FieldType)} {A : Nat → Prop} {own : String} {cc : ByteArray} {nL : Nat} {Q : State → Prop} {cells slots pc : Nat} {L L' : List (Nat × Value)} {st st' rest : List Value} {B B' : List zB}
theorem z_drop {X : va_W} (h : (zW B).Perm (zW B' ++ X)) (k : zK p l e R s m args below meth c D A nL Q cells slots pc L st B') : zK p l e R s m args below meth c D A nL Q cells slots pc L st B := fun H locs ls hP hD hS hl => k H locs ls (zP_iff.mpr fun q hq => zP_iff.mp (zP_perm h hP) q (List.mem_append_left _ hq)) (zD_split (zD_perm h hD)).1 hS hl
theorem z_acong (b : Nat) {sh : List (Nat × zS)} {σ : zF} (hb : B[b]? = some (sh, σ)) (q : Nat) {a n : Nat} {cA : ClassId} {f f' : Nat → Option Nat} (hq : sh[q]? = some (a, zQr cA n f)) (hf : ∀ k, k < n → f k = f' k) (hB : B.set b (sh.set q (a, zQr cA n f'), σ) = B') (k : zK p l e R s m args below meth c D A nL Q cells slots pc L st B') : zK p l e R s m args below meth c D A nL Q cells slots pc L st B := fun H locs ls hP hD hS hl => by
  obtain ⟨q0, h1, -, h3⟩ := zW_at B b hb hq
  have hcell : vp_cell cA (n, .inr (.inr (.inr (.inr f)))) = vp_cell cA (n, .inr (.inr (.inr (.inr f')))) := by
    rw [vp_cell_q, vp_cell_q]
    unfold arrV
    congr 1
    congr 1
    funext j
    show va_rf (f j.val) = va_rf (f' j.val)
    rw [hf j.val j.isLt]
  have e1 := h3 (.inl (cA, n, .inr (.inr (.inr (.inr f')))))
  rw [hB] at e1
  have hl0 := (List.getElem?_eq_some_iff.mp h1).1
  refine k H locs ls ?_ ?_ hS hl
  · rw [← e1]
    intro i q hi
    by_cases e : i = q0
    · subst e
      rw [List.getElem?_set_self hl0] at hi
      cases hi
      have h9 := hP i _ h1
      show H[a]? = some (vp_cell cA _)
      rw [← hcell]
      exact h9
    · rw [List.getElem?_set_ne (Ne.symm e)] at hi
      exact hP i q hi
  · rw [← e1]
    exact hD.set h1
theorem z_getV (C : zX p s m args meth c D tys A own cc nL) {Cn : String} {T : u_T} {N ci index : Nat} (hin : ∀ w ∈ u_ws Cn T N, w ∈ lw_all) (b : Nat) {sh : List (Nat × zS)} {σ : zF} (hb : B[b]? = some (sh, σ)) (q : Nat) {a : Nat} {fs : List Value} (hq : sh[q]? = some (a, .inr (.inr (.inr (ci, fs))))) (hc : vwCl[ci]? = some (Cn, T, N)) (j : Nat) (hj : j < N) {v : Value} (hf : fs[j]? = some v) (hlink : Cond.fieldLink own index (T j).1 (T j).2.1 (T j).2.2.1 ∈ lw_all) (hdg : decode cc pc = .ok (.getfield index, 3)) (k : zK p l e R s m args below meth c D A nL Q cells slots (pc + 3) L (v :: st) B) : zK p l e R s m args below meth c D A nL Q cells slots pc L (.ref a :: st) B := fun H locs ls hP hD hS hl => by
  obtain ⟨q0, h1, -⟩ := zW_at B b hb hq
  refine va_get (D := D) C.1 C.2.1 C.2.2.2.2.1 hin C.2.2.2.1 C.2.2.2.2.2.1 hP q0 (fs := fs) h1 hc j hj (C.2.2.2.2.1 _ hlink) (fun _ h9 => h9) (v := v) hf hdg ?_
  exact k H locs ls hP hD hS hl
theorem z_aldO (C : zX p s m args meth c D tys A own cc nL) (b : Nat) {sh : List (Nat × zS)} {σ : zF} (hb : B[b]? = some (sh, σ)) (q t : Nat) {a n i : Nat} {cA : ClassId} {E : String} {f : Nat → Option Nat} (hq : sh[q]? = some (a, zQr cA n f)) (ht : tys[t]? = some (cA, .object E)) (hdg : decode cc pc = .ok (.aaload, 1)) (hi : i < n) (hn : n < 2 ^ 31) {v : Nat} (hv : f i = some v) (k : zK p l e R s m args below meth c D A nL Q cells slots (pc + 1) L (.ref v :: st) B) : zK p l e R s m args below meth c D A nL Q cells slots pc L (.int (nI i) :: .ref a :: st) B := fun H locs ls hP hD hS hl => by
  obtain ⟨q0, h1, -⟩ := zW_at B b hb hq
  refine va_aldq (D := D) C.1 C.2.1 C.2.2.2.2.2.1 hP q0 t h1 ht (vp_in_nI hi hn) hdg ?_
  rw [nI_clamp (Nat.lt_trans hi hn), hv]
  exact k H locs ls hP hD hS hl
theorem z_aldA (C : zX p s m args meth c D tys A own cc nL) (b : Nat) {sh : List (Nat × zS)} {σ : zF} (hb : B[b]? = some (sh, σ)) (q t : Nat) {a n i : Nat} {cA : ClassId} {ty : FieldType} {f : Nat → Option Nat} (hq : sh[q]? = some (a, zQr cA n f)) (ht : tys[t]? = some (cA, .array ty)) (hdg : decode cc pc = .ok (.aaload, 1)) (hi : i < n) (hn : n < 2 ^ 31) {v : Nat} (hv : f i = some v) (k : zK p l e R s m args below meth c D A nL Q cells slots (pc + 1) L (.ref v :: st) B) : zK p l e R s m args below meth c D A nL Q cells slots pc L (.int (nI i) :: .ref a :: st) B := fun H locs ls hP hD hS hl => by
  obtain ⟨q0, h1, -⟩ := zW_at B b hb hq
  have hc : (nI i).toNatClampNeg = i := nI_clamp (Nat.lt_trans hi hn)
  refine W.aald (v := va_rf (f (nI i).toNatClampNeg)) (ty := .array ty) C.1 C.2.1 (hP q0 _ h1) ((C.2.2.2.2.2.1.2 t _ ht).1 n (fun j => va_rf (f j))) rfl (fun q => by cases q) (by show ¬ (_ < 0 ∨ (arrV _ _ _).slots.size ≤ _); rw [arrV_size]; exact vp_in_nI hi hn) (by show (arrV _ _ _).slots[_]? = _; rw [arrV_read _ _ (by rw [hc]; exact hi)]) rfl rfl hdg ?_
  rw [hc, hv]
  exact k H locs ls hP hD hS hl
theorem z_ialR (C : zX p s m args meth c D tys A own cc nL) (b : Nat) {sh : List (Nat × zS)} {σ : zF} (hb : B[b]? = some (sh, σ)) (q t : Nat) {a n i : Nat} {cA : ClassId} {f : Nat → Int32} (hq : sh[q]? = some (a, zQi cA n f)) (ht : tys[t]? = some (cA, .int)) (hdg : decode cc pc = .ok (.iaload, 1)) (hi : i < n) (hn : n < 2 ^ 31) (k : zK p l e R s m args below meth c D A nL Q cells slots (pc + 1) L (.int (f i) :: st) B) : zK p l e R s m args below meth c D A nL Q cells slots pc L (.int (nI i) :: .ref a :: st) B := fun H locs ls hP hD hS hl => by
  obtain ⟨q0, h1, -⟩ := zW_at B b hb hq
  refine va_iald (D := D) C.1 C.2.1 C.2.2.2.2.2.1 hP q0 t h1 ht (vp_in_nI hi hn) hdg ?_
  rw [nI_clamp (Nat.lt_trans hi hn)]
  exact k H locs ls hP hD hS hl
theorem z_alenQ (C : zX p s m args meth c D tys A own cc nL) (b : Nat) {sh : List (Nat × zS)} {σ : zF} (hb : B[b]? = some (sh, σ)) (q : Nat) {a n : Nat} {cA : ClassId} {f : Nat → Option Nat} (hq : sh[q]? = some (a, zQr cA n f)) (t : Nat) {ty : FieldType} (ht : tys[t]? = some (cA, ty)) (hdg : decode cc pc = .ok (.arraylength, 1)) (k : zK p l e R s m args below meth c D A nL Q cells slots (pc + 1) L (.int (nI n) :: st) B) : zK p l e R s m args below meth c D A nL Q cells slots pc L (.ref a :: st) B := fun H locs ls hP hD hS hl => by
  obtain ⟨q0, h1, -⟩ := zW_at B b hb hq
  exact va_alen (D := D) C.1 C.2.1 C.2.2.2.2.2.1 hP q0 t h1 ht rfl hdg (k H locs ls hP hD hS hl)
theorem z_astO (C : zX p s m args meth c D tys A own cc nL) (b b2 : Nat) {sh sh2 : List (Nat × zS)} {σ σ2 : zF} (hb : B[b]? = some (sh, σ)) (hb2 : B[b2]? = some (sh2, σ2)) (q q2 t ci : Nat) {a n i v : Nat} {cA : ClassId} {r : vw_C} {f : Nat → Option Nat} {vs : List Value} (hq : sh[q]? = some (a, zQr cA n f)) (hq2 : sh2[q2]? = some (v, .inr (.inr (.inr (ci, vs))))) (hc : vwCl[ci]? = some r) (ht : tys[t]? = some (cA, .object r.1)) (hdg : decode cc pc = .ok (.aastore, 1)) (hi : i < n) (hn : n < 2 ^ 31) (hB : B.set b (sh.set q (a, zQr cA n (va_up f i (some v))), σ) = B') (k : zK p l e R s m args below meth c D A nL Q cells slots (pc + 1) L st B') : zK p l e R s m args below meth c D A nL Q cells slots pc L (.ref v :: .int (nI i) :: .ref a :: st) B := fun H locs ls hP hD hS hl => by
  obtain ⟨q0, h1, -, h3⟩ := zW_at B b hb hq
  obtain ⟨q1, g1, -⟩ := zW_at B b2 hb2 hq2
  refine va_astq (D := D) C.1 C.2.1 C.2.2.2.2.2.1 hP hD hS q0 t q1 ci h1 ht g1 hc (vp_in_nI hi hn) hdg (fun H1 locs1 hP1 hD1 hS1 => ?_)
  rw [nI_clamp (Nat.lt_trans hi hn), h3, hB] at hP1 hD1
  exact k H1 locs1 ls hP1 hD1 hS1 hl
theorem z_astA (C : zX p s m args meth c D tys A own cc nL) (b b2 : Nat) {sh sh2 : List (Nat × zS)} {σ σ2 : zF} (hb : B[b]? = some (sh, σ)) (hb2 : B[b2]? = some (sh2, σ2)) (q q2 t t2 : Nat) {a n i v n2 : Nat} {cA cI : ClassId} {f : Nat → Option Nat} {f2 : Nat → Int32} (hq : sh[q]? = some (a, zQr cA n f)) (hq2 : sh2[q2]? = some (v, zQi cI n2 f2) ∨ sh2[q2]? = some (v, .inl (cI, n2))) (ht : tys[t]? = some (cA, .array .int)) (ht2 : tys[t2]? = some (cI, .int)) (hover : Cond.arrayOver (FieldType.array FieldType.int) ∈ lw_env) (hdg : decode cc pc = .ok (.aastore, 1)) (hi : i < n) (hn : n < 2 ^ 31) (hB : B.set b (sh.set q (a, zQr cA n (va_up f i (some v))), σ) = B') (k : zK p l e R s m args below meth c D A nL Q cells slots (pc + 1) L st B') : zK p l e R s m args below meth c D A nL Q cells slots pc L (.ref v :: .int (nI i) :: .ref a :: st) B := fun H locs ls hP hD hS hl => by
  obtain ⟨q0, h1, -, h3⟩ := zW_at B b hb hq
  have hcv : ∃ z : Nat → Int32, H[v]? = some (vp_cell cI (n2, .inl z)) := by
    rcases hq2 with h | h
    · obtain ⟨q1, g1, -⟩ := zW_at B b2 hb2 h
      exact ⟨_, hP q1 _ g1⟩
    · obtain ⟨q1, g1, -⟩ := zW_at B b2 hb2 h
      exact ⟨_, hP q1 _ g1⟩
  obtain ⟨z, hcv⟩ := hcv
  obtain ⟨comp, cX, kX, w1, -, w3, w4, w5⟩ := arrayOverA_spec (C.2.2.2.2.2.2.2.2.1 _ hover)
  obtain ⟨kk1, kk2⟩ := C.2.2.2.2.2.1.2 t _ ht
  obtain ⟨jj1, jj2⟩ := C.2.2.2.2.2.1.2 t2 _ ht2
  have ec : cX = cA := Option.some.inj (w5.symm.trans kk2)
  have ei : comp = cI := Option.some.inj (w1.symm.trans jj2)
  subst ec
  subst ei
  obtain ⟨-, kI, hkI, -⟩ := jj1 n2 (fun j => .int (z j))
  have hc : (nI i).toNatClampNeg = i := nI_clamp (Nat.lt_trans hi hn)
  have hin := vp_in_nI hi hn
  refine W.aast C.1 C.2.1 (hP q0 _ h1) (fun q h => by cases h) (fun h => by cases h) w3 w4 rfl hkI ⟨fun z => hin (Or.inl z), by show _ < (arrV _ _ _).slots.size; rw [arrV_size, hc]; exact hi⟩ hcv (fun q h => by cases h) hkI (va_asg _ _) rfl rfl hdg fun H1 e z9 oq => ?_
  have hP1 : va_P D vwCl ((zW B).set q0 (a, .inl (cX, n, .inr (.inr (.inr (.inr (va_up f i (some v)))))))) H1 := hP.set hD h1 (by
    show H1[a]? = some (vp_cell _ _)
    rw [e, hc]
    rw [vp_cell_q, vp_cell_q, arrV_store]
    congr 2
    funext q
    by_cases hq : q = i
    · subst hq
      simp [updV, va_up, va_rf]
    · simp [updV, va_up, hq]) oq
  have hD1 := hD.set (e := .inl (cX, n, .inr (.inr (.inr (.inr (va_up f i (some v))))))) h1
  rw [h3, hB] at hP1 hD1
  exact k H1 _ ls hP1 hD1 (hS.put z9 oq (hD.2 q0 _ h1)) hl
theorem z_newq (C : zX p s m args meth c D tys A own cc nL) {index N t : Nat} {E : String} {cA : ClassId} (hcl : Cond.classLink own index E ∈ lw_all) (hover : Cond.arrayOver (.object E) ∈ lw_env) (ht : tys[t]? = some (cA, .object E)) (hN : N < 2 ^ 27) (hR : cells + 1 ≤ R.cells ∧ slots + N ≤ R.slots) (hdg : decode cc pc = .ok (.anewarray index, 3))
    (kk : ∀ q : Nat, zK p l e R s m args below meth c D A nL Q (cells + 1) (slots + N) (pc + 3) L (.ref q :: st) (B ++ [([(q, zQr cA N (fun _ => none))], zZ)])) : zK p l e R s m args below meth c D A nL Q cells slots pc L (.int (nI N) :: st) B := fun H locs ls hP hD hS hl => by
  refine va_newq (D := D) C.1 C.2.1 C.2.2.2.1 (C.2.2.2.2.1 _ hcl) (C.2.2.2.2.2.2.2.2.1 _ hover) C.2.2.2.2.2.1 hP hD hS C.2.2.2.2.2.2.1 (n := nI N) (nI_pos (by omega)) (nI_clamp (by omega)) (by omega) hR.1 hR.2 hdg (fun q cA' H1 hK' hP1 hD1 hS1 => ?_)
  have hlast : (tys ++ [(cA', FieldType.object E)])[tys.length]? = some (cA', .object E) := by simp
  obtain ⟨kA, comp, -, -, -, e4⟩ := (hK'.2 _ _ hlast).2
  obtain ⟨kA2, comp2, -, -, -, e42⟩ := (C.2.2.2.2.2.1.2 t _ ht).2
  cases Option.some.inj (e4.symm.trans e42)
  have hz : zW (B ++ [([(q, zQr cA N (fun _ => none))], zZ)]) = zW B ++ [(q, .inl (cA, N, .inr (.inr (.inr (.inr (fun _ => none))))))] := by rw [zW_app]; rfl
  rw [← hz] at hP1 hD1
  exact kk q H1 locs ls hP1 hD1 hS1 hl
theorem z_newA (C : zX p s m args meth c D tys A own cc nL) {index N t : Nat} {cA : ClassId} (hcl : Cond.classLink own index "[I" ∈ lw_all) (hover : Cond.arrayOver (FieldType.array FieldType.int) ∈ lw_env) (ht : tys[t]? = some (cA, .array .int)) (hN : N < 2 ^ 27) (hR : cells + 1 ≤ R.cells ∧ slots + N ≤ R.slots) (hdg : decode cc pc = .ok (.anewarray index, 3))
    (kk : ∀ q : Nat, zK p l e R s m args below meth c D A nL Q (cells + 1) (slots + N) (pc + 3) L (.ref q :: st) (B ++ [([(q, zQr cA N (fun _ => none))], zZ)])) : zK p l e R s m args below meth c D A nL Q cells slots pc L (.int (nI N) :: st) B := fun H locs ls hP hD hS hl => by
  have hc : (nI N).toNatClampNeg = N := nI_clamp (by omega)
  refine W.anewA C.1 C.2.1 C.2.2.2.1 (own := own) (t := .int) (index := index) (C.2.2.2.2.1 _ hcl) (C.2.2.2.2.2.2.2.2.1 _ hover) rfl hdg (n := nI N) rfl (nI_pos (by omega)) (by rw [hc]; omega) hR.1 (by rw [hc]; exact hR.2) fun cA' kA comp f1 f2 f3 f4 => ?_
  cases Option.some.inj (f1.symm.trans (C.2.2.2.2.2.1.2 t _ ht).2)
  rw [hc]
  generalize hH1 : H.push ({ cls := cA, slots := Array.replicate N .null, vm := .none } : Cell) = H1
  have z1 : H1.size = H.size + 1 := by rw [← hH1, Array.size_push]
  have e1 : H1[H.size]? = some (arrV cA N (fun _ => .null)) := by rw [← hH1, Array.getElem?_push_size, ← arrV_new]
  have o1 : ∀ q : Nat, q < H.size → H1[q]? = H[q]? := fun q hq => by rw [← hH1, Array.getElem?_push, if_neg (Nat.ne_of_lt hq)]
  have hP' : va_P D vwCl (zW B ++ [(H.size, .inl (cA, N, .inr (.inr (.inr (.inr (fun _ => none))))))]) H1 := zP_iff.mpr fun q hm => by
    rcases List.mem_append.mp hm with g | g
    · exact (zP_iff.mp hP q g).kept (o1 q.1 (zP_iff.mp hP q g).lt)
    · rw [List.mem_singleton.mp g]
      show H1[H.size]? = some (vp_cell _ _)
      rw [vp_cell_q]
      exact e1
  have hD' : va_D A (zW B ++ [(H.size, .inl (cA, N, .inr (.inr (.inr (.inr (fun _ => none))))))]) := hD.push hP rfl (C.2.2.2.2.2.2.1 _ hS.1)
  have hz : zW (B ++ [([(H.size, zQr cA N (fun _ => none))], zZ)]) = zW B ++ [(H.size, .inl (cA, N, .inr (.inr (.inr (.inr (fun _ => none))))))] := by rw [zW_app]; rfl
  rw [← hz] at hP' hD'
  exact kk H.size H1 locs ls hP' hD' ⟨by rw [z1]; exact Nat.le_succ_of_le hS.1, fun q h6 h7 => by rw [o1 q (Nat.lt_of_lt_of_le h6 hS.1)]; exact hS.2.1 q h6 h7, hS.2.2⟩ hl
theorem z_mabs (C : zX p s m args meth c D tys A own cc nL) {index : Nat} {x : Int32} (h1 : Cond.methodLink own index Lib.Math.abs.name ∈ lw_all) (h2 : Cond.static Lib.Math.abs.name ∈ lw_all) (h3 : Cond.initialized "java/lang/Math" ∈ lw_all) (h4 : Cond.code Lib.Math.abs.name Lib.Math.abs.code 1 (some .int) ∈ lw_all) (hR : 1 ≤ R.frames ∧ (st.map fun v => v.category).sum + 13 ≤ R.locals ∧ cells ≤ R.cells ∧ slots ≤ R.slots) (hdg : decode cc pc = .ok (.invokestatic index, 3)) (k : zK p l e R s m args below meth c D A nL Q cells slots (pc + 3) L (.int (if 0 ≤ x then x else 0 - x) :: st) B) : zK p l e R s m args below meth c D A nL Q cells slots pc L (.int x :: st) B := fun H locs ls hP hD hS hl => va_mabs C.1 C.2.1 (C.2.2.1.trans hl.1.symm) C.2.2.2.1 (C.2.2.2.2.1 _ h1) (C.2.2.2.2.1 _ h2) (C.2.2.2.2.1 _ h3) (C.2.2.2.2.1 _ h4) hR.1 hR.2.1 hR.2.2.1 hR.2.2.2 hdg (k H locs ls hP hD hS hl)
theorem z_aret (C : zX p s m args meth c D tys A own cc nL) {post : Option Value → List zB → Prop} {E : String} {v : Nat} (hr : meth.sig.returnType = some (.object E)) (hdg : decode cc pc = .ok (.areturn, 1)) (hp : post (some (.ref v)) B) : zK p l e R s m args below meth c D A nL (MQ below (zQ post D tys A) args s cells slots A) cells slots pc L [.ref v] B := fun H locs ls hP hD hS hl => W.aret C.1 C.2.1 hr (Or.inl ⟨_, rfl⟩) (Or.inr ⟨_, rfl⟩) (fun t ht hW => ⟨⟨_, B, rfl, hp, by rw [ht]; exact hP, va_K.moved hW.alike C.2.2.2.2.2.1, hD⟩, hS.F ht⟩) hS.2.2 hdg C.2.2.2.2.2.2.2.1
end ZREFS
theorem ws_abs : Cond.static Lib.Math.abs.name ∈ lw_all := ws_yJ9_abs_0f7a4
theorem wk_abs : Cond.code Lib.Math.abs.name Lib.Math.abs.code 1 (some .int) ∈ lw_all := wk_yJ9_abs_0f7a4
