/-! rows of constructors, copies and lengths -/
def zZ : zF := fun _ _ => 0
def zAd (l : List Nat) : Nat → Nat := fun k => l.getD k 0
def zY (τ : zF) (k : Nat) (f : Nat → Int32) : zF := fun k' => bif k' == k then f else τ k'
theorem zY_eq (τ : zF) (k : Nat) (f : Nat → Int32) : zY τ k f k = f := by simp [zY]
theorem zY_ne {τ : zF} {k k' : Nat} {f : Nat → Int32} (h : k' ≠ k) : zY τ k f k' = τ k' := by simp [zY, beq_eq_false_iff_ne.mpr h]
theorem vp_01 {x : Int32} (h : x = 0 ∨ x = nI 1) : vp_nar .boolean x = x := by
  rcases h with rfl | rfl
  · exact vp_0
  · exact vp_1
section ZROWS3
variable {p : Program} {l : Launch} {e : Env} {R : Room} {s : State} {m : MethodId} {args : Array Value} {below : List Frame} {meth : Method} {c : Code} {D : va_G} {tys : List (ClassId × FieldType)} {A : Nat → Prop} {own : String} {cc : ByteArray} {nL : Nat} {Q : State → Prop} {cells slots pc : Nat} {L L' : List (Nat × Value)} {st st' rest : List Value} {B B' : List zB}
theorem z_weq (h : zW B = zW B') (k : zK p l e R s m args below meth c D A nL Q cells slots pc L st B') : zK p l e R s m args below meth c D A nL Q cells slots pc L st B := fun H locs ls hP hD hS hl => by
  rw [h] at hP hD
  exact k H locs ls hP hD hS hl
theorem z_wperm (h : (zW B).Perm (zW B')) (k : zK p l e R s m args below meth c D A nL Q cells slots pc L st B') : zK p l e R s m args below meth c D A nL Q cells slots pc L st B := fun H locs ls hP hD hS hl => k H locs ls (zP_perm h hP) (zD_perm h hD) hS hl
theorem z_oinit (C : zX p s m args meth c D tys A own cc nL) {index a : Nat} (hlink : Cond.methodLink own index objectInit ∈ lw_all) (hR : 1 ≤ R.frames ∧ (st.map fun v => v.category).sum + 12 ≤ R.locals) (hdg : decode cc pc = .ok (.invokespecial index, 3)) (k : zK p l e R s m args below meth c D A nL Q cells slots (pc + 3) L st B) : zK p l e R s m args below meth c D A nL Q cells slots pc L (.ref a :: st) B := fun H locs ls hP hD hS hl =>
  W.objInit C.1 C.2.1 C.2.2.2.1 (C.2.2.2.2.1 _ hlink) (C.2.2.2.2.1 _ wn_objectInit) (C.2.2.2.2.1 _ wk_oinit) rfl (hl.1.trans C.2.2.1.symm) rfl hdg hR.1 (by show 2 * 0 + _ + 12 ≤ _; omega) (k H locs ls hP hD hS hl)
theorem z_newa (C : zX p s m args meth c D tys A own cc nL) {atype : ArrayType} {ty : FieldType} {N : Nat} {cA : ClassId} (t : Nat) (harr : Cond.arrayClass (newarray.typeOf atype) ∈ lw_all) (hty : newarray.typeOf atype = ty) (ht : tys[t]? = some (cA, ty)) (hdef : defaultValue ty = .int 0) (hnm : s.vm.findClass ("[" ++ ty.toString) = some cA) (hN : N < 2 ^ 31) (hbytes : N * componentBytes ty ≤ 536870912) (hR : cells + 1 ≤ R.cells ∧ slots + N ≤ R.slots) (hdg : decode cc pc = .ok (.newarray atype, 2))
    (kk : ∀ q : Nat, zK p l e R s m args below meth c D A nL Q (cells + 1) (slots + N) (pc + 2) L (.ref q :: st) (B ++ [([(q, .inl (cA, N))], zZ)])) : zK p l e R s m args below meth c D A nL Q cells slots pc L (.int (nI N) :: st) B := fun H locs ls hP hD hS hl => by
  subst hty
  refine va_newaK (N := N) C.1 C.2.1 (C.2.2.2.2.1 _ harr) rfl hdg rfl (nI_pos hN) (nI_clamp hN) hbytes hR.1 hR.2 (h := H.size) rfl (fun H' cB h1 h2 h3 h4 h5 => ?_)
  cases Option.some.inj (hnm.symm.trans h5)
  have e1 : ∀ q, q < H.size → H'[q]? = H[q]? := h3
  have hq : va_at D vwCl (H.size, .inl (cA, N, .inl (fun _ => 0))) H' := by
    show H'[H.size]? = some (vp_cell cA (N, .inl (fun _ => 0)))
    rw [h1, vp_cell_i]
    congr 1
    congr 1
    funext j
    exact hdef
  have hP' : va_P D vwCl (zW B ++ [(H.size, .inl (cA, N, .inl (fun _ => 0)))]) H' := zP_iff.mpr fun q hm => by
    rcases List.mem_append.mp hm with g | g
    · exact (zP_iff.mp hP q g).kept (e1 q.1 (zP_iff.mp hP q g).lt)
    · rw [List.mem_singleton.mp g]
      exact hq
  have hD' : va_D A (zW B ++ [(H.size, .inl (cA, N, .inl (fun _ => 0)))]) := hD.push hP rfl (C.2.2.2.2.2.2.1 _ hS.1)
  have hz : zW (B ++ [([(H.size, .inl (cA, N))], zZ)]) = zW B ++ [(H.size, .inl (cA, N, .inl (fun _ => 0)))] := by rw [zW_app]; rfl
  rw [← hz] at hP' hD'
  exact kk H.size H' locs ls hP' hD' ⟨by rw [h2]; exact Nat.le_succ_of_le hS.1, fun q h6 h7 => by rw [e1 q (Nat.lt_of_lt_of_le h6 hS.1)]; exact hS.2.1 q h6 h7, hS.2.2⟩ hl
theorem z_new (C : zX p s m args meth c D tys A own cc nL) {Cn : String} {T : u_T} {N ci index : Nat} (hin : ∀ w ∈ u_ws Cn T N, w ∈ lw_all) {ty0 : Nat → FieldType} (hty : ∀ k, k < N → parseFieldDescriptor (T k).2.2.1 = some (ty0 k)) (hcl : Cond.classLink own index Cn ∈ lw_all) (hinst : Cond.instantiable Cn N ∈ lw_all) (hini : Cond.initialized Cn ∈ lw_all) (hc : vwCl[ci]? = some (Cn, T, N)) {fs : List Value} (hfs : ∀ j, j < N → defaultValue (ty0 j) = vp_V fs j) (hR : cells + 1 ≤ R.cells ∧ slots + N ≤ R.slots) (hdg : decode cc pc = .ok (.new index, 3))
    (kk : ∀ q : Nat, zK p l e R s m args below meth c D A nL Q (cells + 1) (slots + N) (pc + 3) L (.ref q :: st) (B ++ [([(q, .inr (.inr (.inr (ci, fs))))], zZ)])) : zK p l e R s m args below meth c D A nL Q cells slots pc L st B := fun H locs ls hP hD hS hl => by
  refine va_new (D := D) C.1 C.2.1 C.2.2.2.2.1 hin ty0 hty C.2.2.2.1 (C.2.2.2.2.1 _ hcl) (C.2.2.2.2.1 _ hinst) (C.2.2.2.2.1 _ hini) C.2.2.2.2.2.1 hP hD hS C.2.2.2.2.2.2.1 hc hfs hR.1 hR.2 hdg (fun q H1 hP1 hD1 hS1 => ?_)
  have hz : zW (B ++ [([(q, .inr (.inr (.inr (ci, fs))))], zZ)]) = zW B ++ [(q, .inr (ci, fs))] := by rw [zW_app]; rfl
  rw [← hz] at hP1 hD1
  exact kk q H1 locs ls hP1 hD1 hS1 hl
/-- a field of an object that is being made: the cell as it is, by its values -/
theorem z_putF (C : zX p s m args meth c D tys A own cc nL) {Cn : String} {T : u_T} {N ci index : Nat} (hin : ∀ w ∈ u_ws Cn T N, w ∈ lw_all) {ty0 : Nat → FieldType} (hty : ∀ k, k < N → parseFieldDescriptor (T k).2.2.1 = some (ty0 k)) (hnm : ∀ a, a < N → ∀ b, b < N → a ≠ b → (T a).2.1 ≠ (T b).2.1) (b : Nat) {sh : List (Nat × zS)} {σ : zF} (hb : B[b]? = some (sh, σ)) (q : Nat) {a : Nat} {fs : List Value} (hq : sh[q]? = some (a, .inr (.inr (.inr (ci, fs))))) (hc : vwCl[ci]? = some (Cn, T, N)) (j : Nat) (hj : j < N) (hlink : Cond.fieldLink own index (T j).1 (T j).2.1 (T j).2.2.1 ∈ lw_all) (hfin : (T j).2.2.2 = true) (hin2 : meth.name = "<init>") (hdecl : (T j).1 = own) {ty : FieldType} {v : Value} (hd : parseFieldDescriptor (T j).2.2.1 = some ty) (hn : narrow ty v = v) (hfit : fits ty v = true) (hl : j < fs.length) (hdg : decode cc pc = .ok (.putfield index, 3)) (hB : B.set b (sh.set q (a, .inr (.inr (.inr (ci, fs.set j v)))), σ) = B') (k : zK p l e R s m args below meth c D A nL Q cells slots (pc + 3) L st B') : zK p l e R s m args below meth c D A nL Q cells slots pc L (v :: .ref a :: st) B := fun H locs ls hP hD hS hll => by
  obtain ⟨q0, h1, -, h3⟩ := zW_at B b hb hq
  refine va_putF (D := D) C.1 C.2.1 C.2.2.2.2.1 hin ty0 hty hnm C.2.2.2.1 C.2.2.2.2.2.1 hP hD hS q0 (fs := fs) h1 hc j hj (C.2.2.2.2.1 _ hlink) (fun _ h9 => h9) hfin hin2 hdecl (ty := ty) (v := v) hd hn hfit hl hdg (fun H1 locs1 hP1 hD1 hS1 => ?_)
  rw [h3, hB] at hP1 hD1
  exact k H1 locs1 ls hP1 hD1 hS1 hll
theorem z_putV (C : zX p s m args meth c D tys A own cc nL) {Cn : String} {T : u_T} {N ci index : Nat} (hin : ∀ w ∈ u_ws Cn T N, w ∈ lw_all) {ty0 : Nat → FieldType} (hty : ∀ k, k < N → parseFieldDescriptor (T k).2.2.1 = some (ty0 k)) (hnm : ∀ a, a < N → ∀ b, b < N → a ≠ b → (T a).2.1 ≠ (T b).2.1) (b : Nat) {sh : List (Nat × zS)} {σ : zF} (hb : B[b]? = some (sh, σ)) (q : Nat) {a : Nat} {fs : List Value} (hq : sh[q]? = some (a, .inr (.inr (.inr (ci, fs))))) (hc : vwCl[ci]? = some (Cn, T, N)) (j : Nat) (hj : j < N) (hlink : Cond.fieldLink own index (T j).1 (T j).2.1 (T j).2.2.1 ∈ lw_all) (hfin : (T j).2.2.2 = false) {ty : FieldType} {v : Value} (hd : parseFieldDescriptor (T j).2.2.1 = some ty) (hn : narrow ty v = v) (hfit : fits ty v = true) (hl : j < fs.length) (hdg : decode cc pc = .ok (.putfield index, 3)) (hB : B.set b (sh.set q (a, .inr (.inr (.inr (ci, fs.set j v)))), σ) = B') (k : zK p l e R s m args below meth c D A nL Q cells slots (pc + 3) L st B') : zK p l e R s m args below meth c D A nL Q cells slots pc L (v :: .ref a :: st) B := fun H locs ls hP hD hS hll => by
  obtain ⟨q0, h1, -, h3⟩ := zW_at B b hb hq
  refine va_put (D := D) C.1 C.2.1 C.2.2.2.2.1 hin ty0 hty hnm C.2.2.2.1 C.2.2.2.2.2.1 hP hD hS q0 (fs := fs) h1 hc j hj (C.2.2.2.2.1 _ hlink) (fun _ h9 => h9) hfin (ty := ty) (v := v) hd hn hfit hl hdg (fun H1 locs1 hP1 hD1 hS1 => ?_)
  rw [h3, hB] at hP1 hD1
  exact k H1 locs1 ls hP1 hD1 hS1 hll
theorem z_alen (C : zX p s m args meth c D tys A own cc nL) (b : Nat) {sh : List (Nat × zS)} {σ : zF} (hb : B[b]? = some (sh, σ)) (q : Nat) {a n : Nat} {cA : ClassId} (hq : sh[q]? = some (a, .inl (cA, n))) (t : Nat) {ty : FieldType} (ht : tys[t]? = some (cA, ty)) (hdg : decode cc pc = .ok (.arraylength, 1)) (k : zK p l e R s m args below meth c D A nL Q cells slots (pc + 1) L (.int (nI n) :: st) B) : zK p l e R s m args below meth c D A nL Q cells slots pc L (.ref a :: st) B := fun H locs ls hP hD hS hl => by
  obtain ⟨q0, h1, -⟩ := zW_at B b hb hq
  exact va_alen (D := D) C.1 C.2.1 C.2.2.2.2.2.1 hP q0 t h1 ht rfl hdg (k H locs ls hP hD hS hl)
theorem z_copyi (C : zX p s m args meth c D tys A own cc nL) {index : Nat} (hlink : Cond.methodLink own index arraycopyName ∈ lw_all) (b0 b1 : Nat) {sh0 sh1 : List (Nat × zS)} {σ τ : zF} (hb0 : B[b0]? = some (sh0, σ)) (hb1 : B[b1]? = some (sh1, τ)) (q0 q1 t : Nat) {a0 a1 n0 n1 n : Nat} {cA : ClassId} (hq0 : sh0[q0]? = some (a0, .inl (cA, n0))) (hq1 : sh1[q1]? = some (a1, .inl (cA, n1))) (ht : tys[t]? = some (cA, .int)) (hn : n < 2 ^ 31) (h0 : n ≤ n0) (h1 : n ≤ n1) (hR : 1 ≤ R.frames ∧ (st.map fun v => v.category).sum + (nativeFrameWords "java/lang/System" "arraycopy" 5 + 11) ≤ R.locals) (hdg : decode cc pc = .ok (.invokestatic index, 3)) (hB : B.set b1 (sh1, zY τ q1 (va_cpy (σ q0) (τ q1) 0 0 n)) = B') (k : zK p l e R s m args below meth c D A nL Q cells slots (pc + 3) L st B') : zK p l e R s m args below meth c D A nL Q cells slots pc L (.int (nI n) :: .int (nI 0) :: .ref a1 :: .int (nI 0) :: .ref a0 :: st) B := fun H locs ls hP hD hS hl => by
  obtain ⟨p0, g0, -⟩ := zW_at B b0 hb0 hq0
  obtain ⟨p1, g1, g2, -⟩ := zW_at B b1 hb1 hq1
  have g3 := g2 (zY τ q1 (va_cpy (σ q0) (τ q1) 0 0 n)) (.inl (cA, n1, .inl (va_cpy (σ q0) (τ q1) 0 0 n))) (by rw [zY_eq]; rfl) (fun k' hk' => zY_ne hk')
  have z0 : (nI 0).toNatClampNeg = 0 := nI_clamp (by decide)
  have zn : (nI n).toNatClampNeg = n := nI_clamp hn
  refine va_copyi (D := D) (sp := nI 0) (dp := nI 0) (n := nI n) C.1 C.2.1 (C.2.2.1.trans hl.1.symm) C.2.2.2.1 (C.2.2.2.2.1 _ hlink) (C.2.2.2.2.1 _ wnat_arraycopyName) (C.2.2.2.2.1 _ ws_arraycopyName) (C.2.2.2.2.1 _ wi_J10) C.2.2.2.2.2.1 hP hD hS p0 p1 t t g0 g1 ht ht rfl (by decide) (by decide) (nI_pos hn) (by rw [z0, zn]; omega) (by rw [z0, zn]; omega) (fun _ _ => rfl) hR.1 hR.2 hdg (fun H1 locs1 hP1 hD1 hS1 => ?_)
  rw [z0, zn, g3, hB] at hP1 hD1
  exact k H1 locs1 ls hP1 hD1 hS1 hl
theorem z_callIN (C : zX p s m args meth c D tys A own cc nL) {y : MethodName} {bytes : ByteArray} {maxL mc ms n index : Nat} {rm : Room} {post : Option Value → List zB → Prop} {As : List Value} {Bc : List zB} {b : Nat} {host : String} (msk : List Bool) (hBc : zPick msk B = Bc) (hM : zM l D tys y bytes maxL none rm (.ref b :: As) Bc mc ms post) (hcal : zCal y bytes maxL none n) (hlink : Cond.methodLinkNest own index y host ∈ lw_env) (hinst : y.name = "<init>" ∧ Cond.instanceMethod y ∈ lw_all) (hR : rm.cells = mc ∧ rm.slots = ms ∧ rm.frames + 1 ≤ R.frames ∧ 8 + (maxL + 11) + rm.locals ≤ R.locals)
    (hst : st = As.reverse ++ .ref b :: rest) (hn : As.length = n) (hcat : (rest.map fun v => v.category).sum ≤ 8) (hdg : decode cc pc = .ok (.invokespecial index, 3)) (hf : cells + mc ≤ R.cells ∧ slots + ms ≤ R.slots)
    (kk : ∀ (r : Option Value) (u : List zB), post r u → zK p l e R s m args below meth c D A nL Q (cells + mc) (slots + ms) (pc + 3) L (r.toList ++ rest) (zPut msk B u)) : zK p l e R s m args below meth c D A nL Q cells slots pc L st B := fun H locs ls hP hD hS hl => by
  subst hBc
  subst hst
  obtain ⟨hPc, hDc, hF⟩ := z_pick msk hP hD hS C.2.2.2.2.2.2.1
  exact z_back (a := (Value.ref b :: As).toArray) C.2.2.2.2.2.1 C.2.2.2.2.2.2.1 msk hP hD hS hl (va_runIN (As := As) (rest := rest) ⟨C.1, C.2.1, C.2.2.1, C.2.2.2.1, C.2.2.2.2.1⟩ (hM H.size) ⟨va_cnB n C.2.2.2.2.1 (lw_goodIn hcal.ws) rfl hR.1 hR.2.1 (C.2.2.2.2.2.2.2.2.1 _ hlink) (C.2.2.2.2.1 _ hcal.2.1) hcal.2.2 hR.2.2, hinst.1, C.2.2.2.2.1 _ hinst.2⟩ ⟨zPre_blind, fun U hU hW => ⟨rfl, by rw [hU], by rw [hU]; exact hPc, va_K.moved hW.alike C.2.2.2.2.2.1, hDc, by rw [hU]; exact C.2.2.2.2.2.2.2.2.go hW hS.2.1 hF⟩⟩ rfl hn hl.1 rfl (lv_room hcat) hdg hf) kk
end ZROWS3
