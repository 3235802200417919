/-! more rows: calls on objects as they are, methods that read the script, remainders -/
def bw (v : Int32) (k : Nat) : Nat := (v &&& 2147483647).toNatClampNeg % k
theorem bw_lt (v : Int32) {k : Nat} (h : 0 < k) : bw v k < k := Nat.mod_lt _ h
theorem bw_eq (v : Int32) {k : Nat} (h0 : 0 < k) (h : k < 2 ^ 31) : (v &&& 2147483647) - (v &&& 2147483647) / nI k * nI k = nI (bw v k) := by
  obtain ⟨j, hj, e⟩ := pk_andE v (m := 2147483647) 31 (by decide)
  unfold bw
  rw [e, nI_clamp hj, pk_div hj h0 h, pk_mul, pk_sub (Nat.div_mul_le_self j k)]
  congr 1
  have := Nat.div_add_mod j k
  rw [Nat.mul_comm] at this
  omega
def cw (xs : Nat → Int32) (L k : Nat) : Int32 := if k < L then xs k else 790386105 * (nI k + nI 3)
def zPreX (D : va_G) (tys : List (ClassId × FieldType)) (b0 N : Nat) (xs : Nat → Int32) (sz : Nat) (B : List zB) (U : State) : Prop := zPre D tys sz B U ∧ va_X b0 N xs U U.heap ∧ b0 < sz ∧ ¬ va_A (zW B) sz b0
/-- a contract of a method that reads the script -/
def zMx (l : Launch) (D : va_G) (tys : List (ClassId × FieldType)) (b0 N : Nat) (xs : Nat → Int32) (y : MethodName) (cc : ByteArray) (n : Nat) (ret : Option FieldType) (rm : Room) (as : List Value) (B : List zB) (mc ms : Nat) (post : Option Value → List zB → Prop) : Prop :=
  ∀ sz : Nat, Met l y (wz y cc n ret) rm (va_Pc as (zPreX D tys b0 N xs sz B)) (zQ post D tys (va_A (zW B) sz)) mc ms (va_A (zW B) sz)
theorem zPreX_blind {D : va_G} {tys : List (ClassId × FieldType)} {b0 N : Nat} {xs : Nat → Int32} {sz : Nat} {B : List zB} {as : List Value} : FrameBlind (va_Pc as (zPreX D tys b0 N xs sz B)) := fun a U g mk q => by
  obtain ⟨q0, ⟨q1, qP, qK, qD, qE⟩, qX, qb, qA⟩ := q
  exact ⟨q0, ⟨q1, qP, va_K.moved (u := U) (U := U.calling g mk a) (Vm.Alike.refl U.vm) qK, qD, zEv_calling qE⟩, va_X.moved (u := U) (U := U.calling g mk a) (Vm.Alike.refl U.vm) qX, qb, qA⟩
section ZROWS4
variable {p : Program} {l : Launch} {e : Env} {R : Room} {s : State} {m : MethodId} {args : Array Value} {below : List Frame} {meth : Method} {c : Code} {D : va_G} {tys : List (ClassId × FieldType)} {A : Nat → Prop} {own : String} {cc : ByteArray} {nL : Nat} {Q : State → Prop} {cells slots pc : Nat} {L L' : List (Nat × Value)} {st st' rest : List Value} {B B' : List zB}
theorem z_sipush (C : zX p s m args meth c D tys A own cc nL) {n : Int} {v : Int32} (hv : (Int16.ofInt n).toInt32 = v) (hdg : decode cc pc = .ok (.sipush n, 3)) (k : zK p l e R s m args below meth c D A nL Q cells slots (pc + 3) L (.int v :: st) B) : zK p l e R s m args below meth c D A nL Q cells slots pc L (st) B := fun H locs ls hP hD hS hl => lv_sipush C.1 C.2.1 hdg hv (k H locs ls hP hD hS hl)
theorem z_ldc (C : zX p s m args meth c D tys A own cc nL) {index : Nat} {v : Int32} (hw : Jvm.Cond.constant own index v ∈ lw_all) (hdg : decode cc pc = .ok (.ldc index, 2)) (k : zK p l e R s m args below meth c D A nL Q cells slots (pc + 2) L (.int v :: st) B) : zK p l e R s m args below meth c D A nL Q cells slots pc L st B := fun H locs ls hP hD hS hl => lv_ldc C.1 C.2.1 C.2.2.2.1 (C.2.2.2.2.1 _ hw) hdg (k H locs ls hP hD hS hl)
theorem z_ishr (C : zX p s m args meth c D tys A own cc nL) {x y : Int32} (hdg : decode cc pc = .ok (.ishr, 1)) (k : zK p l e R s m args below meth c D A nL Q cells slots (pc + 1) L (.int (x >>> (y &&& 31)) :: st) B) : zK p l e R s m args below meth c D A nL Q cells slots pc L (.int y :: .int x :: st) B := fun H locs ls hP hD hS hl => lv_ishr C.1 C.2.1 hdg (k H locs ls hP hD hS hl)
theorem z_irem (C : zX p s m args meth c D tys A own cc nL) {x y : Int32} (hne : ¬ y = 0) (hdg : decode cc pc = .ok (.irem, 1)) (k : zK p l e R s m args below meth c D A nL Q cells slots (pc + 1) L (.int (x - x / y * y) :: st) B) : zK p l e R s m args below meth c D A nL Q cells slots pc L (.int y :: .int x :: st) B := fun H locs ls hP hD hS hl => lv_irem C.1 C.2.1 hdg hne (k H locs ls hP hD hS hl)
theorem z_ifnn (C : zX p s m args meth c D tys A own cc nL) {x : Nat} {off : Int} {tgt : Nat} (hdg : decode cc pc = .ok (.ifnonnull off, 3)) (ht : (pc : Int) + off = (tgt : Int)) (k : zK p l e R s m args below meth c D A nL Q cells slots tgt L st B) : zK p l e R s m args below meth c D A nL Q cells slots pc L (.ref x :: st) B := fun H locs ls hP hD hS hl => lv_ifnonnull C.1 C.2.1 hdg ht (k H locs ls hP hD hS hl)
theorem z_callVR (C : zX p s m args meth c D tys A own cc nL) {y : MethodName} {bytes : ByteArray} {maxL mc ms n index : Nat} {ret : Option FieldType} {rm : Room} {post : Option Value → List zB → Prop} {As : List Value} {Bc : List zB} {b : Nat} (msk : List Bool) (hBc : zPick msk B = Bc) (hM : zM l D tys y bytes maxL ret rm (.ref b :: As) Bc mc ms post) (hcal : zCal y bytes maxL ret n) (hlink : Cond.methodLink own index y ∈ lw_all) (hinst : Cond.instanceMethod y ∈ lw_all ∧ Cond.selects y.cls y y ∈ lw_all) (hR : rm.cells = mc ∧ rm.slots = ms ∧ rm.frames + 1 ≤ R.frames ∧ 8 + (maxL + 11) + rm.locals ≤ R.locals)
    (bi : Nat) {sh : List (Nat × zS)} {σ : zF} (hbi : B[bi]? = some (sh, σ)) (q : Nat) {fs : List Value} {ci : Nat} {T : u_T} {N : Nat} (hq : sh[q]? = some (b, .inr (.inr (.inr (ci, fs))))) (hc : vwCl[ci]? = some (y.cls, T, N))
    (hst : st = As.reverse ++ .ref b :: rest) (hn : As.length = n) (hcat : (rest.map fun v => v.category).sum ≤ 8) (hdg : decode cc pc = .ok (.invokevirtual index, 3)) (hf : cells + mc ≤ R.cells ∧ slots + ms ≤ R.slots)
    (kk : ∀ (r : Option Value) (u : List zB), post r u → zK p l e R s m args below meth c D A nL Q (cells + mc) (slots + ms) (pc + 3) L (r.toList ++ rest) (zPut msk B u)) : zK p l e R s m args below meth c D A nL Q cells slots pc L st B := fun H locs ls hP hD hS hl => by
  subst hBc
  subst hst
  obtain ⟨hPc, hDc, hF⟩ := z_pick msk hP hD hS C.2.2.2.2.2.2.1
  obtain ⟨q0, h1, -⟩ := zW_at B bi hbi hq
  exact z_back (a := (Value.ref b :: As).toArray) C.2.2.2.2.2.1 C.2.2.2.2.2.2.1 msk hP hD hS hl (va_runV (As := As) (rest := rest) ⟨C.1, C.2.1, C.2.2.1, C.2.2.2.1, C.2.2.2.2.1⟩ (hM H.size) (cwV n C.2.2.2.2.1 (zg_V hlink hinst.1 hinst.2 hcal.2.1 hcal.ws) rfl hR.1 hR.2.1 ⟨rfl, hcal.2.2⟩ hR.2.2) ⟨zPre_blind, va_recv C.2.2.2.2.2.1 hP hc h1, fun U hU hW => ⟨rfl, by rw [hU], by rw [hU]; exact hPc, va_K.moved hW.alike C.2.2.2.2.2.1, hDc, by rw [hU]; exact C.2.2.2.2.2.2.2.2.go hW hS.2.1 hF⟩⟩ rfl hn hl.1 rfl (lv_room hcat) hdg hf) kk
theorem z_cVR (C : zX p s m args meth c D tys A own cc nL) {y : MethodName} {bytes : ByteArray} {maxL n index : Nat} {ret : Option FieldType} {rm : Room} {r0 : Option Value} {u0 : List zB} {As : List Value} {Bc : List zB} {b : Nat} (msk : List Bool) (hBc : zPick msk B = Bc) (hM : zM l D tys y bytes maxL ret rm (.ref b :: As) Bc 0 0 (fun r u => r = r0 ∧ u = u0)) (hcal : zCal y bytes maxL ret n) (hlink : Cond.methodLink own index y ∈ lw_all) (hinst : Cond.instanceMethod y ∈ lw_all ∧ Cond.selects y.cls y y ∈ lw_all) (hR : rm.cells = 0 ∧ rm.slots = 0 ∧ rm.frames + 1 ≤ R.frames ∧ 8 + (maxL + 11) + rm.locals ≤ R.locals)
    (bi : Nat) {sh : List (Nat × zS)} {σ : zF} (hbi : B[bi]? = some (sh, σ)) (q : Nat) {fs : List Value} {ci : Nat} {T : u_T} {N : Nat} (hq : sh[q]? = some (b, .inr (.inr (.inr (ci, fs))))) (hc : vwCl[ci]? = some (y.cls, T, N))
    (hst : st = As.reverse ++ .ref b :: rest) (hn : As.length = n) (hcat : (rest.map fun v => v.category).sum ≤ 8) (hdg : decode cc pc = .ok (.invokevirtual index, 3)) (hf : cells ≤ R.cells ∧ slots ≤ R.slots) (hst' : r0.toList ++ rest = st') (hB' : zPut msk B u0 = B')
    (kk : zK p l e R s m args below meth c D A nL Q cells slots (pc + 3) L st' B') : zK p l e R s m args below meth c D A nL Q cells slots pc L st B :=
  z_callVR C msk hBc hM hcal hlink hinst hR bi hbi q hq hc hst hn hcat hdg hf (fun r u h => by
    obtain ⟨rfl, rfl⟩ := h
    subst hst'
    subst hB'
    exact kk)
theorem z_callSHx (C : zX p s m args meth c D tys A own cc nL) {y : MethodName} {bytes : ByteArray} {maxL mc ms n index : Nat} {ret : Option FieldType} {hh : List (Nat × Nat × Nat × Nat)} {rm : Room} {post : Option Value → List zB → Prop} {As : List Value} {Bc : List zB} (msk : List Bool) (hBc : zPick msk B = Bc) (hM : zMH l D tys y bytes maxL ret hh rm As Bc mc ms post) (hcode : Cond.codeWith y bytes maxL ret hh ∈ lw_all) (hini : Cond.initialized y.cls ∈ lw_all) (hnm : y.cls ≠ "java/lang/invoke/MethodHandle" ∧ y.cls ≠ "java/lang/invoke/VarHandle" ∧ (parseMethodDescriptor y.desc).map (fun d => d.parameters.length) = some n) (hlink : Cond.methodLink own index y ∈ lw_all) (hstat : Cond.static y ∈ lw_all) (hR : rm.cells = mc ∧ rm.slots = ms ∧ rm.frames + 1 ≤ R.frames ∧ 8 + (maxL + 11) + rm.locals ≤ R.locals)
    (hst : st = As.reverse ++ rest) (hn : As.length = n) (hcat : (rest.map fun v => v.category).sum ≤ 8) (hdg : decode cc pc = .ok (.invokestatic index, 3)) (hf : cells + mc ≤ R.cells ∧ slots + ms ≤ R.slots)
    (kk : ∀ (r : Option Value) (u : List zB), post r u → zK p l e R s m args below meth c D A nL Q (cells + mc) (slots + ms) (pc + 3) L (r.toList ++ rest) (zPut msk B u)) : zK p l e R s m args below meth c D A nL Q cells slots pc L st B := fun H locs ls hP hD hS hl => by
  subst hBc
  subst hst
  obtain ⟨hPc, hDc, hF⟩ := z_pick msk hP hD hS C.2.2.2.2.2.2.1
  exact z_back (a := As.toArray) C.2.2.2.2.2.1 C.2.2.2.2.2.2.1 msk hP hD hS hl (vx_runSW (As := As) (rest := rest) ⟨C.1, C.2.1, C.2.2.1, C.2.2.2.1, C.2.2.2.2.1⟩ (hM H.size) (vx_cwSW n C.2.2.2.2.1 (zg_S hlink hstat hini (fun w hw => by
    rcases List.mem_cons.mp hw with rfl | hw
    · exact hcode
    · exact hw)) rfl hR.1 hR.2.1 hnm hR.2.2) ⟨zPre_blind, fun U hU hW => ⟨rfl, by rw [hU], by rw [hU]; exact hPc, va_K.moved hW.alike C.2.2.2.2.2.1, hDc, by rw [hU]; exact C.2.2.2.2.2.2.2.2.go hW hS.2.1 hF⟩⟩ rfl hn hl.1 rfl (lv_room hcat) hdg hf) kk
theorem z_ofX {b0 N : Nat} {xs : Nat → Int32} {y : MethodName} {rm : Room} {as : List Value} {mc ms : Nat} {post : Option Value → List zB → Prop} {maxL : Nat} {ret : Option FieldType} (hy : plainName y.cls = true) (hlen : (lg_sl as).length ≤ maxL) (hL : lv_args 0 as = L)
    (body : ∀ (p : Program) (e : Env) (s : State) (m : MethodId) (args : Array Value) (below : List Frame) (meth : Method) (c : Code) (A : Nat → Prop), zX p s m args meth c D tys A y.cls cc maxL → meth.sig.returnType = ret → va_X b0 N xs s s.heap → b0 < s.heap.size → ¬ A b0 → zK p l e rm s m args below meth c D A maxL (MQ below (zQ post D tys A) args s mc ms A) 0 0 0 L [] B) : zMx l D tys b0 N xs y cc maxL ret rm as B mc ms post := by
  intro sz
  refine Met.ofW (cc := cc) (maxL := maxL) (ret := ret) hy rfl ?_
  intro p e s m args below meth c s₁ BL hml hv
  obtain ⟨rfl, ⟨hsz, hP, hK, hD0, hE⟩, hX, hb, hA⟩ := hv
  subst hsz
  have hl := lv_entry as (n := maxL) hlen
  rw [hL] at hl
  rw [lg_entry_eq]
  have hts := atoms_spec (ws := wz y cc maxL ret) BL.pre
  exact body p e s m as.toArray below meth c (va_A (zW B) s.heap.size) ⟨BL.exec, BL.bytes, hml, findClass_of_methodNamed BL.named, fun w hw => hts w (List.mem_cons_of_mem _ hw), hK, fun q h => Or.inr h, BL.notSynchronized, hE⟩ BL.returns hX hb hA s.heap [] _ hP hD0.self va_S.rf hl
theorem z_callX (C : zX p s m args meth c D tys A own cc nL) {b0 N : Nat} {xs : Nat → Int32} (hX : va_X b0 N xs s s.heap) (hbl : b0 < s.heap.size) (hbA : ¬ A b0) {y : MethodName} {bytes : ByteArray} {maxL mc ms n index : Nat} {ret : Option FieldType} {rm : Room} {post : Option Value → List zB → Prop} {As : List Value} {Bc : List zB} (msk : List Bool) (hBc : zPick msk B = Bc) (hM : zMx l D tys b0 N xs y bytes maxL ret rm As Bc mc ms post) (hcal : zCal y bytes maxL ret n) (hlink : Cond.methodLink own index y ∈ lw_all) (hstat : Cond.static y ∈ lw_all) (hR : rm.cells = mc ∧ rm.slots = ms ∧ rm.frames + 1 ≤ R.frames ∧ 8 + (maxL + 11) + rm.locals ≤ R.locals)
    (hst : st = As.reverse ++ rest) (hn : As.length = n) (hcat : (rest.map fun v => v.category).sum ≤ 8) (hdg : decode cc pc = .ok (.invokestatic index, 3)) (hf : cells + mc ≤ R.cells ∧ slots + ms ≤ R.slots)
    (kk : ∀ (r : Option Value) (u : List zB), post r u → zK p l e R s m args below meth c D A nL Q (cells + mc) (slots + ms) (pc + 3) L (r.toList ++ rest) (zPut msk B u)) : zK p l e R s m args below meth c D A nL Q cells slots pc L st B := fun H locs ls hP hD hS hl => by
  subst hBc
  subst hst
  obtain ⟨hPc, hDc, hF⟩ := z_pick msk hP hD hS C.2.2.2.2.2.2.1
  exact z_back (a := As.toArray) C.2.2.2.2.2.1 C.2.2.2.2.2.2.1 msk hP hD hS hl (va_runS (As := As) (rest := rest) ⟨C.1, C.2.1, C.2.2.1, C.2.2.2.1, C.2.2.2.2.1⟩ (hM H.size) (va_cwS n C.2.2.2.2.1 (zg_S hlink hstat hcal.2.1 hcal.ws) rfl hR.1 hR.2.1 hcal.2.2 hR.2.2) ⟨zPreX_blind, fun U hU hW => ⟨rfl, ⟨by rw [hU], by rw [hU]; exact hPc, va_K.moved hW.alike C.2.2.2.2.2.1, hDc, by rw [hU]; exact C.2.2.2.2.2.2.2.2.go hW hS.2.1 hF⟩, (va_X.moved hW.alike (hX.kept (by rw [hU]; exact hS.2.1 b0 hbl hbA))), Nat.lt_of_lt_of_le hbl hS.1, fun z => hbA (hF b0 z)⟩⟩ rfl hn hl.1 rfl (lv_room hcat) hdg hf) kk
theorem z_sld (C : zX p s m args meth c D tys A own cc nL) {b0 N : Nat} {xs : Nat → Int32} (hX : va_X b0 N xs s s.heap) (hbl : b0 < s.heap.size) (hbA : ¬ A b0) {i : Nat} (hi : i < N) (hL : N < 2 ^ 31) (hdg : decode cc pc = .ok (.iaload, 1)) (k : zK p l e R s m args below meth c D A nL Q cells slots (pc + 1) L (.int (xs i) :: st) B) : zK p l e R s m args below meth c D A nL Q cells slots pc L (.int (nI i) :: .ref b0 :: st) B := fun H locs ls hP hD hS hl => by
  refine va_sld C.1 C.2.1 hX hbl hbA hS (vp_in_nI hi hL) hdg ?_
  rw [nI_clamp (Nat.lt_trans hi hL)]
  exact k H locs ls hP hD hS hl
theorem z_slen (C : zX p s m args meth c D tys A own cc nL) {b0 N : Nat} {xs : Nat → Int32} (hX : va_X b0 N xs s s.heap) (hbl : b0 < s.heap.size) (hbA : ¬ A b0) (hdg : decode cc pc = .ok (.arraylength, 1)) (k : zK p l e R s m args below meth c D A nL Q cells slots (pc + 1) L (.int (nI N) :: st) B) : zK p l e R s m args below meth c D A nL Q cells slots pc L (.ref b0 :: st) B := fun H locs ls hP hD hS hl => va_slen C.1 C.2.1 hX hbl hbA hS hdg (k H locs ls hP hD hS hl)
end ZROWS4
