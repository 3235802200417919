/-! methods that throw: the world stays as it was, one new cell -/
abbrev zNM : List String := ["java/lang/RuntimeException", "java/lang/Exception"]
def zXC (E0 : String) (D : va_G) (A : Nat → Prop) (B : List zB) : String → State → State → Prop := fun E st t => E = E0 ∧ va_P D vwCl (zW B) t.heap ∧ va_F A st t
def zT (l : Launch) (D : va_G) (tys : List (ClassId × FieldType)) (y : MethodName) (cc : ByteArray) (n : Nat) (ret : Option FieldType) (rm : Room) (as : List Value) (B : List zB) (E0 : String) : Prop :=
  ∀ sz : Nat, vx_Met l y (wz y cc n ret) rm (va_Pc as (zPre D tys sz B)) (fun _ _ _ _ => False) (zXC E0 D (va_A (zW B) sz) B) 1 6 (va_A (zW B) sz)
/-- what a throw asks of the tables -/
def zThr (own : String) (ik ic : Nat) (cls : String) : Prop := Cond.classLink own ik cls ∈ lw_all ∧ Cond.initialized cls ∈ lw_all ∧ (∀ w ∈ (vx_atS own ic cls zNM).filter goodWord, w ∈ lw_all) ∧ (∀ w ∈ (vx_atS own ic cls zNM).filter (fun w => !goodWord w), w ∈ lw_env) ∧ (∀ w ∈ (vx_atS own ic cls zNM).filter (fun w => !goodWord w), w.onTables = true) ∧ (∀ w ∈ Cond.classLink own ik cls :: Cond.initialized cls :: vx_atS own ic cls zNM, vx_ot w = true) ∧ Bundle.fit cls = true
theorem zNM_fit : ∀ n ∈ zNM, Bundle.fit n = true := by decide +kernel
section ZTHROWS
variable {p : Program} {l : Launch} {e : Env} {R : Room} {s : State} {m : MethodId} {args : Array Value} {below : List Frame} {meth : Method} {c : Code} {D : va_G} {tys : List (ClassId × FieldType)} {A : Nat → Prop} {own : String} {cc : ByteArray} {nL : Nat} {Q : State → Prop} {cells slots pc : Nat} {L L' : List (Nat × Value)} {st st' rest : List Value} {B B' : List zB}
theorem z_ofT {y : MethodName} {rm : Room} {as : List Value} {E0 : String} {maxL : Nat} {ret : Option FieldType} (hy : plainName y.cls = true) (hlen : (lg_sl as).length ≤ maxL) (hL : lv_args 0 as = L)
    (body : ∀ (p : Program) (e : Env) (s : State) (m : MethodId) (args : Array Value) (below : List Frame) (meth : Method) (c : Code) (A : Nat → Prop), zX p s m args meth c D tys A y.cls cc maxL → (∀ x ∈ c.exceptionTable.toList, False) → zK p l e rm s m args below meth c D A maxL (vx_MQ below (fun _ _ _ _ => False) (zXC E0 D A B) args s 1 6 A) 0 0 0 L [] B) : zT l D tys y cc maxL ret rm as B E0 := by
  intro sz
  refine vx_ofW (cc := cc) (maxL := maxL) (ret := ret) hy rfl ?_
  intro p e s m args below meth c s₁ BL hml htab hv
  obtain ⟨rfl, hsz, hP, hK, hD0, hE⟩ := hv
  subst hsz
  have hl := lv_entry as (n := maxL) hlen
  rw [hL] at hl
  rw [lg_entry_eq]
  have hts := atoms_spec (ws := wz y cc maxL ret) BL.pre
  exact body p e s m as.toArray below meth c (va_A (zW B) s.heap.size) ⟨BL.exec, BL.bytes, hml, findClass_of_methodNamed BL.named, fun w hw => hts w (List.mem_cons_of_mem _ hw), hK, fun q h => Or.inr h, BL.notSynchronized, hE⟩ htab s.heap [] _ hP hD0.self va_S.rf hl
theorem z_throwS (C : zX p s m args meth c D tys A own cc nL) (hl : l.stackTraces = false) (htab : ∀ x ∈ c.exceptionTable.toList, False) {cls text : String} {ik is ic : Nat} (hthr : zThr own ik ic cls) (hstr : (own, is, text) ∈ zSt) (d0 : decode cc pc = .ok (.new ik, 3)) (d3 : decode cc (pc + 3) = .ok (.dup, 1)) (d4 : decode cc (pc + 4) = .ok (.ldc is, 2)) (d6 : decode cc (pc + 6) = .ok (.invokespecial ic, 3)) (d9 : decode cc (pc + 9) = .ok (.athrow, 1))
    (hR : 6 ≤ R.frames ∧ (st.map fun v => v.category).sum + 82 ≤ R.locals ∧ 1 ≤ R.cells ∧ 6 ≤ R.slots) : zK p l e R s m args below meth c D A nL (vx_MQ below (fun _ _ _ _ => False) (zXC cls D A B) args s 1 6 A) 0 0 pc L st B := fun H locs ls hP hD hS hll => by
  obtain ⟨h1, h2, h3, h4, h5, h6, h7⟩ := hthr
  obtain ⟨sa, hsa⟩ := C.2.2.2.2.2.2.2.2.2.1 _ hstr
  refine vx_throwS (names := zNM) (A := A) C.1 C.2.1 hl C.2.2.2.1 h7 zNM_fit (C.2.2.2.2.1 _ h1) (C.2.2.2.2.1 _ h2) hsa (fun w hw => ?_) h6 C.2.2.2.2.2.2.2.2.2.2.2.1 C.2.2.2.2.2.2.2.2.2.2.2.2 hS (hll.1.trans C.2.2.1.symm) d0 d3 d4 d6 d9 (fun x hx => (htab x hx).elim) (by show 2 + 3 < R.frames; omega) (by show _ + (13 * (2 + 1) + 43) ≤ R.locals; omega) (by omega) (by omega) C.2.2.2.2.2.2.2.1 (fun t ha hz hq => ⟨rfl, zP_iff.mpr fun q hm => (zP_iff.mp hP q hm).kept (hq q.1 (zP_iff.mp hP q hm).lt), Nat.le_trans hS.1 hz, fun q g1 g2 => (hq q (Nat.lt_of_lt_of_le g1 hS.1)).trans (hS.2.1 q g1 g2)⟩) hS.2.2 (by omega) (by omega)
  by_cases hg : goodWord w = true
  · exact C.2.2.2.2.1 _ (h3 w (List.mem_filter.mpr ⟨hw, hg⟩))
  · have hm : w ∈ (vx_atS own ic cls zNM).filter (fun w => !goodWord w) := List.mem_filter.mpr ⟨hw, by simp [hg]⟩
    exact (C.2.2.2.2.2.2.2.2.1 _ (h4 w hm)).use (h5 w hm)
/-- a call that throws: what is known behind it -/
theorem z_backT {E0 : String} {a : Array Value} {H : Heap} {locs : List Loc} {ls : Array Slot} {st0 : List Value} (hAq : ∀ q : Nat, s.heap.size ≤ q → A q) (msk : List Bool) (hBp : zPut msk B (zPick msk B) = B) (hP : va_P D vwCl (zW B) H) (hD : va_D A (zW B)) (hS : va_S A s.heap H locs) (hl : lv_has ls nL L)
    (hr : vx_Run p l e R s m args below meth c H locs cells slots 1 6 (F0 m pc ls st0) rest (fun _ _ _ => False) (zXC E0 D (va_A (zW (zPick msk B)) H.size) (zPick msk B)) (va_A (zW (zPick msk B)) H.size))
    (kk : ∀ (q : Addr) (ce : Cell) (H1 : Heap) (locs1 : List Loc), va_P D vwCl (zW B) H1 → va_S A s.heap H1 locs1 → H1[q]? = some ce → ce.vm = .none → s.vm.findClass E0 = some ce.cls → vx_W p l e R s m args below meth c H1 locs1 (cells + 1) (slots + 6) Q (F0 m pc ls rest) q) : W p l e R s m args below meth c H locs cells slots Q (F0 m pc ls st0) := by
  obtain ⟨hPc, hDc, hF⟩ := z_pick msk hP hD hS hAq
  intro T hT X
  rcases hr T hT X with ⟨v, st₀, t, T', Lc, h0, X', hLc, e1, e2, hq, stp⟩ | ⟨q, st₀, t, T', Lc, E, ce, h0, X', hLc, e1, e2, ⟨rfl, hP1, hz, hk⟩, hce, hcv, hcl, stp⟩
  · exact hq.elim
  · rw [h0] at hz hk
    rw [← e1] at hP1 hz hk hce
    obtain ⟨hP2, -⟩ := z_join msk hP hD hk hF hP1 hDc.self
    rw [hBp] at hP2
    obtain ⟨t2, a1, b1⟩ := kk q ce T'.heap (locs ++ Lc) hP2 ⟨Nat.le_trans hS.1 hz, fun q h1 h2 => by
        rw [hk q (Nat.lt_of_lt_of_le h1 hS.1) (fun z => h2 (hF q z))]
        exact hS.2.1 q h1 h2, fun q hq => by
        rcases List.mem_append.mp hq with h | h
        · exact hS.2.2 q h
        · exact hF _ (hLc q h)⟩ hce hcv hcl T' rfl X'
    exact ⟨t2, stp.trans a1, b1⟩
theorem z_tV (C : zX p s m args meth c D tys A own cc nL) (htab : ∀ x ∈ c.exceptionTable.toList, False) {y : MethodName} {bytes : ByteArray} {maxL n index : Nat} {ret : Option FieldType} {rm : Room} {E0 : String} {As : List Value} {Bc : List zB} {b : Nat} (msk : List Bool) (hBc : zPick msk B = Bc) (hBp : zPut msk B Bc = B) (hM : zT l D tys y bytes maxL ret rm (.ref b :: As) Bc E0) (hcal : zCal y bytes maxL ret n) (hlink : Cond.methodLink own index y ∈ lw_all) (hinst : Cond.instanceMethod y ∈ lw_all ∧ Cond.selects y.cls y y ∈ lw_all) (hR : rm.cells = 1 ∧ rm.slots = 6 ∧ rm.frames + 1 ≤ R.frames ∧ 8 + (maxL + 11) + rm.locals ≤ R.locals)
    (bi : Nat) {sh : List (Nat × zS)} {σ : zF} (hbi : B[bi]? = some (sh, σ)) (q : Nat) {fs : List (Option Nat)} {ci : Nat} {T : u_T} {N : Nat} (hq : sh[q]? = some (b, .inr (.inl (ci, fs)))) (hc : vwCl[ci]? = some (y.cls, T, N))
    (hst : st = As.reverse ++ .ref b :: rest) (hn : As.length = n) (hcat : (rest.map fun v => v.category).sum ≤ 8) (hdg : decode cc pc = .ok (.invokevirtual index, 3)) (hf : 1 ≤ R.cells ∧ 6 ≤ R.slots) : zK p l e R s m args below meth c D A nL (vx_MQ below (fun _ _ _ _ => False) (zXC E0 D A B) args s 1 6 A) 0 0 pc L st B := fun H locs ls hP hD hS hl => by
  subst hBc
  subst hst
  obtain ⟨hPc, hDc, hF⟩ := z_pick msk hP hD hS C.2.2.2.2.2.2.1
  obtain ⟨q0, h1, -⟩ := zW_at B bi hbi hq
  refine z_backT (a := (Value.ref b :: As).toArray) C.2.2.2.2.2.2.1 msk hBp hP hD hS hl (vx_runV (As := As) (rest := rest) ⟨C.1, C.2.1, C.2.2.1, C.2.2.2.1, C.2.2.2.2.1⟩ (hM H.size) (cwV n C.2.2.2.2.1 (zg_V hlink hinst.1 hinst.2 hcal.2.1 hcal.ws) rfl hR.1 hR.2.1 ⟨rfl, hcal.2.2⟩ hR.2.2) ⟨zPre_blind, va_recv C.2.2.2.2.2.1 hP hc h1, fun U hU hW => ⟨rfl, by rw [hU], by rw [hU]; exact hPc, va_K.moved hW.alike C.2.2.2.2.2.1, hDc, by rw [hU]; exact C.2.2.2.2.2.2.2.2.go hW hS.2.1 hF⟩⟩ rfl hn hl.1 rfl (lv_room hcat) hdg ⟨by omega, by omega⟩) (fun q ce H1 locs1 hP1 hS1 hce hcv hcl => ?_)
  exact vx_out (fun x hx => (htab x hx).elim) C.2.2.2.2.2.2.2.1 hce hcv hcl (fun t ht ha => ⟨rfl, by rw [ht]; exact hP1, hS1.F ht⟩) hS1.2.2 (by omega) (by omega)
/-- a call that throws, and a row of the table that takes it -/
theorem z_catchV (C : zX p s m args meth c D tys A own cc nL) {y : MethodName} {bytes : ByteArray} {maxL n index : Nat} {ret : Option FieldType} {rm : Room} {E0 : String} {As : List Value} {Bc : List zB} {b : Nat} (msk : List Bool) (hBc : zPick msk B = Bc) (hBp : zPut msk B Bc = B) (hM : zT l D tys y bytes maxL ret rm (.ref b :: As) Bc E0) (hcal : zCal y bytes maxL ret n) (hlink : Cond.methodLink own index y ∈ lw_all) (hinst : Cond.instanceMethod y ∈ lw_all ∧ Cond.selects y.cls y y ∈ lw_all) (hR : rm.cells = 1 ∧ rm.slots = 6 ∧ rm.frames + 1 ≤ R.frames ∧ 8 + (maxL + 11) + rm.locals ≤ R.locals)
    (bi : Nat) {sh : List (Nat × zS)} {σ : zF} (hbi : B[bi]? = some (sh, σ)) (q : Nat) {fs : List (Option Nat)} {ci : Nat} {T : u_T} {N : Nat} (hq : sh[q]? = some (b, .inr (.inl (ci, fs)))) (hc : vwCl[ci]? = some (y.cls, T, N))
    (hst : st = As.reverse ++ .ref b :: rest) (hn : As.length = n) (hcat : (rest.map fun v => v.category).sum ≤ 8) (hdg : decode cc pc = .ok (.invokevirtual index, 3)) (hf : cells + 1 ≤ R.cells ∧ slots + 6 ≤ R.slots)
    (pre : List ExceptionTableEntry) (x : ExceptionTableEntry) (suf : List ExceptionTableEntry) (hsplit : c.exceptionTable.toList = pre ++ x :: suf) (hpass : ∀ z ∈ pre, covers z pc = false ∨ (z.catchType ≠ 0 ∧ ∃ nm : String, Cond.classLink own z.catchType nm ∈ lw_all ∧ (E0, nm) ∈ zNcL)) (hx : covers x pc = true) (h0 : x.catchType ≠ 0) (hlk : Cond.classLink own x.catchType E0 ∈ lw_all) (hcast : Cond.castable E0 E0 ∈ lw_env)
    (kk : ∀ q : Nat, zK p l e R s m args below meth c D A nL Q (cells + 1) (slots + 6) x.handlerPc L [.ref q] B) : zK p l e R s m args below meth c D A nL Q cells slots pc L st B := fun H locs ls hP hD hS hl => by
  subst hBc
  subst hst
  obtain ⟨hPc, hDc, hF⟩ := z_pick msk hP hD hS C.2.2.2.2.2.2.1
  obtain ⟨q0, h1, -⟩ := zW_at B bi hbi hq
  refine z_backT (a := (Value.ref b :: As).toArray) C.2.2.2.2.2.2.1 msk hBp hP hD hS hl (vx_runV (As := As) (rest := rest) ⟨C.1, C.2.1, C.2.2.1, C.2.2.2.1, C.2.2.2.2.1⟩ (hM H.size) (cwV n C.2.2.2.2.1 (zg_V hlink hinst.1 hinst.2 hcal.2.1 hcal.ws) rfl hR.1 hR.2.1 ⟨rfl, hcal.2.2⟩ hR.2.2) ⟨zPre_blind, va_recv C.2.2.2.2.2.1 hP hc h1, fun U hU hW => ⟨rfl, by rw [hU], by rw [hU]; exact hPc, va_K.moved hW.alike C.2.2.2.2.2.1, hDc, by rw [hU]; exact C.2.2.2.2.2.2.2.2.go hW hS.2.1 hF⟩⟩ rfl hn hl.1 rfl (lv_room hcat) hdg hf) (fun q ce H1 locs1 hP1 hS1 hce hcv hcl => ?_)
  exact vx_catch C.2.2.2.1 pre x suf hsplit (fun z hz => by
    rcases hpass z hz with g | ⟨g1, nm, g2, g3⟩
    · exact Or.inl g
    · exact Or.inr ⟨g1, nm, C.2.2.2.2.1 _ g2, C.2.2.2.2.2.2.2.2.2.2.1 _ g3⟩) hx h0 (C.2.2.2.2.1 _ hlk) ((C.2.2.2.2.2.2.2.2.1 _ hcast).use rfl) hce hcv hcl (kk q H1 locs1 ls hP1 hD hS1 hl)
/-- a method with a table of handlers -/
abbrev wzH (y : MethodName) (cc : ByteArray) (n : Nat) (ret : Option FieldType) (hh : List (Nat × Nat × Nat × Nat)) : List Cond := Cond.codeWith y cc n ret hh :: lw_all
def zMH (l : Launch) (D : va_G) (tys : List (ClassId × FieldType)) (y : MethodName) (cc : ByteArray) (n : Nat) (ret : Option FieldType) (hh : List (Nat × Nat × Nat × Nat)) (rm : Room) (as : List Value) (B : List zB) (mc ms : Nat) (post : Option Value → List zB → Prop) : Prop :=
  ∀ sz : Nat, Met l y (wzH y cc n ret hh) rm (va_Pc as (zPre D tys sz B)) (zQ post D tys (va_A (zW B) sz)) mc ms (va_A (zW B) sz)
theorem z_ofH {y : MethodName} {rm : Room} {as : List Value} {mc ms : Nat} {post : Option Value → List zB → Prop} {maxL : Nat} {ret : Option FieldType} {hh : List (Nat × Nat × Nat × Nat)} (hy : plainName y.cls = true) (hlen : (lg_sl as).length ≤ maxL) (hL : lv_args 0 as = L)
    (body : ∀ (p : Program) (e : Env) (s : State) (m : MethodId) (args : Array Value) (below : List Frame) (meth : Method) (c : Code) (A : Nat → Prop), zX p s m args meth c D tys A y.cls cc maxL → meth.sig.returnType = ret → c.exceptionTable.toList = tableOf hh → zK p l e rm s m args below meth c D A maxL (MQ below (zQ post D tys A) args s mc ms A) 0 0 0 L [] B) : zMH l D tys y cc maxL ret hh rm as B mc ms post := by
  intro sz
  refine MetFree.of_bodyS (code := cc) (maxLocals := maxL) (ret := ret) hy ?_ ?_
  · intro args s m h hn
    obtain ⟨m9, meth, c, hn9, h1, h2, h3, h4, -, h5, h6, -⟩ := Cond.codeWith_spec (atoms_spec (ws := wzH y cc maxL ret hh) h _ List.mem_cons_self)
    cases hn.symm.trans hn9
    exact ⟨meth, c, h1, h2, h3, h4, h5, h6⟩
  · intro p e s m args below meth c s₁ BL hml hv _
    have hh0 : s₁.heap = s.heap := by rw [BL.state]; rfl
    obtain ⟨rfl, hsz, hP, hK, hD0, hE⟩ := hv
    subst hsz
    have hl := lv_entry as (n := maxL) hlen
    rw [hL] at hl
    have hts := atoms_spec (ws := wzH y cc maxL ret hh) BL.pre
    have key : W p l e rm s m as.toArray below meth c s.heap [] 0 0 (MQ below (zQ post D tys (va_A (zW B) s.heap.size)) as.toArray s mc ms (va_A (zW B) s.heap.size)) (entryFrame m as.toArray maxL) := by
      rw [lg_entry_eq]
      exact body p e s m as.toArray below meth c (va_A (zW B) s.heap.size) ⟨BL.exec, BL.bytes, hml, findClass_of_methodNamed BL.named, fun w hw => hts w (List.mem_cons_of_mem _ hw), hK, fun q h => Or.inr h, BL.notSynchronized, hE⟩ BL.returns (vx_table (x := y) BL (hts _ List.mem_cons_self)) s.heap [] _ hP hD0.self va_S.rf hl
    obtain ⟨t, a1, o, b1, b2, b3⟩ := key s₁ hh0 (Stand.of_body BL)
    exact ⟨t, o, a1, b1, b2, ⟨b3.1, b3.2⟩⟩
theorem z_callSH (C : zX p s m args meth c D tys A own cc nL) {y : MethodName} {bytes : ByteArray} {maxL mc ms n index : Nat} {ret : Option FieldType} {hh : List (Nat × Nat × Nat × Nat)} {rm : Room} {r0 : Option Value} {u0 : List zB} {As : List Value} {Bc : List zB} (msk : List Bool) (hBc : zPick msk B = Bc) (hM : zMH l D tys y bytes maxL ret hh rm As Bc mc ms (fun r u => r = r0 ∧ u = u0)) (hcode : Cond.codeWith y bytes maxL ret hh ∈ lw_all) (hini : Cond.initialized y.cls ∈ lw_all) (hnm : y.cls ≠ "java/lang/invoke/MethodHandle" ∧ y.cls ≠ "java/lang/invoke/VarHandle" ∧ (parseMethodDescriptor y.desc).map (fun d => d.parameters.length) = some n) (hlink : Cond.methodLink own index y ∈ lw_all) (hstat : Cond.static y ∈ lw_all) (hR : rm.cells = mc ∧ rm.slots = ms ∧ rm.frames + 1 ≤ R.frames ∧ 8 + (maxL + 11) + rm.locals ≤ R.locals)
    (hst : st = As.reverse ++ rest) (hn : As.length = n) (hcat : (rest.map fun v => v.category).sum ≤ 8) (hdg : decode cc pc = .ok (.invokestatic index, 3)) (hf : cells + mc ≤ R.cells ∧ slots + ms ≤ R.slots) (hst' : r0.toList ++ rest = st') (hB' : zPut msk B u0 = B')
    (kk : zK p l e R s m args below meth c D A nL Q (cells + mc) (slots + ms) (pc + 3) L st' B') : zK p l e R s m args below meth c D A nL Q cells slots pc L st B := fun H locs ls hP hD hS hl => by
  subst hBc
  subst hst
  obtain ⟨hPc, hDc, hF⟩ := z_pick msk hP hD hS C.2.2.2.2.2.2.1
  refine z_back (post := fun r u => r = r0 ∧ u = u0) (a := As.toArray) C.2.2.2.2.2.1 C.2.2.2.2.2.2.1 msk hP hD hS hl (vx_runSW (As := As) (rest := rest) ⟨C.1, C.2.1, C.2.2.1, C.2.2.2.1, C.2.2.2.2.1⟩ (hM H.size) (vx_cwSW n C.2.2.2.2.1 (zg_S hlink hstat hini (fun w hw => by
    rcases List.mem_cons.mp hw with rfl | hw
    · exact hcode
    · exact hw)) rfl hR.1 hR.2.1 hnm hR.2.2) ⟨zPre_blind, fun U hU hW => ⟨rfl, by rw [hU], by rw [hU]; exact hPc, va_K.moved hW.alike C.2.2.2.2.2.1, hDc, by rw [hU]; exact C.2.2.2.2.2.2.2.2.go hW hS.2.1 hF⟩⟩ rfl hn hl.1 rfl (lv_room hcat) hdg hf) (fun r u h => ?_)
  obtain ⟨rfl, rfl⟩ := h
  subst hst'
  subst hB'
  exact kk
end ZTHROWS
