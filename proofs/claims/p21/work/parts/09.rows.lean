/-! more rows: calls whose answer is known, least and greatest, switches -/
theorem nar_0 : narrow .boolean (.int (nI 0)) = .int (nI 0) := by first | rfl | decide | simp [narrow]
theorem nar_1 : narrow .boolean (.int (nI 1)) = .int (nI 1) := by first | rfl | decide | simp [narrow]
theorem zb_nar (b : Bool) : narrow .boolean (.int (zb b)) = .int (zb b) := by cases b <;> first | exact nar_0 | exact nar_1
theorem vp_0 : vp_nar .boolean (nI 0) = nI 0 := by first | rfl | decide | simp [vp_nar, nar_0]
theorem vp_1 : vp_nar .boolean (nI 1) = nI 1 := by first | rfl | decide | simp [vp_nar, nar_1]
theorem nI_minE {a b : Nat} (ha : a < 2 ^ 31) (hb : b < 2 ^ 31) : (if nI b < nI a then nI b else nI a) = nI (min a b) := by
  by_cases h : b < a
  · rw [if_pos ((nI_ltI hb ha).mpr h), Nat.min_eq_right (Nat.le_of_lt h)]
  · rw [if_neg (fun q => h ((nI_ltI hb ha).mp q)), Nat.min_eq_left (Nat.le_of_not_lt h)]
theorem nI_maxE {a b : Nat} (ha : a < 2 ^ 31) (hb : b < 2 ^ 31) : (if nI a < nI b then nI b else nI a) = nI (max a b) := by
  by_cases h : a < b
  · rw [if_pos ((nI_ltI ha hb).mpr h), Nat.max_eq_right (Nat.le_of_lt h)]
  · rw [if_neg (fun q => h ((nI_ltI ha hb).mp q)), Nat.max_eq_left (Nat.le_of_not_lt h)]
abbrev zR (f w : Nat) : Room := { frames := f, cells := 0, slots := 0, locals := w }
abbrev tyL (cI cZ cB cE : ClassId) : List (ClassId × FieldType) := [(cI, .int), (cZ, .boolean), (cB, .object "FleetTermsLaw$Boat"), (cE, .array .int)]
/-- the cells of a fleet of the class, and of a state of the reference -/
def shF (a : Nat → Nat) (cI cZ : ClassId) : List (Nat × zS) := [(a 0, .inr (.inl (0, [none, none, none, none, none, some (a 1), some (a 2), some (a 3), some (a 4), some (a 5), some (a 6), some (a 7), some (a 12)]))), (a 1, .inl (cI, 7)), (a 2, .inl (cI, 7)), (a 3, .inl (cI, 7)), (a 4, .inl (cI, 7)), (a 5, .inl (cI, 7)), (a 6, .inl (cI, 7)), (a 7, .inl (cZ, 7)), (a 8, .inl (cI, 7)), (a 9, .inl (cI, 7)), (a 10, .inl (cI, 70)), (a 11, .inl (cI, 70)), (a 12, .inr (.inl (1, [some (a 8), some (a 9), some (a 10), some (a 11)])))]
section ZROWS2
variable {p : Program} {l : Launch} {e : Env} {R : Room} {s : State} {m : MethodId} {args : Array Value} {below : List Frame} {meth : Method} {c : Code} {D : va_G} {tys : List (ClassId × FieldType)} {A : Nat → Prop} {own : String} {cc : ByteArray} {nL : Nat} {Q : State → Prop} {cells slots pc : Nat} {L L' : List (Nat × Value)} {st st' rest : List Value} {B B' : List zB}
theorem z_cV (C : zX p s m args meth c D tys A own cc nL) {y : MethodName} {bytes : ByteArray} {maxL n index : Nat} {ret : Option FieldType} {rm : Room} {r0 : Option Value} {u0 : List zB} {As : List Value} {Bc : List zB} {b : Nat} (msk : List Bool) (hBc : zPick msk B = Bc) (hM : zM l D tys y bytes maxL ret rm (.ref b :: As) Bc 0 0 (fun r u => r = r0 ∧ u = u0)) (hcal : zCal y bytes maxL ret n) (hlink : Cond.methodLink own index y ∈ lw_all) (hinst : Cond.instanceMethod y ∈ lw_all ∧ Cond.selects y.cls y y ∈ lw_all) (hR : rm.cells = 0 ∧ rm.slots = 0 ∧ rm.frames + 1 ≤ R.frames ∧ 8 + (maxL + 11) + rm.locals ≤ R.locals)
    (bi : Nat) {sh : List (Nat × zS)} {σ : zF} (hbi : B[bi]? = some (sh, σ)) (q : Nat) {fs : List (Option Nat)} {ci : Nat} {T : u_T} {N : Nat} (hq : sh[q]? = some (b, .inr (.inl (ci, fs)))) (hc : vwCl[ci]? = some (y.cls, T, N))
    (hst : st = As.reverse ++ .ref b :: rest) (hn : As.length = n) (hcat : (rest.map fun v => v.category).sum ≤ 8) (hdg : decode cc pc = .ok (.invokevirtual index, 3)) (hf : cells ≤ R.cells ∧ slots ≤ R.slots) (hst' : r0.toList ++ rest = st') (hB' : zPut msk B u0 = B')
    (kk : zK p l e R s m args below meth c D A nL Q cells slots (pc + 3) L st' B') : zK p l e R s m args below meth c D A nL Q cells slots pc L st B :=
  z_callV C msk hBc hM hcal hlink hinst hR bi hbi q hq hc hst hn hcat hdg hf (fun r u h => by
    obtain ⟨rfl, rfl⟩ := h
    subst hst'
    subst hB'
    exact kk)
theorem z_cS (C : zX p s m args meth c D tys A own cc nL) {y : MethodName} {bytes : ByteArray} {maxL n index : Nat} {ret : Option FieldType} {rm : Room} {r0 : Option Value} {u0 : List zB} {As : List Value} {Bc : List zB} (msk : List Bool) (hBc : zPick msk B = Bc) (hM : zM l D tys y bytes maxL ret rm As Bc 0 0 (fun r u => r = r0 ∧ u = u0)) (hcal : zCal y bytes maxL ret n) (hlink : Cond.methodLink own index y ∈ lw_all) (hstat : Cond.static y ∈ lw_all) (hR : rm.cells = 0 ∧ rm.slots = 0 ∧ rm.frames + 1 ≤ R.frames ∧ 8 + (maxL + 11) + rm.locals ≤ R.locals)
    (hst : st = As.reverse ++ rest) (hn : As.length = n) (hcat : (rest.map fun v => v.category).sum ≤ 8) (hdg : decode cc pc = .ok (.invokestatic index, 3)) (hf : cells ≤ R.cells ∧ slots ≤ R.slots) (hst' : r0.toList ++ rest = st') (hB' : zPut msk B u0 = B')
    (kk : zK p l e R s m args below meth c D A nL Q cells slots (pc + 3) L st' B') : zK p l e R s m args below meth c D A nL Q cells slots pc L st B :=
  z_callS C msk hBc hM hcal hlink hstat hR hst hn hcat hdg hf (fun r u h => by
    obtain ⟨rfl, rfl⟩ := h
    subst hst'
    subst hB'
    exact kk)
theorem z_mminN (C : zX p s m args meth c D tys A own cc nL) {index a b : Nat} (h1 : Cond.methodLink own index Lib.Math.min.name ∈ lw_all) (h2 : Cond.static Lib.Math.min.name ∈ lw_all) (h3 : Cond.initialized "java/lang/Math" ∈ lw_all) (h4 : Cond.code Lib.Math.min.name Lib.Math.min.code 2 (some .int) ∈ lw_all) (hR : 1 ≤ R.frames ∧ (st.map fun v => v.category).sum + 13 ≤ R.locals ∧ cells ≤ R.cells ∧ slots ≤ R.slots) (hdg : decode cc pc = .ok (.invokestatic index, 3)) (ha : a < 2 ^ 31) (hb : b < 2 ^ 31) (k : zK p l e R s m args below meth c D A nL Q cells slots (pc + 3) L (.int (nI (min a b)) :: st) B) : zK p l e R s m args below meth c D A nL Q cells slots pc L (.int (nI b) :: .int (nI a) :: st) B := z_mmin C h1 h2 h3 h4 hR hdg (z_top (nI_minE ha hb) k)
theorem z_mmaxN (C : zX p s m args meth c D tys A own cc nL) {index a b : Nat} (h1 : Cond.methodLink own index Lib.Math.max.name ∈ lw_all) (h2 : Cond.static Lib.Math.max.name ∈ lw_all) (h3 : Cond.initialized "java/lang/Math" ∈ lw_all) (h4 : Cond.code Lib.Math.max.name Lib.Math.max.code 2 (some .int) ∈ lw_all) (hR : 1 ≤ R.frames ∧ (st.map fun v => v.category).sum + 13 ≤ R.locals ∧ cells ≤ R.cells ∧ slots ≤ R.slots) (hdg : decode cc pc = .ok (.invokestatic index, 3)) (ha : a < 2 ^ 31) (hb : b < 2 ^ 31) (k : zK p l e R s m args below meth c D A nL Q cells slots (pc + 3) L (.int (nI (max a b)) :: st) B) : zK p l e R s m args below meth c D A nL Q cells slots pc L (.int (nI b) :: .int (nI a) :: st) B := z_mmax C h1 h2 h3 h4 hR hdg (z_top (nI_maxE ha hb) k)
theorem z_tabI (C : zX p s m args meth c D tys A own cc nL) {dflt lo hi : Int} {offs : Array Int} {len : Nat} {x : Int32} {off : Int} {tgt : Nat} (hdg : decode cc pc = .ok (.tableswitch dflt lo hi offs, len)) (h1 : ¬ x.toInt < lo) (h2 : ¬ hi < x.toInt) (ho : offs[(x.toInt - lo).toNat]? = some off) (ht : (pc : Int) + off = (tgt : Int)) (k : zK p l e R s m args below meth c D A nL Q cells slots tgt L st B) : zK p l e R s m args below meth c D A nL Q cells slots pc L (.int x :: st) B := fun H locs ls hP hD hS hl => lv_tableIn C.1 C.2.1 hdg h1 h2 ho ht (k H locs ls hP hD hS hl)
theorem z_tabO (C : zX p s m args meth c D tys A own cc nL) {dflt lo hi : Int} {offs : Array Int} {len : Nat} {x : Int32} {tgt : Nat} (hdg : decode cc pc = .ok (.tableswitch dflt lo hi offs, len)) (h : x.toInt < lo ∨ hi < x.toInt) (ht : (pc : Int) + dflt = (tgt : Int)) (k : zK p l e R s m args below meth c D A nL Q cells slots tgt L st B) : zK p l e R s m args below meth c D A nL Q cells slots pc L (.int x :: st) B := fun H locs ls hP hD hS hl => lv_tableOut C.1 C.2.1 hdg h ht (k H locs ls hP hD hS hl)
theorem z_look (C : zX p s m args meth c D tys A own cc nL) {dflt : Int} {ps : Array (Int × Int)} {len : Nat} {x : Int32} {off : Int} {tgt : Nat} (hdg : decode cc pc = .ok (.lookupswitch dflt ps, len)) (hp : (ps.toList.zip (ps.toList.drop 1)).all (fun (a, next) => a.1 < next.1) = true) (ho : Op.lookupswitch.offset ps.toList dflt x.toInt = off) (ht : (pc : Int) + off = (tgt : Int)) (k : zK p l e R s m args below meth c D A nL Q cells slots tgt L st B) : zK p l e R s m args below meth c D A nL Q cells slots pc L (.int x :: st) B := fun H locs ls hP hD hS hl => lv_lookup C.1 C.2.1 hdg hp ho ht (k H locs ls hP hD hS hl)
end ZROWS2
theorem ws_min : Cond.static Lib.Math.min.name ∈ lw_all := ws_yJ9_min_7cf53
theorem ws_max : Cond.static Lib.Math.max.name ∈ lw_all := ws_yJ9_max_7cf53
theorem wk_min : Cond.code Lib.Math.min.name Lib.Math.min.code 2 (some .int) ∈ lw_all := wk_yJ9_min_7cf53
theorem wk_max : Cond.code Lib.Math.max.name Lib.Math.max.code 2 (some .int) ∈ lw_all := wk_yJ9_max_7cf53
