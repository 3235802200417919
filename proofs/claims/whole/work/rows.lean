section
-- ===== PART A: goes FIRST, ahead of the names: the tables' words, and 'selects' of the private methods out of them =====
/-- a private method of a class that the tables say can be made, by its rows of tables_1 -/
def lw_okq (q : MethodName × Nat) : Prop := (q.1.cls ≠ "java/lang/invoke/MethodHandle" ∧ q.1.cls ≠ "java/lang/invoke/VarHandle") ∧ Cond.instantiable q.1.cls q.2 ∈ tables_1 ∧ Cond.privateMethod q.1 ∈ tables_1 ∧ Cond.instanceMethod q.1 ∈ tables_1
theorem lw_p0 : lw_okq (⟨"FleetTerms", "digestOfBoat", "(JI)J"⟩, 2) := ⟨⟨by decide +kernel, by decide +kernel⟩, List.mem_of_getElem? (i := 15) (by decide +kernel), List.mem_of_getElem? (i := 284) (by decide +kernel), List.mem_of_getElem? (i := 285) (by decide +kernel)⟩
theorem lw_p1 : lw_okq (⟨"java/lang/Throwable", "fillInStackTrace", "(I)Ljava/lang/Throwable;"⟩, 6) := ⟨⟨by decide +kernel, by decide +kernel⟩, List.mem_of_getElem? (i := 348) (by decide +kernel), List.mem_of_getElem? (i := 346) (by decide +kernel), List.mem_of_getElem? (i := 347) (by decide +kernel)⟩
theorem lw_p2 : lw_okq (⟨"FleetTerms", "needBoat", "(I)V"⟩, 2) := ⟨⟨by decide +kernel, by decide +kernel⟩, List.mem_of_getElem? (i := 15) (by decide +kernel), List.mem_of_getElem? (i := 386) (by decide +kernel), List.mem_of_getElem? (i := 387) (by decide +kernel)⟩
theorem lw_p3 : lw_okq (⟨"FleetTerms", "needBelow", "(II)V"⟩, 2) := ⟨⟨by decide +kernel, by decide +kernel⟩, List.mem_of_getElem? (i := 15) (by decide +kernel), List.mem_of_getElem? (i := 414) (by decide +kernel), List.mem_of_getElem? (i := 415) (by decide +kernel)⟩
theorem lw_p4 : lw_okq (⟨"FleetTerms", "needHours", "(II)V"⟩, 2) := ⟨⟨by decide +kernel, by decide +kernel⟩, List.mem_of_getElem? (i := 15) (by decide +kernel), List.mem_of_getElem? (i := 464) (by decide +kernel), List.mem_of_getElem? (i := 465) (by decide +kernel)⟩
theorem lw_p5 : lw_okq (⟨"FleetTermsModel", "no", "(I)I"⟩, 3) := ⟨⟨by decide +kernel, by decide +kernel⟩, List.mem_of_getElem? (i := 536) (by decide +kernel), List.mem_of_getElem? (i := 635) (by decide +kernel), List.mem_of_getElem? (i := 636) (by decide +kernel)⟩
theorem lw_p6 : lw_okq (⟨"FleetTermsModel", "isBoat", "(I)Z"⟩, 3) := ⟨⟨by decide +kernel, by decide +kernel⟩, List.mem_of_getElem? (i := 536) (by decide +kernel), List.mem_of_getElem? (i := 644) (by decide +kernel), List.mem_of_getElem? (i := 645) (by decide +kernel)⟩
theorem lw_p7 : lw_okq (⟨"FleetTermsModel$State", "stand", "(I)V"⟩, 16) := ⟨⟨by decide +kernel, by decide +kernel⟩, List.mem_of_getElem? (i := 542) (by decide +kernel), List.mem_of_getElem? (i := 680) (by decide +kernel), List.mem_of_getElem? (i := 681) (by decide +kernel)⟩
theorem lw_p8 : lw_okq (⟨"FleetTermsModel$State", "hearOf", "(II)V"⟩, 16) := ⟨⟨by decide +kernel, by decide +kernel⟩, List.mem_of_getElem? (i := 542) (by decide +kernel), List.mem_of_getElem? (i := 688) (by decide +kernel), List.mem_of_getElem? (i := 689) (by decide +kernel)⟩
theorem lw_p9 : lw_okq (⟨"FleetTermsModel$State", "tell", "(I)V"⟩, 16) := ⟨⟨by decide +kernel, by decide +kernel⟩, List.mem_of_getElem? (i := 542) (by decide +kernel), List.mem_of_getElem? (i := 705) (by decide +kernel), List.mem_of_getElem? (i := 706) (by decide +kernel)⟩
theorem lw_p10 : lw_okq (⟨"FleetTermsModel$State", "takeFrom", "(II)V"⟩, 16) := ⟨⟨by decide +kernel, by decide +kernel⟩, List.mem_of_getElem? (i := 542) (by decide +kernel), List.mem_of_getElem? (i := 709) (by decide +kernel), List.mem_of_getElem? (i := 710) (by decide +kernel)⟩
theorem lw_p11 : lw_okq (⟨"FleetTermsModel$State", "commit", "(I)V"⟩, 16) := ⟨⟨by decide +kernel, by decide +kernel⟩, List.mem_of_getElem? (i := 542) (by decide +kernel), List.mem_of_getElem? (i := 720) (by decide +kernel), List.mem_of_getElem? (i := 721) (by decide +kernel)⟩
theorem lw_p12 : lw_okq (⟨"FleetTermsModel", "boatTold", "(II)I"⟩, 3) := ⟨⟨by decide +kernel, by decide +kernel⟩, List.mem_of_getElem? (i := 536) (by decide +kernel), List.mem_of_getElem? (i := 728) (by decide +kernel), List.mem_of_getElem? (i := 729) (by decide +kernel)⟩
theorem lw_p13 : lw_okq (⟨"FleetTermsModel", "entryTold", "(III)I"⟩, 3) := ⟨⟨by decide +kernel, by decide +kernel⟩, List.mem_of_getElem? (i := 536) (by decide +kernel), List.mem_of_getElem? (i := 737) (by decide +kernel), List.mem_of_getElem? (i := 738) (by decide +kernel)⟩
theorem lw_p14 : lw_okq (⟨"FleetTermsModel", "harbourTold", "(II)I"⟩, 3) := ⟨⟨by decide +kernel, by decide +kernel⟩, List.mem_of_getElem? (i := 536) (by decide +kernel), List.mem_of_getElem? (i := 767) (by decide +kernel), List.mem_of_getElem? (i := 768) (by decide +kernel)⟩
def lw_privs_1 : List (MethodName × Nat) := [(⟨"FleetTerms", "digestOfBoat", "(JI)J"⟩, 2), (⟨"java/lang/Throwable", "fillInStackTrace", "(I)Ljava/lang/Throwable;"⟩, 6), (⟨"FleetTerms", "needBoat", "(I)V"⟩, 2), (⟨"FleetTerms", "needBelow", "(II)V"⟩, 2), (⟨"FleetTerms", "needHours", "(II)V"⟩, 2), (⟨"FleetTermsModel", "no", "(I)I"⟩, 3), (⟨"FleetTermsModel", "isBoat", "(I)Z"⟩, 3), (⟨"FleetTermsModel$State", "stand", "(I)V"⟩, 16), (⟨"FleetTermsModel$State", "hearOf", "(II)V"⟩, 16), (⟨"FleetTermsModel$State", "tell", "(I)V"⟩, 16), (⟨"FleetTermsModel$State", "takeFrom", "(II)V"⟩, 16), (⟨"FleetTermsModel$State", "commit", "(I)V"⟩, 16), (⟨"FleetTermsModel", "boatTold", "(II)I"⟩, 3), (⟨"FleetTermsModel", "entryTold", "(III)I"⟩, 3), (⟨"FleetTermsModel", "harbourTold", "(II)I"⟩, 3)]
theorem lw_r1 : ∀ q ∈ lw_privs_1, lw_okq q := List.forall_mem_cons.mpr ⟨lw_p0, List.forall_mem_cons.mpr ⟨lw_p1, List.forall_mem_cons.mpr ⟨lw_p2, List.forall_mem_cons.mpr ⟨lw_p3, List.forall_mem_cons.mpr ⟨lw_p4, List.forall_mem_cons.mpr ⟨lw_p5, List.forall_mem_cons.mpr ⟨lw_p6, List.forall_mem_cons.mpr ⟨lw_p7, List.forall_mem_cons.mpr ⟨lw_p8, List.forall_mem_cons.mpr ⟨lw_p9, List.forall_mem_cons.mpr ⟨lw_p10, List.forall_mem_cons.mpr ⟨lw_p11, List.forall_mem_cons.mpr ⟨lw_p12, List.forall_mem_cons.mpr ⟨lw_p13, List.forall_mem_cons.mpr ⟨lw_p14, fun _ h => absurd h List.not_mem_nil⟩⟩⟩⟩⟩⟩⟩⟩⟩⟩⟩⟩⟩⟩⟩
def lw_privs : List (MethodName × Nat) := lw_privs_1
def lw_tbl : List Cond := k2_sels lw_privs ++ tables_1
theorem lw_privs_ok : ∀ q ∈ lw_privs, lw_okq q := lw_r1
/-- the streams that the claim lets the run draw from -/
abbrev lw_cs : List Choice := [Jvm.Choice.named "NaN.bits"]
theorem lw_bits : nanBits ∈ lw_cs := by first | decide | exact List.mem_cons_self | simp [lw_cs, nanBits]
-- ===== end of PART A; then your names; then what follows =====
end
section
/-! ===== BEGIN words of one list among another's, by their places ===== -/
theorem goodIn_r {big : List Cond} (ws : List Cond) (ps : List Nat) (hp : ws = ps.filterMap (fun i => big[i]?)) (h : ws.all goodWord = true) : GoodIn big ws := by
  intro w hw
  have h1 := List.all_eq_true.mp h w hw
  rw [hp] at hw
  obtain ⟨i, -, hi⟩ := List.mem_filterMap.mp hw
  have hm : w ∈ big := by first | exact List.mem_of_getElem? hi | exact List.getElem?_mem hi
  exact ⟨hm, good_of_word h1⟩
theorem goodIn_app {big a b : List Cond} (ha : GoodIn big a) (hb : GoodIn big b) : GoodIn big (a ++ b) := fun w h => (List.mem_append.mp h).elim (ha w) (hb w)
theorem goodIn_ca {big a b : List Cond} {c : Cond} (ha : GoodIn big (c :: a)) (hb : GoodIn big b) : GoodIn big (c :: (a ++ b)) := fun w h => (List.mem_cons.mp h).elim (fun e => ha w (List.mem_cons.mpr (Or.inl e))) (fun h => (List.mem_append.mp h).elim (fun h => ha w (List.mem_cons.mpr (Or.inr h))) (hb w))
theorem goodIn_sub {big ws : List Cond} (hm : ∀ w ∈ ws, w ∈ big) (h : ws.all goodWord = true) : GoodIn big ws := fun w hw => ⟨hm w hw, good_of_word (List.all_eq_true.mp h w hw)⟩
/-! ===== END ===== -/

/-! ===== BEGIN exceptions that leave a method, and their catching by the caller (launches without stack traces) ===== -/
section VXA
/-! The laws vx_back, vx_callV, vx_callS, vx_callSW, vx_throw0, vx_throwS follow proofs of the library, with one case more: JvmDerived/Free/Laws.lean (Back.of_free), Shelf42/LK1.lean (callV, callS), Shelf/KitTraced.lean (throwNew0V, throwNewS). -/
/-- where a method has thrown q: the class by its name, the cell, what was written, the world -/
def vx_T (XC : String → State → State → Prop) (st : State) (q : Addr) (t : State) (mc ms : Nat) (free : Addr → Prop) : Prop :=
  ∃ (E : String) (ce : Cell) (L : List Loc), XC E st t ∧ t.heap[q]? = some ce ∧ ce.vm = .none ∧ st.vm.findClass E = some ce.cls ∧ st.WarmedH t.vm ∧ st.sameButNew ({ t with vm := st.vm } : State) L mc ms ∧ ∀ z ∈ L, free z.base
def vx_Q (Qc : Array Value → State → Outcome → State → Prop) (XC : String → State → State → Prop) (mc ms : Nat) (free : Addr → Prop) : Array Value → State → Outcome → State → Prop := fun a st o t =>
  (Qc a st o t ∧ ∃ L, FrameEnd st o t L mc ms ∧ ∀ q ∈ L, free q.base) ∨ ∃ q, o = .threw q ∧ vx_T XC st q t mc ms free
/-- a callee that returns or throws -/
def vx_Met (l : Launch) (y : MethodName) (ws : List Cond) (rm : Room) (Pc : Array Value → State → Prop) (Qc : Array Value → State → Outcome → State → Prop) (XC : String → State → State → Prop) (mc ms : Nat) (free : Addr → Prop) : Prop :=
  MetFree l y (headSpec ws rm) Pc (fun _ _ _ _ _ => True) (vx_Q Qc XC mc ms free)
def vx_Post (XC : String → State → State → Prop) (mc ms : Nat) (free : Addr → Prop) : Pt → Array Value → Addr → Pt → Prop := fun A a q B =>
  ∃ (g : JFrame) (mk : MethodId) (t : State) (L : List Loc) (E : String) (ce : Cell), B.U.heap = t.heap ∧ B.U.vm = t.vm ∧ XC E (A.U.calling g mk a) t ∧ t.heap[q]? = some ce ∧ ce.vm = .none ∧ A.U.vm.findClass E = some ce.cls ∧ B.locs = A.locs ++ L ∧ (∀ z ∈ L, free z.base) ∧ B.cells = A.cells + mc ∧ B.slots = A.slots + ms
def vx_Back (l : Launch) (R : Room) (p : Program) (e : Env) (below : List Frame) (s : State) (sargs : Array Value) (y : MethodName) (len W9 : Nat)
    (Pre : Pt → Array Value → Prop) (Post : Pt → Array Value → Option Value → Pt → Prop) (PostX : Pt → Array Value → Addr → Pt → Prop) : Prop :=
  ∀ (m : MethodId) (meth : Method) (c : Code) (A : Pt) (g : JFrame) (ig : Instr) (mk : MethodId) (a : Array Value),
    Stand p l e R s m sargs below meth c A.U A.locs A.cells A.slots → g.method = m → g.locals.size = c.maxLocals → decode c.code g.pc = .ok (ig, len) →
    2 * g.monitorRoom + (g.stack.map fun v => v.category).sum ≤ W9 → A.U.methodNamed? y = some mk → Pre A a →
    (∃ (v : Option Value) (B : Pt), Stand p l e R s m sargs below meth c B.U B.locs B.cells B.slots ∧ Post A a v B ∧
      Steps p.tables e below (doInvoke e (A.U.setTop g) [] mk a).1 (B.U.setTop { g with pc := g.pc + len, stack := v.toList ++ g.stack })) ∨
    (∃ (q : Addr) (B : Pt), Stand p l e R s m sargs below meth c B.U B.locs B.cells B.slots ∧ PostX A a q B ∧
      Steps p.tables e below (doInvoke e (A.U.setTop g) [] mk a).1 ((B.U.setTop g).pushFrame (.throwing q)))
section Payer
variable {l : Launch} {R : Room} {p : Program} {e : Env} {below : List Frame} {s : State} {sargs : Array Value} {y : MethodName} {len W9 : Nat}
theorem vx_back {ws : List Cond} {rm : Room} {Pc : Array Value → State → Prop} {Qc : Array Value → State → Outcome → State → Prop} {XC : String → State → State → Prop} {mc ms : Nat} {free : Addr → Prop} {bytes : ByteArray} {maxL : Nat} {ret : Option FieldType}
    (hM : vx_Met l y ws rm Pc Qc XC mc ms free) (hblind : FrameBlind Pc) (hrc : rm.cells = mc) (hrs : rm.slots = ms)
    (hframes : rm.frames + 1 ≤ R.frames) (hlocals : W9 + (maxL + 11) + rm.locals ≤ R.locals)
    (hws : ∀ w ∈ ws, ∀ a' U, s.WarmedH U.vm → w.before a' U = true) (hcode : Cond.code y bytes maxL ret ∈ ws) (hinit : ∀ a' U, s.WarmedH U.vm → (Cond.initialized y.cls).before a' U = true) :
    vx_Back l R p e below s sargs y len W9 (PreOf R mc ms Pc) (PostOf Qc mc ms free) (vx_Post XC mc ms free) := by
  intro m meth c A g ig mk a X hg hsize hdg hW hn hp
  have h1 : (headSpec ws rm).pre.before a A.U = true := atoms_intro fun w hw => hws w hw _ _ X.warmed
  have h2 : (Cond.code y bytes maxL ret).before a A.U = true := hws _ hcode _ _ X.warmed
  have h3 : (Cond.initialized y.cls).before a A.U = true := hinit _ _ X.warmed
  have h4 : A.cells + (headSpec ws rm).room.cells ≤ R.cells := by rw [show (headSpec ws rm).room.cells = mc from hrc]; exact hp.1
  have h5 : A.slots + (headSpec ws rm).room.slots ≤ R.slots := by rw [show (headSpec ws rm).room.slots = ms from hrs]; exact hp.2.1
  have hPc : Pc a (A.U.calling g mk a) := hblind _ _ _ _ hp.2.2
  obtain ⟨U, Ls, c0, s0⟩ := A
  dsimp only [Pt.U, Pt.locs, Pt.cells, Pt.slots] at h1 h2 h3 h4 h5 X hn hPc ⊢
  obtain ⟨methY, cY, hmY, hcY, -, hlY, -, -, -, -⟩ := Cond.code_spec hn h2
  obtain ⟨kY, hkY, -⟩ := className_of_methodNamed hn
  have hinitY : kY.init = .initialized := Cond.initialized_spec (findClass_of_methodNamed hn) hkY h3
  have h : At U g.method c below := by rw [hg]; exact X.here
  have hlocals9 : W9 + (maxL + 11) + (headSpec ws rm).room.locals ≤ R.locals := hlocals
  have happ : (headSpec ws rm).appliesLoose y e.platform (U.calling g mk a) = true :=
    Spec.appliesLoose_calling (g := g) h hdg hn hkY hinitY
      (X.room_calling (g := g) (R' := (headSpec ws rm).room) hsize hmY hcY hframes (by rw [hlY]; omega) h4 h5) h1
  obtain ⟨mid, hmid⟩ := h.above
  have hfr : (U.setTop g).frames = (.java g :: mid) ++ below := by rw [State.frames_setTop' g h.top, hmid]; rfl
  obtain ⟨o, s₂, hsteps, -, hend, hq⟩ := Steps.callFree hM p X.admits X.cas X.clock (acts := []) hfr happ hPc trivial
  have hq' : vx_Q Qc XC mc ms free a (U.calling g mk a) o s₂ := hq
  rw [State.frames_setTop' g h.top] at hend
  obtain ⟨g₀, hg0⟩ := Option.isSome_iff_exists.mp h.top
  obtain ⟨r, hr⟩ := State.topJava?_eq_some.mp hg0
  have hr' : (({ U with heap := s₂.heap, slotsUsed := s₂.slotsUsed } : State).setVm s₂.vm).frames = .java g₀ :: r := hr
  rcases hq' with ⟨hqc, L, hfe, hL⟩ | ⟨q, rfl, E, ce, L, hx, hce, hcv, hcl, hW₂, hsm, hL⟩
  · obtain ⟨⟨v, rfl⟩, hW₂, e2, q2, q3, q4, q5, q6⟩ := id hfe
    have e3 : s₂ = ({ (U.calling g mk a).setFrames s₂.frames with heap := s₂.heap, slotsUsed := s₂.slotsUsed } : State).setVm s₂.vm := by
      have : s₂ = ({ s₂ with vm := (U.calling g mk a).vm } : State).setVm s₂.vm := rfl
      rw [e2] at this
      exact this
    obtain ⟨c₂, i₂, len₂, hc₂, hd₂, hf₂⟩ := hend
    have hW' : U.WarmedH s₂.vm := hW₂
    have hcc : c₂ = c := by
      have h1 : s₂.code? g.method = U.code? g.method := by
        rw [State.code?_eq, State.code?_eq, hW'.alike.method?]
      exact Option.some.inj (hc₂.symm.trans (h1.trans h.code))
    subst hcc
    have hlen : len₂ = len := by rw [hdg] at hd₂; cases hd₂; rfl
    subst hlen
    have hs₂ : s₂ = (({ U with heap := s₂.heap, slotsUsed := s₂.slotsUsed } : State).setVm s₂.vm).setTop { g with pc := g.pc + len₂, stack := v.toList ++ g.stack } := by
      refine e3.trans ?_
      rw [hf₂, State.calling_eq h.top, State.setFrames_setFrames, State.setTop_of_frames _ hr', hr]
      rfl
    have hsame : U.sameButNew ({ U with heap := s₂.heap, slotsUsed := s₂.slotsUsed } : State) L mc ms := by
      refine ⟨?_, q2, q3, q4, q5, q6⟩
      obtain ⟨t, ht, -⟩ := State.frames_cons hr
      show ({ U with heap := s₂.heap, slotsUsed := s₂.slotsUsed } : State) = { U.setFrames U.frames with heap := s₂.heap, slotsUsed := s₂.slotsUsed }
      rw [State.setFrames_self ht]
    subst hg
    refine Or.inl ⟨v, ⟨(({ U with heap := s₂.heap, slotsUsed := s₂.slotsUsed } : State).setVm s₂.vm), Ls ++ L, c0 + mc, s0 + ms⟩,
      ⟨X.admits, X.cas, X.clock, X.frames, X.room, X.hears, X.method, X.code, (X.here.setHeapUsed s₂.heap s₂.slotsUsed).setVm hW'.alike, X.tail, State.WarmedH.trans X.warmed hW', X.limits, X.bytes, X.same.trans (hsame.setVm s.vm)⟩,
      ⟨g, mk, s₂, L, rfl, rfl, hqc, rfl, hL, rfl, rfl⟩, ?_⟩
    show Steps p.tables e below _ ((({ U with heap := s₂.heap, slotsUsed := s₂.slotsUsed } : State).setVm s₂.vm).setTop { g with pc := g.pc + len₂, stack := v.toList ++ g.stack })
    rw [← hs₂]
    exact hsteps
  · obtain ⟨e2, q2, q3, q4, q5, q6⟩ := id hsm
    have e3 : s₂ = ({ (U.calling g mk a).setFrames s₂.frames with heap := s₂.heap, slotsUsed := s₂.slotsUsed } : State).setVm s₂.vm := by
      have : s₂ = ({ s₂ with vm := (U.calling g mk a).vm } : State).setVm s₂.vm := rfl
      rw [e2] at this
      exact this
    have hf₂ : s₂.frames = .throwing q :: .java g :: U.frames.tail := hend
    have hW' : U.WarmedH s₂.vm := hW₂
    have hs₂ : s₂ = ((({ U with heap := s₂.heap, slotsUsed := s₂.slotsUsed } : State).setVm s₂.vm).setTop g).pushFrame (.throwing q) := by
      refine e3.trans ?_
      rw [hf₂, State.calling_eq h.top, State.setFrames_setFrames, State.pushFrame, State.frames_setTop _ hr', State.setTop_of_frames _ hr', State.setFrames_setFrames, hr]
      rfl
    have hsame : U.sameButNew ({ U with heap := s₂.heap, slotsUsed := s₂.slotsUsed } : State) L mc ms := by
      refine ⟨?_, q2, q3, q4, q5, q6⟩
      obtain ⟨t, ht, -⟩ := State.frames_cons hr
      show ({ U with heap := s₂.heap, slotsUsed := s₂.slotsUsed } : State) = { U.setFrames U.frames with heap := s₂.heap, slotsUsed := s₂.slotsUsed }
      rw [State.setFrames_self ht]
    subst hg
    refine Or.inr ⟨q, ⟨(({ U with heap := s₂.heap, slotsUsed := s₂.slotsUsed } : State).setVm s₂.vm), Ls ++ L, c0 + mc, s0 + ms⟩,
      ⟨X.admits, X.cas, X.clock, X.frames, X.room, X.hears, X.method, X.code, (X.here.setHeapUsed s₂.heap s₂.slotsUsed).setVm hW'.alike, X.tail, State.WarmedH.trans X.warmed hW', X.limits, X.bytes, X.same.trans (hsame.setVm s.vm)⟩,
      ⟨g, mk, s₂, L, E, ce, rfl, rfl, hx, hce, hcv, hcl, rfl, hL, rfl, rfl⟩, ?_⟩
    show Steps p.tables e below _ (((({ U with heap := s₂.heap, slotsUsed := s₂.slotsUsed } : State).setVm s₂.vm).setTop g).pushFrame (.throwing q))
    rw [← hs₂]
    exact hsteps
end Payer
section Calls
variable {p : Program} {l : Launch} {e : Env} {R : Room} {s : State} {m : MethodId} {args : Array Value} {below : List Frame} {meth : Method} {c : Code} {T : State} {locs : List Loc} {cells slots : Nat}
theorem vx_callV (X : Stand p l e R s m args below meth c T locs cells slots) (hexec : p.tables.exec = Jvm.exec) {own C : String} {index : Nat} {y : MethodName} {bytes : ByteArray} {maxL : Nat} {ret : Option FieldType}
    (hown : s.vm.findClass own = some m.cls) (hlink : (Cond.methodLink own index y).before args s = true) (hinst : (Cond.instanceMethod y).before args s = true) (hsel : (Cond.selects C y y).before args s = true)
    (hcode : (Cond.code y bytes maxL ret).before args s = true) (hy : y.cls ≠ "java/lang/invoke/MethodHandle" ∧ y.cls ≠ "java/lang/invoke/VarHandle")
    {W9 : Nat} {Pre : Pt → Array Value → Prop} {Post : Pt → Array Value → Option Value → Pt → Prop} {PostX : Pt → Array Value → Addr → Pt → Prop} (hK : vx_Back l R p e below s args y 3 W9 Pre Post PostX)
    {b : Addr} {cellB : Cell} (hcell : T.heap[b]? = some cellB) (hobj : cellB.vm.isStatics = false) (hcls : s.vm.findClass C = some cellB.cls)
    {g : JFrame} (hg : g.method = m) (hsize : g.locals.size = c.maxLocals) {argsL rest : List Value} (hlen : ∀ sig, parseMethodDescriptor y.desc = some sig → argsL.length = sig.parameters.length)
    (hstack : g.stack = argsL.reverse ++ .ref b :: rest) (hW : 2 * g.monitorRoom + (rest.map fun v => v.category).sum ≤ W9) (hdg : decode c.code g.pc = .ok (.invokevirtual index, 3))
    (hpre : ∀ vm₁, s.WarmedH vm₁ → Pre ⟨T.setVm vm₁, locs, cells, slots⟩ (Value.ref b :: argsL).toArray) :
    (∃ (v : Option Value) (vm₁ : Vm) (B : Pt), s.WarmedH vm₁ ∧ Stand p l e R s m args below meth c B.U B.locs B.cells B.slots ∧ Post ⟨T.setVm vm₁, locs, cells, slots⟩ (Value.ref b :: argsL).toArray v B ∧
      ∀ target, Steps p.tables e below (B.U.setTop { g with pc := g.pc + 3, stack := v.toList ++ rest }) target → Steps p.tables e below (T.setTop g) target) ∨
    (∃ (q : Addr) (vm₁ : Vm) (B : Pt), s.WarmedH vm₁ ∧ Stand p l e R s m args below meth c B.U B.locs B.cells B.slots ∧ PostX ⟨T.setVm vm₁, locs, cells, slots⟩ (Value.ref b :: argsL).toArray q B ∧
      Steps p.tables e below (T.setTop g) ((B.U.setTop { g with stack := rest }).pushFrame (.throwing q))) := by
  obtain ⟨mk, methM, hnamed, hmethM, hstM, habM⟩ := Cond.instanceMethod_spec hinst
  obtain ⟨methM', cM, hmethM', -, -, -, -, -, -, hsigM⟩ := Cond.code_spec hnamed hcode
  cases hmethM.symm.trans hmethM'
  obtain ⟨c2, r2, m2, q1, q2, q3, q4, kP, hkP, hkPi⟩ := Cond.selects_spec hsel
  cases hcls.symm.trans q1
  cases (State.methodFound?_of_named hnamed hy).symm.trans q2
  cases hnamed.symm.trans q3
  have hselP : selectMethod e.platform s.vm cellB.cls mk = .method mk := by rw [Launch.admits_selectMethod X.admits]; exact q4
  obtain ⟨vm₁, X₁, hstep₁⟩ := X.invokevirtual hexec hown hlink hnamed hmethM hstM hkP hkPi hy (a := b) (cell := cellB) hcell
    (fun z h => by rw [h] at hobj; cases hobj) hselP hmethM habM hkP hkPi (g := g) hg (argsL := argsL) (rest := rest) (hlen _ hsigM) hstack hdg
  rcases hK m meth c ⟨T.setVm vm₁, locs, cells, slots⟩ { g with stack := rest } (.invokevirtual index) mk (Value.ref b :: argsL).toArray X₁ hg hsize hdg hW (X₁.named hnamed) (hpre vm₁ X₁.warmed) with ⟨v, B, X', hpost, hsteps⟩ | ⟨q, B, X', hpost, hsteps⟩
  · exact Or.inl ⟨v, vm₁, B, X₁.warmed, X', hpost, fun target h => hstep₁ _ fun acts => by rw [doInvoke_state]; exact hsteps.trans h⟩
  · exact Or.inr ⟨q, vm₁, B, X₁.warmed, X', hpost, hstep₁ _ fun acts => by rw [doInvoke_state]; exact hsteps⟩
theorem vx_callS (X : Stand p l e R s m args below meth c T locs cells slots) (hexec : p.tables.exec = Jvm.exec) {own : String} {index : Nat} {y : MethodName} {bytes : ByteArray} {maxL : Nat} {ret : Option FieldType}
    (hown : s.vm.findClass own = some m.cls) (hlink : (Cond.methodLink own index y).before args s = true) (hstat : (Cond.static y).before args s = true) (hinit : (Cond.initialized y.cls).before args s = true)
    (hcode : (Cond.code y bytes maxL ret).before args s = true) (hy : y.cls ≠ "java/lang/invoke/MethodHandle" ∧ y.cls ≠ "java/lang/invoke/VarHandle")
    {W9 : Nat} {Pre : Pt → Array Value → Prop} {Post : Pt → Array Value → Option Value → Pt → Prop} {PostX : Pt → Array Value → Addr → Pt → Prop} (hK : vx_Back l R p e below s args y 3 W9 Pre Post PostX)
    {g : JFrame} (hg : g.method = m) (hsize : g.locals.size = c.maxLocals) {argsL rest : List Value} (hlen : ∀ sig, parseMethodDescriptor y.desc = some sig → argsL.length = sig.parameters.length)
    (hstack : g.stack = argsL.reverse ++ rest) (hW : 2 * g.monitorRoom + (rest.map fun v => v.category).sum ≤ W9) (hdg : decode c.code g.pc = .ok (.invokestatic index, 3))
    (hpre : ∀ vm₁, s.WarmedH vm₁ → Pre ⟨T.setVm vm₁, locs, cells, slots⟩ argsL.toArray) :
    (∃ (v : Option Value) (vm₁ : Vm) (B : Pt), s.WarmedH vm₁ ∧ Stand p l e R s m args below meth c B.U B.locs B.cells B.slots ∧ Post ⟨T.setVm vm₁, locs, cells, slots⟩ argsL.toArray v B ∧
      ∀ target, Steps p.tables e below (B.U.setTop { g with pc := g.pc + 3, stack := v.toList ++ rest }) target → Steps p.tables e below (T.setTop g) target) ∨
    (∃ (q : Addr) (vm₁ : Vm) (B : Pt), s.WarmedH vm₁ ∧ Stand p l e R s m args below meth c B.U B.locs B.cells B.slots ∧ PostX ⟨T.setVm vm₁, locs, cells, slots⟩ argsL.toArray q B ∧
      Steps p.tables e below (T.setTop g) ((B.U.setTop { g with stack := rest }).pushFrame (.throwing q))) := by
  obtain ⟨mk, hnamed⟩ := Cond.code_named hcode
  obtain ⟨methM, cM, hmethM, -, -, -, -, -, -, hsigM⟩ := Cond.code_spec hnamed hcode
  have hstatic : methM.isStatic = true := Cond.static_spec hnamed hmethM hstat
  obtain ⟨kP, hkP, -⟩ := className_of_methodNamed hnamed
  have hinitP : kP.init = .initialized := Cond.initialized_spec (findClass_of_methodNamed hnamed) hkP hinit
  obtain ⟨vm₁, X₁, hstep₁⟩ := X.invokestatic hexec hown hlink hnamed hmethM hstatic hkP hinitP hy (g := g) hg (argsL := argsL) (rest := rest) (hlen _ hsigM) hstack hdg
  rcases hK m meth c ⟨T.setVm vm₁, locs, cells, slots⟩ { g with stack := rest } (.invokestatic index) mk argsL.toArray X₁ hg hsize hdg hW (X₁.named hnamed) (hpre vm₁ X₁.warmed) with ⟨v, B, X', hpost, hsteps⟩ | ⟨q, B, X', hpost, hsteps⟩
  · exact Or.inl ⟨v, vm₁, B, X₁.warmed, X', hpost, fun target h => hstep₁ _ fun acts => by rw [doInvoke_state]; exact hsteps.trans h⟩
  · exact Or.inr ⟨q, vm₁, B, X₁.warmed, X', hpost, hstep₁ _ fun acts => by rw [doInvoke_state]; exact hsteps⟩
end Calls
theorem vx_cls {s : State} {T : State} {vm₁ : Vm} {E : String} {k : ClassId} (hW : s.WarmedH vm₁) (h : (T.setVm vm₁).vm.findClass E = some k) : s.vm.findClass E = some k := by
  have h1 : vm₁.findClass E = some k := h
  rw [hW.alike.findClass] at h1
  exact h1
/-- the method's frame g, with q thrown over it -/
def vx_W (p : Program) (l : Launch) (e : Env) (R : Room) (s : State) (m : MethodId) (args : Array Value) (below : List Frame) (meth : Method) (c : Code) (H : Heap) (locs : List Loc) (cells slots : Nat) (Q : State → Prop) (g : JFrame) (q : Addr) : Prop :=
  ∀ T : State, T.heap = H → Stand p l e R s m args below meth c T locs cells slots → ∃ t, Steps p.tables e below ((T.setTop g).pushFrame (.throwing q)) t ∧ Q t
def vx_Run (p : Program) (l : Launch) (e : Env) (R : Room) (s : State) (m : MethodId) (args : Array Value) (below : List Frame) (meth : Method) (c : Code) (H : Heap) (locs : List Loc) (cells slots mc ms : Nat) (g : JFrame) (rest : List Value) (Qa : State → Outcome → State → Prop) (XC : String → State → State → Prop) (free : Addr → Prop) : Prop :=
  ∀ T : State, T.heap = H → Stand p l e R s m args below meth c T locs cells slots →
    (∃ (v : Option Value) (st₀ t T' : State) (L : List Loc), st₀.heap = H ∧ Stand p l e R s m args below meth c T' (locs ++ L) (cells + mc) (slots + ms) ∧ (∀ q ∈ L, free q.base) ∧ T'.heap = t.heap ∧ T'.vm = t.vm ∧ Qa st₀ (.returned v) t ∧
      Goes p e below T g T' { g with pc := g.pc + 3, stack := v.toList ++ rest }) ∨
    (∃ (q : Addr) (st₀ t T' : State) (L : List Loc) (E : String) (ce : Cell), st₀.heap = H ∧ Stand p l e R s m args below meth c T' (locs ++ L) (cells + mc) (slots + ms) ∧ (∀ z ∈ L, free z.base) ∧ T'.heap = t.heap ∧ T'.vm = t.vm ∧ XC E st₀ t ∧ t.heap[q]? = some ce ∧ ce.vm = .none ∧ s.vm.findClass E = some ce.cls ∧
      Steps p.tables e below (T.setTop g) ((T'.setTop { g with stack := rest }).pushFrame (.throwing q)))
def vx_X {S : Type} (px : S → Prop) (B : String → S → State → Prop) (A : Nat → Prop) : String → State → State → Prop := fun E st t => ∃ u : S, px u ∧ B E u t ∧ va_F A st t
section Runs
variable {p : Program} {l : Launch} {e : Env} {R : Room} {s : State} {m : MethodId} {args : Array Value} {below : List Frame} {meth : Method} {c : Code} {H : Heap} {locs : List Loc} {cells slots : Nat}
variable {y : MethodName} {bytes cc : ByteArray} {maxL nL mc ms n index : Nat} {ret : Option FieldType} {ws : List Cond} {rm : Room} {Pc : Array Value → State → Prop} {Qc : Array Value → State → Outcome → State → Prop} {XC : String → State → State → Prop} {free : Addr → Prop} {Ts : List Cond} {own C : String} {b : Addr} {As rest : List Value} {g : JFrame}
theorem vx_callBack (cb : CallB R s args own index y bytes maxL ret ws rm mc ms n) (hM : vx_Met l y ws rm Pc Qc XC mc ms free) (hbl : FrameBlind Pc) : vx_Back l R p e below s args y 3 8 (PreOf R mc ms Pc) (PostOf Qc mc ms free) (vx_Post XC mc ms free) := by
  obtain ⟨hrc, hrs, hfr, hlo, hws, hcw, -, hini, -⟩ := cb
  exact vx_back (bytes := bytes) (maxL := maxL) (ret := ret) hM hbl hrc hrs hfr hlo hws hcw (fun a' U hW => word_at hW (Or.inl (by first | rfl | simp [Cond.onTables, Cond.keeps, Cond.steady])) hini)
theorem vx_runV (S : CallFix p m c cc nL s args Ts own) (hM : vx_Met l y ws rm Pc Qc XC mc ms free) (cw : CallW R s args own C index y bytes maxL ret ws rm mc ms n) (hp : PreV s H C b Pc As)
    (hg : g.method = m) (hn : As.length = n) (hsize : g.locals.size = nL) (hstack : g.stack = As.reverse ++ .ref b :: rest) (hW : 2 * g.monitorRoom + (rest.map fun v => v.category).sum ≤ 8) (hdg : decode cc g.pc = .ok (.invokevirtual index, 3)) (hf : cells + mc ≤ R.cells ∧ slots + ms ≤ R.slots) :
    vx_Run p l e R s m args below meth c H locs cells slots mc ms g rest (Qc (Value.ref b :: As).toArray) XC free := by
  have hK : vx_Back l R p e below s args y 3 8 (PreOf R mc ms Pc) (PostOf Qc mc ms free) (vx_Post XC mc ms free) := vx_callBack cw.1 hM hp.1
  obtain ⟨⟨-, -, -, -, -, -, hcode, -, hy, hlen, hl⟩, hin, hse⟩ := cw
  obtain ⟨hx, hb, hml, ho, -⟩ := S
  obtain ⟨-, ⟨cellB, hcB, hoB, hclB⟩, hPc⟩ := hp
  intro T hT X
  rcases vx_callV X hx (C := C) (bytes := bytes) (maxL := maxL) (ret := ret) ho hl hin hse hcode hy hK (by rw [hT]; exact hcB) hoB hclB hg (hsize.trans hml.symm) (argsL := As) (rest := rest) (fun sig h => hn.trans (hlen sig h)) hstack hW (by rw [hb]; exact hdg)
    (fun vm₁ hW₁ => ⟨hf.1, hf.2, hPc (T.setVm vm₁) hT hW₁⟩) with ⟨v, vm₁, ⟨U', l2, c2, s2⟩, hW₁, X', ⟨g', mk, t, L, e1, e2, hq, h1, hL, h2, h3⟩, st⟩ | ⟨q, vm₁, ⟨U', l2, c2, s2⟩, hW₁, X', ⟨g', mk, t, L, E, ce, e1, e2, hq, hce, hcv, hcl, h1, hL, h2, h3⟩, st⟩
  · dsimp only [Pt.U, Pt.locs, Pt.cells, Pt.slots] at X' e1 e2 h1 h2 h3 st
    subst h1; subst h2; subst h3
    exact Or.inl ⟨v, (T.setVm vm₁).calling g' mk (Value.ref b :: As).toArray, t, U', L, hT, X', hL, e1, e2, hq, st⟩
  · dsimp only [Pt.U, Pt.locs, Pt.cells, Pt.slots] at X' e1 e2 h1 h2 h3 st hcl
    subst h1; subst h2; subst h3
    exact Or.inr ⟨q, (T.setVm vm₁).calling g' mk (Value.ref b :: As).toArray, t, U', L, E, ce, hT, X', hL, e1, e2, hq, hce, hcv, vx_cls hW₁ hcl, st⟩
theorem vx_runS (S : CallFix p m c cc nL s args Ts own) (hM : vx_Met l y ws rm Pc Qc XC mc ms free) (cw : CallB R s args own index y bytes maxL ret ws rm mc ms n ∧ (Cond.static y).before args s = true) (hp : PreS s H Pc As)
    (hg : g.method = m) (hn : As.length = n) (hsize : g.locals.size = nL) (hstack : g.stack = As.reverse ++ rest) (hW : 2 * g.monitorRoom + (rest.map fun v => v.category).sum ≤ 8) (hdg : decode cc g.pc = .ok (.invokestatic index, 3)) (hf : cells + mc ≤ R.cells ∧ slots + ms ≤ R.slots) :
    vx_Run p l e R s m args below meth c H locs cells slots mc ms g rest (Qc As.toArray) XC free := by
  have hK : vx_Back l R p e below s args y 3 8 (PreOf R mc ms Pc) (PostOf Qc mc ms free) (vx_Post XC mc ms free) := vx_callBack cw.1 hM hp.1
  obtain ⟨⟨-, -, -, -, -, -, hcode, hini, hy, hlen, hl⟩, hstt⟩ := cw
  obtain ⟨hx, hb, hml, ho, -⟩ := S
  intro T hT X
  rcases vx_callS X hx (bytes := bytes) (maxL := maxL) (ret := ret) ho hl hstt hini hcode hy hK hg (hsize.trans hml.symm) (argsL := As) (rest := rest) (fun sig h => hn.trans (hlen sig h)) hstack hW (by rw [hb]; exact hdg)
    (fun vm₁ hW₁ => ⟨hf.1, hf.2, hp.2 (T.setVm vm₁) hT hW₁⟩) with ⟨v, vm₁, ⟨U', l2, c2, s2⟩, hW₁, X', ⟨g', mk, t, L, e1, e2, hq, h1, hL, h2, h3⟩, st⟩ | ⟨q, vm₁, ⟨U', l2, c2, s2⟩, hW₁, X', ⟨g', mk, t, L, E, ce, e1, e2, hq, hce, hcv, hcl, h1, hL, h2, h3⟩, st⟩
  · dsimp only [Pt.U, Pt.locs, Pt.cells, Pt.slots] at X' e1 e2 h1 h2 h3 st
    subst h1; subst h2; subst h3
    exact Or.inl ⟨v, (T.setVm vm₁).calling g' mk As.toArray, t, U', L, hT, X', hL, e1, e2, hq, st⟩
  · dsimp only [Pt.U, Pt.locs, Pt.cells, Pt.slots] at X' e1 e2 h1 h2 h3 st hcl
    subst h1; subst h2; subst h3
    exact Or.inr ⟨q, (T.setVm vm₁).calling g' mk As.toArray, t, U', L, E, ce, hT, X', hL, e1, e2, hq, hce, hcv, vx_cls hW₁ hcl, st⟩
end Runs
section Rows
variable {p : Program} {l : Launch} {e : Env} {R : Room} {s : State} {m : MethodId} {args : Array Value} {below : List Frame} {meth : Method} {c : Code} {H : Heap} {locs : List Loc} {cells slots : Nat} {Q : State → Prop}
variable {mc ms : Nat} {free : Addr → Prop} {A0 A1 : Nat → Prop} {H0 : Heap} {a : Array Value} {pc : Nat} {ls : Array Slot} {st0 rest : List Value}
theorem vx_keep {st₀ t T' : State} {L : List Loc} (h0 : st₀.heap = H) (e1 : T'.heap = t.heap) (hS : va_S A0 H0 H locs) (hA : ∀ q, q < H.size → A1 q → A0 q) (hf : ∀ q, free q → A0 q) (hL : ∀ q ∈ L, free q.base) (hF : va_F A1 st₀ t) :
    H.size ≤ T'.heap.size ∧ (∀ q : Nat, q < H.size → ¬ A1 q → T'.heap[q]? = H[q]?) ∧ va_S A0 H0 T'.heap (locs ++ L) := by
  obtain ⟨hz, hk⟩ := hF
  rw [h0] at hz hk
  exact ⟨by rw [e1]; exact hz, fun q h1 h2 => by rw [e1]; exact hk q h1 h2,
    ⟨Nat.le_trans hS.1 (by rw [e1]; exact hz), fun q h1 h2 => by rw [e1, hk q (Nat.lt_of_lt_of_le h1 hS.1) (fun z => h2 (hA q (Nat.lt_of_lt_of_le h1 hS.1) z))]; exact hS.2.1 q h1 h2, fun q hq => by
      rcases List.mem_append.mp hq with h | h
      · exact hS.2.2 q h
      · exact hf _ (hL q h)⟩⟩
theorem vx_calli {S SX : Type} {post : Int32 → S → Prop} {px : SX → Prop} {B : S → State → Prop} {BX : String → SX → State → Prop} {AX : Nat → Prop} (hr : vx_Run p l e R s m args below meth c H locs cells slots mc ms (F0 m pc ls st0) rest (va_Qi post B A1 a) (vx_X px BX AX) free) (hS : va_S A0 H0 H locs) (hA : ∀ q, q < H.size → A1 q → A0 q) (hf : ∀ q, free q → A0 q) (hAX : ∀ q, q < H.size → AX q → A0 q)
    (kx : ∀ (E : String) (ce : Cell) (q9 : Addr) (u : SX) (t : State) (H1 : Heap) (locs1 : List Loc), t.heap = H1 → s.vm.Alike t.vm → px u → BX E u t → H.size ≤ H1.size → (∀ q : Nat, q < H.size → ¬ AX q → H1[q]? = H[q]?) → va_S A0 H0 H1 locs1 → H1[q9]? = some ce → ce.vm = .none → s.vm.findClass E = some ce.cls → vx_W p l e R s m args below meth c H1 locs1 (cells + mc) (slots + ms) Q (F0 m pc ls rest) q9)
    (kk : ∀ (r : Int32) (u : S) (t : State) (H1 : Heap) (locs1 : List Loc), t.heap = H1 → s.vm.Alike t.vm → post r u → B u t → H.size ≤ H1.size → (∀ q : Nat, q < H.size → ¬ A1 q → H1[q]? = H[q]?) → va_S A0 H0 H1 locs1 → W p l e R s m args below meth c H1 locs1 (cells + mc) (slots + ms) Q (F0 m (pc + 3) ls (.int r :: rest))) : W p l e R s m args below meth c H locs cells slots Q (F0 m pc ls st0) := by
  intro T hT X
  rcases hr T hT X with ⟨v, st₀, t, T', L, h0, X', hL, e1, e2, ⟨⟨r, u, hv, hp, hb⟩, hF⟩, st⟩ | ⟨q, st₀, t, T', L, E, ce, h0, X', hL, e1, e2, ⟨u, hp, hb, hF⟩, hce, hcv, hcl, st⟩
  · cases hv
    obtain ⟨k1, k2, k3⟩ := vx_keep h0 e1 hS hA hf hL hF
    obtain ⟨t2, a1, b1⟩ := kk r u t T'.heap (locs ++ L) e1.symm (by rw [← e2]; exact X'.warmed.alike) hp hb k1 k2 k3 T' rfl X'
    exact ⟨t2, st t2 a1, b1⟩
  · obtain ⟨k1, k2, k3⟩ := vx_keep h0 e1 hS hAX hf hL hF
    obtain ⟨t2, a1, b1⟩ := kx E ce q u t T'.heap (locs ++ L) e1.symm (by rw [← e2]; exact X'.warmed.alike) hp hb k1 k2 k3 (by rw [e1]; exact hce) hcv hcl T' rfl X'
    exact ⟨t2, st.trans a1, b1⟩
theorem vx_calll {S SX : Type} {post : Int64 → S → Prop} {px : SX → Prop} {B : S → State → Prop} {BX : String → SX → State → Prop} {AX : Nat → Prop} (hr : vx_Run p l e R s m args below meth c H locs cells slots mc ms (F0 m pc ls st0) rest (va_Ql post B A1 a) (vx_X px BX AX) free) (hS : va_S A0 H0 H locs) (hA : ∀ q, q < H.size → A1 q → A0 q) (hf : ∀ q, free q → A0 q) (hAX : ∀ q, q < H.size → AX q → A0 q)
    (kx : ∀ (E : String) (ce : Cell) (q9 : Addr) (u : SX) (t : State) (H1 : Heap) (locs1 : List Loc), t.heap = H1 → s.vm.Alike t.vm → px u → BX E u t → H.size ≤ H1.size → (∀ q : Nat, q < H.size → ¬ AX q → H1[q]? = H[q]?) → va_S A0 H0 H1 locs1 → H1[q9]? = some ce → ce.vm = .none → s.vm.findClass E = some ce.cls → vx_W p l e R s m args below meth c H1 locs1 (cells + mc) (slots + ms) Q (F0 m pc ls rest) q9)
    (kk : ∀ (r : Int64) (u : S) (t : State) (H1 : Heap) (locs1 : List Loc), t.heap = H1 → s.vm.Alike t.vm → post r u → B u t → H.size ≤ H1.size → (∀ q : Nat, q < H.size → ¬ A1 q → H1[q]? = H[q]?) → va_S A0 H0 H1 locs1 → W p l e R s m args below meth c H1 locs1 (cells + mc) (slots + ms) Q (F0 m (pc + 3) ls (.long r :: rest))) : W p l e R s m args below meth c H locs cells slots Q (F0 m pc ls st0) := by
  intro T hT X
  rcases hr T hT X with ⟨v, st₀, t, T', L, h0, X', hL, e1, e2, ⟨⟨r, u, hv, hp, hb⟩, hF⟩, st⟩ | ⟨q, st₀, t, T', L, E, ce, h0, X', hL, e1, e2, ⟨u, hp, hb, hF⟩, hce, hcv, hcl, st⟩
  · cases hv
    obtain ⟨k1, k2, k3⟩ := vx_keep h0 e1 hS hA hf hL hF
    obtain ⟨t2, a1, b1⟩ := kk r u t T'.heap (locs ++ L) e1.symm (by rw [← e2]; exact X'.warmed.alike) hp hb k1 k2 k3 T' rfl X'
    exact ⟨t2, st t2 a1, b1⟩
  · obtain ⟨k1, k2, k3⟩ := vx_keep h0 e1 hS hAX hf hL hF
    obtain ⟨t2, a1, b1⟩ := kx E ce q u t T'.heap (locs ++ L) e1.symm (by rw [← e2]; exact X'.warmed.alike) hp hb k1 k2 k3 (by rw [e1]; exact hce) hcv hcl T' rfl X'
    exact ⟨t2, st.trans a1, b1⟩
theorem vx_callf {S SX : Type} {post : UInt32 → S → Prop} {px : SX → Prop} {B : S → State → Prop} {BX : String → SX → State → Prop} {AX : Nat → Prop} (hr : vx_Run p l e R s m args below meth c H locs cells slots mc ms (F0 m pc ls st0) rest (va_Qf post B A1 a) (vx_X px BX AX) free) (hS : va_S A0 H0 H locs) (hA : ∀ q, q < H.size → A1 q → A0 q) (hf : ∀ q, free q → A0 q) (hAX : ∀ q, q < H.size → AX q → A0 q)
    (kx : ∀ (E : String) (ce : Cell) (q9 : Addr) (u : SX) (t : State) (H1 : Heap) (locs1 : List Loc), t.heap = H1 → s.vm.Alike t.vm → px u → BX E u t → H.size ≤ H1.size → (∀ q : Nat, q < H.size → ¬ AX q → H1[q]? = H[q]?) → va_S A0 H0 H1 locs1 → H1[q9]? = some ce → ce.vm = .none → s.vm.findClass E = some ce.cls → vx_W p l e R s m args below meth c H1 locs1 (cells + mc) (slots + ms) Q (F0 m pc ls rest) q9)
    (kk : ∀ (r : UInt32) (u : S) (t : State) (H1 : Heap) (locs1 : List Loc), t.heap = H1 → s.vm.Alike t.vm → post r u → B u t → H.size ≤ H1.size → (∀ q : Nat, q < H.size → ¬ A1 q → H1[q]? = H[q]?) → va_S A0 H0 H1 locs1 → W p l e R s m args below meth c H1 locs1 (cells + mc) (slots + ms) Q (F0 m (pc + 3) ls (.float r :: rest))) : W p l e R s m args below meth c H locs cells slots Q (F0 m pc ls st0) := by
  intro T hT X
  rcases hr T hT X with ⟨v, st₀, t, T', L, h0, X', hL, e1, e2, ⟨⟨r, u, hv, hp, hb⟩, hF⟩, st⟩ | ⟨q, st₀, t, T', L, E, ce, h0, X', hL, e1, e2, ⟨u, hp, hb, hF⟩, hce, hcv, hcl, st⟩
  · cases hv
    obtain ⟨k1, k2, k3⟩ := vx_keep h0 e1 hS hA hf hL hF
    obtain ⟨t2, a1, b1⟩ := kk r u t T'.heap (locs ++ L) e1.symm (by rw [← e2]; exact X'.warmed.alike) hp hb k1 k2 k3 T' rfl X'
    exact ⟨t2, st t2 a1, b1⟩
  · obtain ⟨k1, k2, k3⟩ := vx_keep h0 e1 hS hAX hf hL hF
    obtain ⟨t2, a1, b1⟩ := kx E ce q u t T'.heap (locs ++ L) e1.symm (by rw [← e2]; exact X'.warmed.alike) hp hb k1 k2 k3 (by rw [e1]; exact hce) hcv hcl T' rfl X'
    exact ⟨t2, st.trans a1, b1⟩
theorem vx_calld {S SX : Type} {post : UInt64 → S → Prop} {px : SX → Prop} {B : S → State → Prop} {BX : String → SX → State → Prop} {AX : Nat → Prop} (hr : vx_Run p l e R s m args below meth c H locs cells slots mc ms (F0 m pc ls st0) rest (va_Qd post B A1 a) (vx_X px BX AX) free) (hS : va_S A0 H0 H locs) (hA : ∀ q, q < H.size → A1 q → A0 q) (hf : ∀ q, free q → A0 q) (hAX : ∀ q, q < H.size → AX q → A0 q)
    (kx : ∀ (E : String) (ce : Cell) (q9 : Addr) (u : SX) (t : State) (H1 : Heap) (locs1 : List Loc), t.heap = H1 → s.vm.Alike t.vm → px u → BX E u t → H.size ≤ H1.size → (∀ q : Nat, q < H.size → ¬ AX q → H1[q]? = H[q]?) → va_S A0 H0 H1 locs1 → H1[q9]? = some ce → ce.vm = .none → s.vm.findClass E = some ce.cls → vx_W p l e R s m args below meth c H1 locs1 (cells + mc) (slots + ms) Q (F0 m pc ls rest) q9)
    (kk : ∀ (r : UInt64) (u : S) (t : State) (H1 : Heap) (locs1 : List Loc), t.heap = H1 → s.vm.Alike t.vm → post r u → B u t → H.size ≤ H1.size → (∀ q : Nat, q < H.size → ¬ A1 q → H1[q]? = H[q]?) → va_S A0 H0 H1 locs1 → W p l e R s m args below meth c H1 locs1 (cells + mc) (slots + ms) Q (F0 m (pc + 3) ls (.double r :: rest))) : W p l e R s m args below meth c H locs cells slots Q (F0 m pc ls st0) := by
  intro T hT X
  rcases hr T hT X with ⟨v, st₀, t, T', L, h0, X', hL, e1, e2, ⟨⟨r, u, hv, hp, hb⟩, hF⟩, st⟩ | ⟨q, st₀, t, T', L, E, ce, h0, X', hL, e1, e2, ⟨u, hp, hb, hF⟩, hce, hcv, hcl, st⟩
  · cases hv
    obtain ⟨k1, k2, k3⟩ := vx_keep h0 e1 hS hA hf hL hF
    obtain ⟨t2, a1, b1⟩ := kk r u t T'.heap (locs ++ L) e1.symm (by rw [← e2]; exact X'.warmed.alike) hp hb k1 k2 k3 T' rfl X'
    exact ⟨t2, st t2 a1, b1⟩
  · obtain ⟨k1, k2, k3⟩ := vx_keep h0 e1 hS hAX hf hL hF
    obtain ⟨t2, a1, b1⟩ := kx E ce q u t T'.heap (locs ++ L) e1.symm (by rw [← e2]; exact X'.warmed.alike) hp hb k1 k2 k3 (by rw [e1]; exact hce) hcv hcl T' rfl X'
    exact ⟨t2, st.trans a1, b1⟩
theorem vx_callv {S SX : Type} {post : S → Prop} {px : SX → Prop} {B : S → State → Prop} {BX : String → SX → State → Prop} {AX : Nat → Prop} (hr : vx_Run p l e R s m args below meth c H locs cells slots mc ms (F0 m pc ls st0) rest (va_Qv post B A1 a) (vx_X px BX AX) free) (hS : va_S A0 H0 H locs) (hA : ∀ q, q < H.size → A1 q → A0 q) (hf : ∀ q, free q → A0 q) (hAX : ∀ q, q < H.size → AX q → A0 q)
    (kx : ∀ (E : String) (ce : Cell) (q9 : Addr) (u : SX) (t : State) (H1 : Heap) (locs1 : List Loc), t.heap = H1 → s.vm.Alike t.vm → px u → BX E u t → H.size ≤ H1.size → (∀ q : Nat, q < H.size → ¬ AX q → H1[q]? = H[q]?) → va_S A0 H0 H1 locs1 → H1[q9]? = some ce → ce.vm = .none → s.vm.findClass E = some ce.cls → vx_W p l e R s m args below meth c H1 locs1 (cells + mc) (slots + ms) Q (F0 m pc ls rest) q9)
    (kk : ∀ (u : S) (t : State) (H1 : Heap) (locs1 : List Loc), t.heap = H1 → s.vm.Alike t.vm → post u → B u t → H.size ≤ H1.size → (∀ q : Nat, q < H.size → ¬ A1 q → H1[q]? = H[q]?) → va_S A0 H0 H1 locs1 → W p l e R s m args below meth c H1 locs1 (cells + mc) (slots + ms) Q (F0 m (pc + 3) ls (rest))) : W p l e R s m args below meth c H locs cells slots Q (F0 m pc ls st0) := by
  intro T hT X
  rcases hr T hT X with ⟨v, st₀, t, T', L, h0, X', hL, e1, e2, ⟨⟨u, hv, hp, hb⟩, hF⟩, st⟩ | ⟨q, st₀, t, T', L, E, ce, h0, X', hL, e1, e2, ⟨u, hp, hb, hF⟩, hce, hcv, hcl, st⟩
  · cases hv
    obtain ⟨k1, k2, k3⟩ := vx_keep h0 e1 hS hA hf hL hF
    obtain ⟨t2, a1, b1⟩ := kk u t T'.heap (locs ++ L) e1.symm (by rw [← e2]; exact X'.warmed.alike) hp hb k1 k2 k3 T' rfl X'
    exact ⟨t2, st t2 a1, b1⟩
  · obtain ⟨k1, k2, k3⟩ := vx_keep h0 e1 hS hAX hf hL hF
    obtain ⟨t2, a1, b1⟩ := kx E ce q u t T'.heap (locs ++ L) e1.symm (by rw [← e2]; exact X'.warmed.alike) hp hb k1 k2 k3 (by rw [e1]; exact hce) hcv hcl T' rfl X'
    exact ⟨t2, st.trans a1, b1⟩
/-- caught by the row x of this method's table; the rows ahead don't take it -/
theorem vx_catch {own name : String} {E : String} {ce : Cell} {q : Addr} (hown : s.vm.findClass own = some m.cls) (pre : List ExceptionTableEntry) (x : ExceptionTableEntry) (suf : List ExceptionTableEntry) (hsplit : c.exceptionTable.toList = pre ++ x :: suf)
    (hpass : ∀ z ∈ pre, covers z pc = false ∨ (z.catchType ≠ 0 ∧ ∃ nm : String, (Cond.classLink own z.catchType nm).before args s = true ∧ va_Nc E nm s)) (hx : covers x pc = true) (h0 : x.catchType ≠ 0)
    (hlink : (Cond.classLink own x.catchType name).before args s = true) (hcast : (Cond.castable E name).before args s = true) (hcell : H[q]? = some ce) (hv : ce.vm = .none) (hcl : s.vm.findClass E = some ce.cls)
    (kk : W p l e R s m args below meth c H locs cells slots Q (F0 m x.handlerPc ls [.ref q])) : vx_W p l e R s m args below meth c H locs cells slots Q (F0 m pc ls rest) q := by
  intro T hT X
  have hpl : e.platform.magicAccessors = ({} : Platform).magicAccessors := by rw [X.admits.platform]
  obtain ⟨c3, c4, hc3, hc4, hasg⟩ := Cond.castable_spec hcast
  cases Option.some.inj (hc3.symm.trans hcl)
  obtain ⟨c5, hc5, hcl5⟩ := Cond.classLink_spec hown hlink e.platform hpl
  cases Option.some.inj (hc4.symm.trans hc5)
  obtain ⟨vm', X', st⟩ := X.thenCaughtThrough q (g := F0 m pc ls rest) rfl (Steps.refl _) (by rw [hT]; exact hcell) (by rw [hv]; rfl) (by obtain ⟨k9, h9, -⟩ := Vm.findClass_spec hcl; exact ⟨k9, h9⟩) pre x suf hsplit
    (fun z hz => by
      rcases hpass z hz with h | ⟨hz0, nm, hl1, hn1⟩
      · exact Or.inl h
      · obtain ⟨c6, hc6, hcl6⟩ := Cond.classLink_spec hown hl1 e.platform hpl
        obtain ⟨a8, b8, h1, h2, h3⟩ := hn1
        cases Option.some.inj (h1.symm.trans hcl)
        cases Option.some.inj (h2.symm.trans hc6)
        exact Or.inr ⟨hz0, _, hcl6, h3⟩) hx (Or.inr ⟨h0, c4, hcl5, hasg⟩)
  obtain ⟨t, a1, b1⟩ := kk (T.setVm vm') hT X'
  exact ⟨t, st.trans a1, b1⟩
end Rows
section Ends
variable {p : Program} {l : Launch} {e : Env} {R : Room} {s : State} {m : MethodId} {args : Array Value} {below : List Frame} {meth : Method} {c : Code} {H : Heap} {locs : List Loc} {cells slots : Nat} {Q : State → Prop}
variable {mc ms : Nat} {free : Addr → Prop} {A0 A1 : Nat → Prop} {H0 : Heap} {a : Array Value} {ls : Array Slot} {st0 rest : List Value}
variable {Qc : Array Value → State → Outcome → State → Prop} {XC : String → State → State → Prop}
/-- what a body that may throw owes at its end -/
def vx_MQ (below : List Frame) (Qc : Array Value → State → Outcome → State → Prop) (XC : String → State → State → Prop) (a : Array Value) (s : State) (mc ms : Nat) (free : Addr → Prop) : State → Prop := fun t =>
  ∃ o, t.status = .running ∧ Ended t below o ∧ vx_Q Qc XC mc ms free a s o t
theorem vx_ret {g : JFrame} {mc ms : Nat} (k : W p l e R s m args below meth c H locs cells slots (MQ below Qc args s mc ms free) g) : W p l e R s m args below meth c H locs cells slots (vx_MQ below Qc XC args s mc ms free) g := by
  intro T hT X
  obtain ⟨t, a1, o, b1, b2, b3, b4⟩ := k T hT X
  exact ⟨t, a1, o, b1, b2, Or.inl ⟨b3, b4⟩⟩
/-- not caught here: it goes on to the caller -/
theorem vx_widen {g : JFrame} {q : Addr} {k n : Nat} (h1 : cells ≤ k) (h2 : slots ≤ n) (kk : vx_W p l e R s m args below meth c H locs k n Q g q) : vx_W p l e R s m args below meth c H locs cells slots Q g q := fun T hT X => kk T hT (stand_widen X h1 h2)
theorem vx_out {pc : Nat} {E : String} {ce : Cell} {q : Addr} {mc ms : Nat} (hout : ∀ x ∈ c.exceptionTable.toList, covers x pc = false) (hlocks : meth.locks = false) (hcell : H[q]? = some ce) (hv : ce.vm = .none) (hcl : s.vm.findClass E = some ce.cls)
    (hx : ∀ t : State, t.heap = H → s.vm.Alike t.vm → XC E s t) (hf : ∀ z ∈ locs, free z.base) (hc : cells ≤ mc) (hs : slots ≤ ms) :
    vx_W p l e R s m args below meth c H locs cells slots (vx_MQ below Qc XC args s mc ms free) (F0 m pc ls rest) q := by
  intro T hT X
  obtain ⟨st1, hrun, hend, hW, hsm⟩ := X.leaveThrown q (g := F0 m pc ls rest) rfl rfl rfl hout hlocks
  have hcell9 : (T.setFrames (.throwing q :: below)).heap[q]? = some ce := by
    show T.heap[q]? = some ce
    rw [hT]; exact hcell
  exact ⟨_, st1, .threw q, hrun, hend, Or.inr ⟨q, rfl, E, ce, locs, hx _ hT hW.alike, hcell9, hv, hcl, hW, hsm.mono hc hs, hf⟩⟩
theorem vx_frame {U : State} {k n : Nat} (h : s.sameButNew ({ U with vm := s.vm } : State) locs k n) : s.heap.size ≤ U.heap.size ∧ ∀ q : Nat, q < s.heap.size → (∀ z ∈ locs, z.base ≠ q) → U.heap[q]? = s.heap[q]? := by
  obtain ⟨-, h2, -, -, -, h6⟩ := h
  refine ⟨h2, fun q hq hz => ?_⟩
  obtain ⟨c9, e1, e2, e3, e4⟩ := h6 q _ (Array.getElem?_eq_getElem hq)
  have hs : c9.slots = (s.heap[q]).slots := Array.ext_getElem? fun i => e4 i fun hm => hz _ hm rfl
  have h9 : c9 = s.heap[q] := by
    rw [hs] at e2
    exact e2
  have e5 : U.heap[q]? = some c9 := e1
  rw [e5, h9, Array.getElem?_eq_getElem hq]
/-- the words of a throw but the four that speak of the heap -/
def vx_no (w : Cond) : Bool := decide (w ≠ .isRef (.static Bundle.tN "UNASSIGNED_STACK" Bundle.steD)) && decide (w ≠ .isRef (.static Bundle.tN "SUPPRESSED_SENTINEL" Bundle.listD)) && decide (w ≠ .laysStatic Bundle.tN "UNASSIGNED_STACK" Bundle.steD) && decide (w ≠ .laysStatic Bundle.tN "SUPPRESSED_SENTINEL" Bundle.listD)
def vx_at0 (own : String) (ic : Nat) (X : String) (names : List String) : List Cond := (Bundle.ownAtoms0 own ic X names).filter vx_no
def vx_atS (own : String) (ic : Nat) (X : String) (names : List String) : List Cond := (Bundle.ownAtoms own ic X names).filter vx_no
/-- a word that the tables alone decide, or a good one -/
def vx_ot (w : Cond) : Bool := w.onTables || goodWord w
theorem vx_ot_at {args a' : Array Value} {s U : State} {w : Cond} (hW : s.WarmedH U.vm) (hvm : s.vm = U.vm) (hg : vx_ot w = true) (h : w.before args s = true) : w.before a' U = true := by
  simp only [vx_ot, Bool.or_eq_true] at hg
  rcases hg with hg | hg
  · exact va_tabs hg hvm h
  · exact word_at hW (good_of_word hg) h
/-- a list's words: the good ones out of the method's own list, the others by premises of their own -/
theorem vx_hat {args : Array Value} {s : State} {L B : List Cond} (h1 : ∀ w ∈ L.filter goodWord, w.before args s = true) (h2 : ∀ w ∈ L.filter (fun w => !goodWord w), w ∈ B) (h3 : ∀ w ∈ B, w.before args s = true) : ∀ w ∈ L, w.before args s = true := by
  intro w hw
  by_cases g : goodWord w = true
  · exact h1 w (List.mem_filter.mpr ⟨hw, g⟩)
  · refine h3 w (h2 w (List.mem_filter.mpr ⟨hw, ?_⟩))
    show (!goodWord w) = true
    cases hgw : goodWord w
    · rfl
    · exact absurd hgw g
theorem vx_c {args : Array Value} {s : State} {w : Cond} {B : List Cond} (h : w.before args s = true) (t : ∀ w ∈ B, w.before args s = true) : ∀ w' ∈ w :: B, w'.before args s = true := fun w' h' => (List.mem_cons.mp h').elim (fun e => by rw [e]; exact h) (t w')
theorem vx_n {args : Array Value} {s : State} : ∀ w ∈ ([] : List Cond), w.before args s = true := fun _ h => nomatch h
theorem vx_own {args : Array Value} {s : State} {L : List Cond} (h1 : ∀ w ∈ L.filter vx_no, w.before args s = true)
    (hU : (Cond.isRef (.static Bundle.tN "UNASSIGNED_STACK" Bundle.steD)).before args s = true) (hN : (Cond.isRef (.static Bundle.tN "SUPPRESSED_SENTINEL" Bundle.listD)).before args s = true)
    (lU : (Cond.laysStatic Bundle.tN "UNASSIGNED_STACK" Bundle.steD).before args s = true) (lN : (Cond.laysStatic Bundle.tN "SUPPRESSED_SENTINEL" Bundle.listD).before args s = true) : ∀ w ∈ L, w.before args s = true := by
  intro w hw
  by_cases e1 : w = .isRef (.static Bundle.tN "UNASSIGNED_STACK" Bundle.steD)
  · rw [e1]; exact hU
  · by_cases e2 : w = .isRef (.static Bundle.tN "SUPPRESSED_SENTINEL" Bundle.listD)
    · rw [e2]; exact hN
    · by_cases e3 : w = .laysStatic Bundle.tN "UNASSIGNED_STACK" Bundle.steD
      · rw [e3]; exact lU
      · by_cases e4 : w = .laysStatic Bundle.tN "SUPPRESSED_SENTINEL" Bundle.listD
        · rw [e4]; exact lN
        · exact h1 w (List.mem_filter.mpr ⟨hw, by unfold vx_no; rw [decide_eq_true e1, decide_eq_true e2, decide_eq_true e3, decide_eq_true e4]; rfl⟩)
/-- where a static field lies, its class's statics cell in H -/
def vx_L (C n d : String) (A : Nat → Prop) (U : State) (H : Heap) : Prop := ∃ (c : ClassId) (k : Class) (i : Nat) (f : Field) (a : Nat) (cell : Cell), U.vm.findClass C = some c ∧ U.fieldFound? C n d = some (c, k, i, f) ∧ f.isStatic = true ∧ k.statics = some a ∧ H[a]? = some cell ∧ cell.vm.isStatics = true ∧ cell.cls = c ∧ f.slot < cell.slots.size ∧ k.staticTypes[f.slot]? = some f.type ∧ ¬ A a
theorem vx_L.moved {C n d : String} {A : Nat → Prop} {u U : State} {H : Heap} (hvm : u.vm.Alike U.vm) (h : vx_L C n d A u H) : vx_L C n d A U H := by
  obtain ⟨c, k, i, f, a, cell, h1, h2, h3, h4, h5, h6, h7, h8, h9, h10⟩ := h
  obtain ⟨k', hi', he⟩ := State.fieldFound?_setVm hvm h2
  exact ⟨c, k', i, f, a, cell, by rw [hvm.findClass]; exact h1, hi', h3, by rw [he]; exact h4, h5, h6, h7, h8, by rw [he]; exact h9, h10⟩
theorem vx_L.kept {C n d : String} {A : Nat → Prop} {U : State} {H H1 : Heap} (h : vx_L C n d A U H) (hq : ∀ a : Nat, a < H.size → ¬ A a → H1[a]? = H[a]?) : vx_L C n d A U H1 := by
  obtain ⟨c, k, i, f, a, cell, h1, h2, h3, h4, h5, h6, h7, h8, h9, h10⟩ := h
  exact ⟨c, k, i, f, a, cell, h1, h2, h3, h4, by rw [hq a (Array.getElem?_eq_some_iff.mp h5).1 h10]; exact h5, h6, h7, h8, h9, h10⟩
theorem vx_L.narrow {C n d : String} {A B : Nat → Prop} {U : State} {H : Heap} (h : vx_L C n d A U H) (hAB : ∀ q, B q → A q) : vx_L C n d B U H := by
  obtain ⟨c, k, i, f, a, cell, h1, h2, h3, h4, h5, h6, h7, h8, h9, h10⟩ := h
  exact ⟨c, k, i, f, a, cell, h1, h2, h3, h4, h5, h6, h7, h8, h9, fun z => h10 (hAB _ z)⟩
theorem vx_L.word {C n d : String} {A : Nat → Prop} {s : State} {args : Array Value} (h : vx_L C n d A s s.heap) : (Cond.laysStatic C n d).before args s = true := by
  obtain ⟨c, k, i, f, a, cell, h1, h2, h3, h4, h5, h6, h7, h8, h9, -⟩ := h
  show (Cond.laysStatic C n d).holds args s none s [] = true
  exact Cond.laysStatic_of h1 h2 h3 h4 h5 h6 h7 h8 h9
/-- .. and what it holds: null or some reference -/
def vx_Zq (C n d : String) (A : Nat → Prop) (U : State) (H : Heap) : Prop := va_Zq C n d A U H ∧ vx_L C n d A U H
theorem vx_Zq.moved {C n d : String} {A : Nat → Prop} {u U : State} {H : Heap} (hvm : u.vm.Alike U.vm) (h : vx_Zq C n d A u H) : vx_Zq C n d A U H := ⟨va_Zq.moved hvm h.1, vx_L.moved hvm h.2⟩
theorem vx_Zq.kept {C n d : String} {A : Nat → Prop} {U : State} {H H1 : Heap} (h : vx_Zq C n d A U H) (hq : ∀ a : Nat, a < H.size → ¬ A a → H1[a]? = H[a]?) : vx_Zq C n d A U H1 := ⟨va_Zq.kept h.1 hq, vx_L.kept h.2 hq⟩
theorem vx_Zq.narrow {C n d : String} {A B : Nat → Prop} {U : State} {H : Heap} (h : vx_Zq C n d A U H) (hAB : ∀ q, B q → A q) : vx_Zq C n d B U H := ⟨va_Zq.narrow h.1 hAB, vx_L.narrow h.2 hAB⟩
theorem vx_Zqof {args : Array Value} {s : State} {C n d : String} {A : Nat → Prop} (hl : (Cond.laysStatic C n d).before args s = true) (hini : (Cond.initialized C).before args s = true) (h : (Cond.isRef (.static C n d)).before args s = true) (hA : ∀ a : Nat, a < s.heap.size → ¬ A a) : vx_Zq C n d A s s.heap := by
  refine ⟨va_Zqof hl hini h hA, ?_⟩
  obtain ⟨c, k, i, f, a, cell, h1, h2, h3, h4, h5, h6, h7, h8, h9⟩ := Cond.laysStatic_spec hl
  exact ⟨c, k, i, f, a, cell, h1, h2, h3, h4, h5, h6, h7, h8, h9, hA a (Array.getElem?_eq_some_iff.mp h5).1⟩
theorem vx_isRef {C n d : String} {v : Value} {A : Nat → Prop} {s : State} {args : Array Value} (h : va_Z C n d v A s s.heap) (hv : v.isRef = true) : (Cond.isRef (.static C n d)).before args s = true := by
  obtain ⟨cf, kf, fi, f, a, cell, h1, h2, h3, h4, h5, h6, h7, -⟩ := h
  have he : (Term.static C n d).eval args s none [] s = some v := by
    simp [Term.eval, State.fieldNamed?, h1, h2, h4, h5, h6, h7]
  simp only [Cond.before, Cond.holds, Cond.value, he]
  cases v <;> simp_all [Value.isRef]
theorem vx_isRefq {C n d : String} {A : Nat → Prop} {s : State} {args : Array Value} (h : va_Zq C n d A s s.heap) : (Cond.isRef (.static C n d)).before args s = true := by
  rcases h with h | ⟨t, h⟩
  · exact vx_isRef h rfl
  · exact vx_isRef h rfl
/-- the same frame, seen from here: as if the method were called anew in this heap -/
theorem vx_rebase {T : State} (X : Stand p l e R s m args below meth c T locs cells slots) {R' : Room} (hf : R'.frames ≤ R.frames) (hl : R'.locals ≤ R.locals) (hc : cells + R'.cells ≤ R.cells) (hs : slots + R'.slots ≤ R.slots) :
    Stand p l e R' ((T.setVm s.vm).setFrames (.invoking m args :: below)) m args below meth c T [] 0 0 := by
  have htop : (T.setVm s.vm).topJava?.isSome := X.here.top
  have hF : ((T.setVm s.vm).setFrames (.invoking m args :: below)).frames = .invoking m args :: below := State.frames_setFrames _ (State.cur_lt_of_top htop)
  obtain ⟨g₀, hg0⟩ := Option.isSome_iff_exists.mp htop
  obtain ⟨r, hr⟩ := State.topJava?_eq_some.mp hg0
  have hl9 : e.platform.stackLimits (T.setVm s.vm).me = e.platform.stackLimits s.me := X.limits
  have hb9 : (T.setVm s.vm).me.stackBytes = s.me.stackBytes := X.bytes
  refine ⟨X.admits, X.cas, X.clock, hF, ?_, X.hears, X.method, X.code, X.here, X.tail, X.warmed, ?_, ?_, ?_⟩
  · have h := X.room
    have hU : ((T.setVm s.vm).setFrames (.invoking m args :: below)).localsInUse = s.localsInUse := by
      rw [State.localsInUse_invoking hF (meth := meth) (c := c) X.method X.code, State.localsInUse_invoking X.frames X.method X.code]
    simp only [State.hasRoom, Bool.and_eq_true, decide_eq_true_eq] at h ⊢
    obtain ⟨⟨⟨⟨h1, h2, h3, h4, h5, h6⟩, h7⟩, h8⟩, h9⟩ := h
    rw [X.frames, List.length_cons] at h2 h3
    have q1 := X.heapSize
    have q2 := X.used
    simp only [hF, hU, List.length_cons, State.stackLimits_setFrames, State.stackBytes_setFrames, hl9, hb9]
    refine ⟨⟨⟨⟨by omega, by omega, by omega, by omega, by omega, h6⟩, ?_⟩, ?_⟩, X.book⟩
    · show T.heap.size + R'.cells ≤ e.platform.maxCells
      omega
    · show T.slotsUsed + R'.slots ≤ e.platform.maxSlots
      omega
  · rw [State.stackLimits_setFrames]; rfl
  · rw [State.stackBytes_setFrames]; rfl
  · refine ⟨?_, Nat.le_refl _, Nat.le_refl _, ?_, ?_, fun a c9 h9 => ⟨c9, h9, rfl, rfl, fun _ _ => rfl⟩⟩
    · obtain ⟨t, ht, -⟩ := State.frames_cons hr
      show T.setVm s.vm = { ((T.setVm s.vm).setFrames (.invoking m args :: below)).setFrames (T.setVm s.vm).frames with heap := T.heap, slotsUsed := T.slotsUsed }
      rw [State.setFrames_setFrames, State.setFrames_self ht]
      rfl
    · show T.slotsUsed = T.slotsUsed + ((T.heap.toList.drop T.heap.size).map (·.slots.size)).sum
      rw [List.drop_eq_nil_of_le (Nat.le_of_eq Array.length_toList)]
      rfl
    · show ((T.heap.toList.drop T.heap.size).map (·.slots.size)).sum ≤ 0
      rw [List.drop_eq_nil_of_le (Nat.le_of_eq Array.length_toList)]
      exact Nat.le_refl _
/-- 'throw new E()': new; dup; invokespecial; athrow -/
theorem vx_throw0 {cc : ByteArray} {pc : Nat} (hexec : p.tables.exec = Jvm.exec) (hb : c.code = cc) (hl : l.stackTraces = false) {own cls : String} {names : List String} {ik ic mc ms : Nat} {A : Nat → Prop}
    (hown : s.vm.findClass own = some m.cls) (hcls : Bundle.fit cls = true) (hnames : ∀ n ∈ names, Bundle.fit n = true)
    (hk : (Cond.classLink own ik cls).before args s = true) (hini : (Cond.initialized cls).before args s = true) (hat : ∀ w ∈ vx_at0 own ic cls names, w.before args s = true)
    (hgood : ∀ w ∈ Cond.classLink own ik cls :: Cond.initialized cls :: vx_at0 own ic cls names, vx_ot w = true)
    (hU : vx_Zq Bundle.tN "UNASSIGNED_STACK" Bundle.steD A s s.heap) (hN : vx_Zq Bundle.tN "SUPPRESSED_SENTINEL" Bundle.listD A s s.heap) (hS : va_S A s.heap H locs) (hsize : ls.size = c.maxLocals)
    (d0 : decode cc pc = .ok (.new ik, 3)) (d3 : decode cc (pc + 3) = .ok (.dup, 1)) (d4 : decode cc (pc + 4) = .ok (.invokespecial ic, 3)) (d7 : decode cc (pc + 7) = .ok (.athrow, 1))
    (hout : ∀ x ∈ c.exceptionTable.toList, covers x (pc + 7) = false)
    (hRframes : names.length + 3 < R.frames) (hRlocals : (rest.map fun v => v.category).sum + (13 * (names.length + 1) + 42) ≤ R.locals) (hRcells : cells + 1 ≤ R.cells) (hRslots : slots + 6 ≤ R.slots) (hlocks : meth.locks = false)
    (hx : ∀ t : State, s.vm.Alike t.vm → H.size ≤ t.heap.size → (∀ q : Nat, q < H.size → t.heap[q]? = H[q]?) → XC cls s t)
    (hf : ∀ z ∈ locs, free z.base) (hc : cells + 1 ≤ mc) (hs : slots + 6 ≤ ms) :
    W p l e R s m args below meth c H locs cells slots (vx_MQ below Qc XC args s mc ms free) (F0 m pc ls rest) := by
  intro T hT X
  have htr : e.platform.stackTraces = false := (show e.platform.stackTraces = l.stackTraces by rw [X.admits.platform]).trans hl
  have Y := vx_rebase X (R' := { frames := R.frames, locals := R.locals, cells := 1, slots := 6 }) (Nat.le_refl _) (Nat.le_refl _) hRcells hRslots
  obtain ⟨s', hA⟩ : ∃ z, z = (T.setVm s.vm).setFrames (.invoking m args :: below) := ⟨_, rfl⟩
  rw [← hA] at Y
  have hvm : s'.vm = s.vm := by rw [hA]; rfl
  have hhp : s'.heap = H := by rw [hA]; exact hT
  have hW0 : s.WarmedH s'.vm := by rw [hvm]; exact State.WarmedH.refl s
  have hat' : ∀ w ∈ vx_at0 own ic cls names, w.before args s' = true := fun w hw => vx_ot_at hW0 hvm.symm (hgood w (List.mem_cons_of_mem _ (List.mem_cons_of_mem _ hw))) (hat w hw)
  have hk' : (Cond.classLink own ik cls).before args s' = true := vx_ot_at hW0 hvm.symm (hgood _ List.mem_cons_self) hk
  have hini' : (Cond.initialized cls).before args s' = true := vx_ot_at hW0 hvm.symm (hgood _ (List.mem_cons_of_mem _ List.mem_cons_self)) hini
  have hU' : vx_Zq Bundle.tN "UNASSIGNED_STACK" Bundle.steD A s' s'.heap := by rw [hhp]; exact vx_Zq.moved hW0.alike (hU.kept hS.2.1)
  have hN' : vx_Zq Bundle.tN "SUPPRESSED_SENTINEL" Bundle.listD A s' s'.heap := by rw [hhp]; exact vx_Zq.moved hW0.alike (hN.kept hS.2.1)
  have h : ∀ w ∈ Bundle.ownAtoms0 own ic cls names, w.before args s' = true := vx_own hat' (vx_isRefq hU'.1) (vx_isRefq hN'.1) hU'.2.word hN'.2.word
  have hown' : s'.vm.findClass own = some m.cls := by rw [hvm]; exact hown
  have hins : (Cond.instantiable cls 6).before args s' = true := h _ (by simp [Bundle.ownAtoms0])
  obtain ⟨vm₁, cX, kX, hfX, hkX, -, -, X₁, st1⟩ := Y.newCold hexec (own := own) (C := cls) (index := ik) (n := 6) hown' hk' hins hini'
    (g := F0 m pc ls rest) rfl (by rw [hb]; exact d0) (Nat.le_refl _) (Nat.le_refl _)
  generalize hT1 : (T.setVm vm₁).pushCell { cls := cX, slots := kX.instanceTypes.map defaultValue, vm := .none } = T1 at X₁ st1
  have hcat : (Value.ref T.heap.size).category = 1 := rfl
  have hcellA : T1.heap[T.heap.size]? = some (freshCell cX kX) := by rw [← hT1]; exact State.heap_pushCell_size _ _
  have d3' : decode c.code (pc + 3) = .ok (.dup, 1) := by rw [hb]; exact d3
  obtain ⟨U, hsteps, hrun, hend, hW, hsame, ce, hce, hO⟩ := X₁.ctorThrow0 hexec htr (own := own) (cls := cls) (names := names) (ic := ic) hown' hcls hnames h (fun x hx => nomatch hx) hfX hkX hcellA (by rw [hhp, hT]; exact Nat.le_refl _)
    (g := { method := m, pc := pc + 4, locals := ls, stack := .ref T.heap.size :: .ref T.heap.size :: rest, locked := none }) rfl hsize rfl rfl (rest := rest) rfl
    (by rw [hb]; exact d4) (by rw [hb]; exact d7) hout hRframes (by simp only [List.map_cons, List.sum_cons, hcat]; omega) hlocks
  obtain ⟨f1, f2⟩ := vx_frame hsame
  rw [hhp] at f1 f2
  have hWs : s.WarmedH U.vm := State.WarmedH.trans hW0 hW
  have hcl : s.vm.findClass cls = some ce.cls := by
    have h9 := hO.cls
    rw [hvm] at h9
    exact h9
  have hall : s.sameButNew ({ U with vm := s.vm } : State) locs mc ms := by
    subst hA
    obtain ⟨e1, e2⟩ := hsame
    rw [State.setFrames_setFrames] at e1
    have h2 : (T.setVm s.vm).sameButNew ({ U with vm := s.vm } : State) [] (0 + 1) (0 + 6) := ⟨e1, e2⟩
    have h3 := X.same.trans h2
    rw [List.append_nil] at h3
    exact h3.mono hc hs
  refine ⟨U, ?_, .threw T.heap.size, hrun, hend, Or.inr ⟨T.heap.size, rfl, cls, ce, locs, hx U hWs.alike f1 (fun q hq => f2 q hq (fun z hz => nomatch hz)), hce, hO.vm, hcl, hWs, hall, hf⟩⟩
  refine st1 _ ?_
  show Steps p.tables e below (T1.setTop { method := m, pc := pc + 3, locals := ls, stack := .ref T.heap.size :: rest, locked := none }) _
  jvm_step X₁.here [X₁.here.top, hexec, d3', Value.category]
  exact hsteps
/-- 'throw new E("text")': new; dup; ldc; invokespecial; athrow -/
theorem vx_throwS {cc : ByteArray} {pc : Nat} (hexec : p.tables.exec = Jvm.exec) (hb : c.code = cc) (hl : l.stackTraces = false) {own cls text : String} {names : List String} {ik is ic mc ms sa : Nat} {A : Nat → Prop}
    (hown : s.vm.findClass own = some m.cls) (hcls : Bundle.fit cls = true) (hnames : ∀ n ∈ names, Bundle.fit n = true)
    (hk : (Cond.classLink own ik cls).before args s = true) (hini : (Cond.initialized cls).before args s = true) (hstr : vk_R own is text sa s) (hat : ∀ w ∈ vx_atS own ic cls names, w.before args s = true)
    (hgood : ∀ w ∈ Cond.classLink own ik cls :: Cond.initialized cls :: vx_atS own ic cls names, vx_ot w = true)
    (hU : vx_Zq Bundle.tN "UNASSIGNED_STACK" Bundle.steD A s s.heap) (hN : vx_Zq Bundle.tN "SUPPRESSED_SENTINEL" Bundle.listD A s s.heap) (hS : va_S A s.heap H locs) (hsize : ls.size = c.maxLocals)
    (d0 : decode cc pc = .ok (.new ik, 3)) (d3 : decode cc (pc + 3) = .ok (.dup, 1)) (d4 : decode cc (pc + 4) = .ok (.ldc is, 2)) (d6 : decode cc (pc + 6) = .ok (.invokespecial ic, 3)) (d9 : decode cc (pc + 9) = .ok (.athrow, 1))
    (hout : ∀ x ∈ c.exceptionTable.toList, covers x (pc + 9) = false)
    (hRframes : names.length + 3 < R.frames) (hRlocals : (rest.map fun v => v.category).sum + (13 * (names.length + 1) + 43) ≤ R.locals) (hRcells : cells + 1 ≤ R.cells) (hRslots : slots + 6 ≤ R.slots) (hlocks : meth.locks = false)
    (hx : ∀ t : State, s.vm.Alike t.vm → H.size ≤ t.heap.size → (∀ q : Nat, q < H.size → t.heap[q]? = H[q]?) → XC cls s t)
    (hf : ∀ z ∈ locs, free z.base) (hc : cells + 1 ≤ mc) (hs : slots + 6 ≤ ms) :
    W p l e R s m args below meth c H locs cells slots (vx_MQ below Qc XC args s mc ms free) (F0 m pc ls rest) := by
  intro T hT X
  have htr : e.platform.stackTraces = false := (show e.platform.stackTraces = l.stackTraces by rw [X.admits.platform]).trans hl
  have Y := vx_rebase X (R' := { frames := R.frames, locals := R.locals, cells := 1, slots := 6 }) (Nat.le_refl _) (Nat.le_refl _) hRcells hRslots
  obtain ⟨s', hA⟩ : ∃ z, z = (T.setVm s.vm).setFrames (.invoking m args :: below) := ⟨_, rfl⟩
  rw [← hA] at Y
  have hvm : s'.vm = s.vm := by rw [hA]; rfl
  have hhp : s'.heap = H := by rw [hA]; exact hT
  have hW0 : s.WarmedH s'.vm := by rw [hvm]; exact State.WarmedH.refl s
  have hat' : ∀ w ∈ vx_atS own ic cls names, w.before args s' = true := fun w hw => vx_ot_at hW0 hvm.symm (hgood w (List.mem_cons_of_mem _ (List.mem_cons_of_mem _ hw))) (hat w hw)
  have hk' : (Cond.classLink own ik cls).before args s' = true := vx_ot_at hW0 hvm.symm (hgood _ List.mem_cons_self) hk
  have hini' : (Cond.initialized cls).before args s' = true := vx_ot_at hW0 hvm.symm (hgood _ (List.mem_cons_of_mem _ List.mem_cons_self)) hini
  have hU' : vx_Zq Bundle.tN "UNASSIGNED_STACK" Bundle.steD A s' s'.heap := by rw [hhp]; exact vx_Zq.moved hW0.alike (hU.kept hS.2.1)
  have hN' : vx_Zq Bundle.tN "SUPPRESSED_SENTINEL" Bundle.listD A s' s'.heap := by rw [hhp]; exact vx_Zq.moved hW0.alike (hN.kept hS.2.1)
  have h : ∀ w ∈ Bundle.ownAtoms own ic cls names, w.before args s' = true := vx_own hat' (vx_isRefq hU'.1) (vx_isRefq hN'.1) hU'.2.word hN'.2.word
  have hown' : s'.vm.findClass own = some m.cls := by rw [hvm]; exact hown
  have hins : (Cond.instantiable cls 6).before args s' = true := h _ (by simp [Bundle.ownAtoms])
  obtain ⟨vm₁, cX, kX, hfX, hkX, -, -, X₁, st1⟩ := Y.newCold hexec (own := own) (C := cls) (index := ik) (n := 6) hown' hk' hins hini'
    (g := F0 m pc ls rest) rfl (by rw [hb]; exact d0) (Nat.le_refl _) (Nat.le_refl _)
  generalize hT1 : (T.setVm vm₁).pushCell { cls := cX, slots := kX.instanceTypes.map defaultValue, vm := .none } = T1 at X₁ st1
  have hcat : (Value.ref T.heap.size).category = 1 := rfl
  have hcellA : T1.heap[T.heap.size]? = some (freshCell cX kX) := by rw [← hT1]; exact State.heap_pushCell_size _ _
  have d3' : decode c.code (pc + 3) = .ok (.dup, 1) := by rw [hb]; exact d3
  have d4' : decode c.code (pc + 4) = .ok (.ldc is, 2) := by rw [hb]; exact d4
  have hstr' : vk_R own is text sa s' := vk_R.warm hW0 hstr
  obtain ⟨U, hsteps, hrun, hend, hW, hsame, ce, hce, hO⟩ := X₁.ctorThrowS hexec htr (own := own) (cls := cls) (names := names) (ic := ic) hown' hcls hnames h (fun x hx => nomatch hx) hfX hkX hcellA (by rw [hhp, hT]; exact Nat.le_refl _) (msg := .ref sa) rfl
    (g := { method := m, pc := pc + 6, locals := ls, stack := .ref sa :: .ref T.heap.size :: .ref T.heap.size :: rest, locked := none }) rfl hsize rfl rfl (rest := rest) rfl
    (by rw [hb]; exact d6) (by rw [hb]; exact d9) hout hRframes (by simp only [List.map_cons, List.sum_cons, hcat]; omega) hlocks
  obtain ⟨f1, f2⟩ := vx_frame hsame
  rw [hhp] at f1 f2
  have hWs : s.WarmedH U.vm := State.WarmedH.trans hW0 hW
  have hcl : s.vm.findClass cls = some ce.cls := by
    have h9 := hO.cls
    rw [hvm] at h9
    exact h9
  have hall : s.sameButNew ({ U with vm := s.vm } : State) locs mc ms := by
    subst hA
    obtain ⟨e1, e2⟩ := hsame
    rw [State.setFrames_setFrames] at e1
    have h2 : (T.setVm s.vm).sameButNew ({ U with vm := s.vm } : State) [] (0 + 1) (0 + 6) := ⟨e1, e2⟩
    have h3 := X.same.trans h2
    rw [List.append_nil] at h3
    exact h3.mono hc hs
  refine ⟨U, ?_, .threw T.heap.size, hrun, hend, Or.inr ⟨T.heap.size, rfl, cls, ce, locs, hx U hWs.alike f1 (fun q hq => f2 q hq (fun z hz => nomatch hz)), hce, hO.vm, hcl, hWs, hall, hf⟩⟩
  refine st1 _ ?_
  show Steps p.tables e below (T1.setTop { method := m, pc := pc + 3, locals := ls, stack := .ref T.heap.size :: rest, locked := none }) _
  jvm_step X₁.here [X₁.here.top, hexec, d3', Value.category]
  exact X₁.ldcString hexec (own := own) (text := text) (index := is) (a := sa) hown' hstr'.1 hstr'.2
    (g := { method := m, pc := pc + 4, locals := ls, stack := .ref T.heap.size :: .ref T.heap.size :: rest, locked := none }) rfl d4' _ hsteps
/-- 'throw new E("text")', the text by a wide index -/
theorem vx_throwSW {cc : ByteArray} {pc : Nat} (hexec : p.tables.exec = Jvm.exec) (hb : c.code = cc) (hl : l.stackTraces = false) {own cls text : String} {names : List String} {ik is ic mc ms sa : Nat} {A : Nat → Prop}
    (hown : s.vm.findClass own = some m.cls) (hcls : Bundle.fit cls = true) (hnames : ∀ n ∈ names, Bundle.fit n = true)
    (hk : (Cond.classLink own ik cls).before args s = true) (hini : (Cond.initialized cls).before args s = true) (hstr : vk_R own is text sa s) (hat : ∀ w ∈ vx_atS own ic cls names, w.before args s = true)
    (hgood : ∀ w ∈ Cond.classLink own ik cls :: Cond.initialized cls :: vx_atS own ic cls names, vx_ot w = true)
    (hU : vx_Zq Bundle.tN "UNASSIGNED_STACK" Bundle.steD A s s.heap) (hN : vx_Zq Bundle.tN "SUPPRESSED_SENTINEL" Bundle.listD A s s.heap) (hS : va_S A s.heap H locs) (hsize : ls.size = c.maxLocals)
    (d0 : decode cc pc = .ok (.new ik, 3)) (d3 : decode cc (pc + 3) = .ok (.dup, 1)) (d4 : decode cc (pc + 4) = .ok (.ldc_w is, 3)) (d7 : decode cc (pc + 7) = .ok (.invokespecial ic, 3)) (d10 : decode cc (pc + 10) = .ok (.athrow, 1))
    (hout : ∀ x ∈ c.exceptionTable.toList, covers x (pc + 10) = false)
    (hRframes : names.length + 3 < R.frames) (hRlocals : (rest.map fun v => v.category).sum + (13 * (names.length + 1) + 43) ≤ R.locals) (hRcells : cells + 1 ≤ R.cells) (hRslots : slots + 6 ≤ R.slots) (hlocks : meth.locks = false)
    (hx : ∀ t : State, s.vm.Alike t.vm → H.size ≤ t.heap.size → (∀ q : Nat, q < H.size → t.heap[q]? = H[q]?) → XC cls s t)
    (hf : ∀ z ∈ locs, free z.base) (hc : cells + 1 ≤ mc) (hs : slots + 6 ≤ ms) :
    W p l e R s m args below meth c H locs cells slots (vx_MQ below Qc XC args s mc ms free) (F0 m pc ls rest) := by
  intro T hT X
  have htr : e.platform.stackTraces = false := (show e.platform.stackTraces = l.stackTraces by rw [X.admits.platform]).trans hl
  have Y := vx_rebase X (R' := { frames := R.frames, locals := R.locals, cells := 1, slots := 6 }) (Nat.le_refl _) (Nat.le_refl _) hRcells hRslots
  obtain ⟨s', hA⟩ : ∃ z, z = (T.setVm s.vm).setFrames (.invoking m args :: below) := ⟨_, rfl⟩
  rw [← hA] at Y
  have hvm : s'.vm = s.vm := by rw [hA]; rfl
  have hhp : s'.heap = H := by rw [hA]; exact hT
  have hW0 : s.WarmedH s'.vm := by rw [hvm]; exact State.WarmedH.refl s
  have hat' : ∀ w ∈ vx_atS own ic cls names, w.before args s' = true := fun w hw => vx_ot_at hW0 hvm.symm (hgood w (List.mem_cons_of_mem _ (List.mem_cons_of_mem _ hw))) (hat w hw)
  have hk' : (Cond.classLink own ik cls).before args s' = true := vx_ot_at hW0 hvm.symm (hgood _ List.mem_cons_self) hk
  have hini' : (Cond.initialized cls).before args s' = true := vx_ot_at hW0 hvm.symm (hgood _ (List.mem_cons_of_mem _ List.mem_cons_self)) hini
  have hU' : vx_Zq Bundle.tN "UNASSIGNED_STACK" Bundle.steD A s' s'.heap := by rw [hhp]; exact vx_Zq.moved hW0.alike (hU.kept hS.2.1)
  have hN' : vx_Zq Bundle.tN "SUPPRESSED_SENTINEL" Bundle.listD A s' s'.heap := by rw [hhp]; exact vx_Zq.moved hW0.alike (hN.kept hS.2.1)
  have h : ∀ w ∈ Bundle.ownAtoms own ic cls names, w.before args s' = true := vx_own hat' (vx_isRefq hU'.1) (vx_isRefq hN'.1) hU'.2.word hN'.2.word
  have hown' : s'.vm.findClass own = some m.cls := by rw [hvm]; exact hown
  have hins : (Cond.instantiable cls 6).before args s' = true := h _ (by simp [Bundle.ownAtoms])
  obtain ⟨vm₁, cX, kX, hfX, hkX, -, -, X₁, st1⟩ := Y.newCold hexec (own := own) (C := cls) (index := ik) (n := 6) hown' hk' hins hini'
    (g := F0 m pc ls rest) rfl (by rw [hb]; exact d0) (Nat.le_refl _) (Nat.le_refl _)
  generalize hT1 : (T.setVm vm₁).pushCell { cls := cX, slots := kX.instanceTypes.map defaultValue, vm := .none } = T1 at X₁ st1
  have hcat : (Value.ref T.heap.size).category = 1 := rfl
  have hcellA : T1.heap[T.heap.size]? = some (freshCell cX kX) := by rw [← hT1]; exact State.heap_pushCell_size _ _
  have d3' : decode c.code (pc + 3) = .ok (.dup, 1) := by rw [hb]; exact d3
  have d4' : decode c.code (pc + 4) = .ok (.ldc_w is, 3) := by rw [hb]; exact d4
  have hstr' : vk_R own is text sa s' := vk_R.warm hW0 hstr
  obtain ⟨U, hsteps, hrun, hend, hW, hsame, ce, hce, hO⟩ := X₁.ctorThrowS hexec htr (own := own) (cls := cls) (names := names) (ic := ic) hown' hcls hnames h (fun x hx => nomatch hx) hfX hkX hcellA (by rw [hhp, hT]; exact Nat.le_refl _) (msg := .ref sa) rfl
    (g := { method := m, pc := pc + 7, locals := ls, stack := .ref sa :: .ref T.heap.size :: .ref T.heap.size :: rest, locked := none }) rfl hsize rfl rfl (rest := rest) rfl
    (by rw [hb]; exact d7) (by rw [hb]; exact d10) hout hRframes (by simp only [List.map_cons, List.sum_cons, hcat]; omega) hlocks
  obtain ⟨f1, f2⟩ := vx_frame hsame
  rw [hhp] at f1 f2
  have hWs : s.WarmedH U.vm := State.WarmedH.trans hW0 hW
  have hcl : s.vm.findClass cls = some ce.cls := by
    have h9 := hO.cls
    rw [hvm] at h9
    exact h9
  have hall : s.sameButNew ({ U with vm := s.vm } : State) locs mc ms := by
    subst hA
    obtain ⟨e1, e2⟩ := hsame
    rw [State.setFrames_setFrames] at e1
    have h2 : (T.setVm s.vm).sameButNew ({ U with vm := s.vm } : State) [] (0 + 1) (0 + 6) := ⟨e1, e2⟩
    have h3 := X.same.trans h2
    rw [List.append_nil] at h3
    exact h3.mono hc hs
  refine ⟨U, ?_, .threw T.heap.size, hrun, hend, Or.inr ⟨T.heap.size, rfl, cls, ce, locs, hx U hWs.alike f1 (fun q hq => f2 q hq (fun z hz => nomatch hz)), hce, hO.vm, hcl, hWs, hall, hf⟩⟩
  refine st1 _ ?_
  show Steps p.tables e below (T1.setTop { method := m, pc := pc + 3, locals := ls, stack := .ref T.heap.size :: rest, locked := none }) _
  jvm_step X₁.here [X₁.here.top, hexec, d3', Value.category]
  exact X₁.ldcStringW hexec (own := own) (text := text) (index := is) (a := sa) hown' hstr'.1 hstr'.2
    (g := { method := m, pc := pc + 4, locals := ls, stack := .ref T.heap.size :: .ref T.heap.size :: rest, locked := none }) rfl d4' _ hsteps
end Ends
section Bodies
variable {l : Launch}
theorem vx_ofW {y : MethodName} {ws ws' : List Cond} {rm : Room} {Pc : Array Value → State → Prop} {Qc : Array Value → State → Outcome → State → Prop} {XC : String → State → State → Prop} {mc ms : Nat} {free : Addr → Prop} {cc : ByteArray} {maxL : Nat} {ret : Option FieldType}
    (hy : plainName y.cls = true) (hw : ws = Cond.code y cc maxL ret :: ws')
    (body : ∀ p e s m args below meth c s₁, BodyLoose p l y (headSpec ws rm) cc maxL ret e s m args below meth c s₁ → c.maxLocals = maxL → (∀ x ∈ c.exceptionTable.toList, False) → Pc args s →
      W p l e (headSpec ws rm).room s m args below meth c s.heap [] 0 0 (vx_MQ below Qc XC args s mc ms free) (entryFrame m args maxL)) : vx_Met l y ws rm Pc Qc XC mc ms free := by
  refine MetFree.of_bodyS (code := cc) (maxLocals := maxL) (ret := ret) hy ?_ ?_
  · intro args s m h hn
    obtain ⟨meth, c, h1, h2, h3, h4, h5, h6, -, -⟩ := Cond.code_spec hn (atoms_spec (ws := ws) h _ (by rw [hw]; exact List.mem_cons_self))
    exact ⟨meth, c, h1, h2, h3, h4, h5, h6⟩
  · intro p e s m args below meth c s₁ B hml hP _
    have hh0 : s₁.heap = s.heap := by rw [B.state]; rfl
    have ht : ∀ x ∈ c.exceptionTable.toList, False := by
      obtain ⟨meth9, c9, h1, h2, -, -, -, -, h7, -⟩ := Cond.code_spec B.named (atoms_spec (ws := ws) B.pre _ (by rw [hw]; exact List.mem_cons_self))
      cases Option.some.inj (h1.symm.trans B.method)
      cases Option.some.inj (h2.symm.trans (Stand.of_body B).code)
      intro x hx
      rw [Array.isEmpty_iff.mp h7] at hx
      cases hx
    obtain ⟨t, a1, o, b1, b2, b3⟩ := body p e s m args below meth c s₁ B hml ht hP s₁ hh0 (Stand.of_body B)
    exact ⟨t, o, a1, b1, b2, b3⟩
/-- the table of a body with handlers -/
theorem vx_table {p : Program} {x y : MethodName} {S : Spec} {cc bytes : ByteArray} {maxL maxL' : Nat} {ret ret' : Option FieldType} {e : Env} {s s₁ : State} {m : MethodId} {args : Array Value} {below : List Frame} {meth : Method} {c : Code} {hh : List (Nat × Nat × Nat × Nat)}
    (B : BodyLoose p l y S cc maxL ret e s m args below meth c s₁) (h : (Cond.codeWith y bytes maxL' ret' hh).before args s = true) : c.exceptionTable.toList = tableOf hh := by
  obtain ⟨m9, meth9, c9, hn9, h1, h2, -, -, h6, -⟩ := Cond.codeWith_spec h
  cases Option.some.inj (hn9.symm.trans B.named)
  cases Option.some.inj (h1.symm.trans B.method)
  cases Option.some.inj (h2.symm.trans (Stand.of_body B).code)
  rw [← h6, table_eq]
end Bodies
end VXA
/-! ===== END ===== -/
/-! ===== BEGIN a static call of a method with an exception table ===== -/
section VXS
variable {p : Program} {l : Launch} {e : Env} {R : Room} {s : State} {m : MethodId} {args : Array Value} {below : List Frame} {meth : Method} {c : Code} {T : State} {H : Heap} {locs : List Loc} {cells slots : Nat}
abbrev vx_CSW (R : Room) (s : State) (args : Array Value) (own : String) (index : Nat) (y : MethodName) (bytes : ByteArray) (maxL : Nat) (ret : Option FieldType) (hh : List (Nat × Nat × Nat × Nat)) (ws : List Cond) (rm : Room) (mc ms n : Nat) : Prop :=
  (rm.cells = mc ∧ rm.slots = ms ∧ rm.frames + 1 ≤ R.frames ∧ 8 + (maxL + 11) + rm.locals ≤ R.locals ∧ (∀ w ∈ ws, ∀ (a' : Array Value) (U : State), s.WarmedH U.vm → w.before a' U = true) ∧ Cond.codeWith y bytes maxL ret hh ∈ ws) ∧
  (Cond.codeWith y bytes maxL ret hh).before args s = true ∧ (Cond.initialized y.cls).before args s = true ∧ (y.cls ≠ "java/lang/invoke/MethodHandle" ∧ y.cls ≠ "java/lang/invoke/VarHandle") ∧
  (∀ sig, parseMethodDescriptor y.desc = some sig → n = sig.parameters.length) ∧ (Cond.methodLink own index y).before args s = true ∧ (Cond.static y).before args s = true
theorem vx_cwSW {own : String} {index maxL mc ms : Nat} {y : MethodName} {bytes : ByteArray} {ret : Option FieldType} {hh : List (Nat × Nat × Nat × Nat)} {Ts ws ws' : List Cond} {rm : Room} (n : Nat) (ht : ∀ w ∈ Ts, w.before args s = true) (hT : GoodIn Ts (va_wsS own index y ws)) (hw : ws = Cond.codeWith y bytes maxL ret hh :: ws') (hrc : rm.cells = mc) (hrs : rm.slots = ms)
    (hd : y.cls ≠ "java/lang/invoke/MethodHandle" ∧ y.cls ≠ "java/lang/invoke/VarHandle" ∧ (parseMethodDescriptor y.desc).map (fun d => d.parameters.length) = some n) (hR : rm.frames + 1 ≤ R.frames ∧ 8 + (maxL + 11) + rm.locals ≤ R.locals) :
    vx_CSW R s args own index y bytes maxL ret hh ws rm mc ms n := by
  have ok : ∀ w ∈ va_wsS own index y ws, w.before args s = true := fun w h => ht w (hT w h).1
  have hG : GoodIn Ts ws := fun w h => hT w (by unfold va_wsS; exact List.mem_append_right _ h)
  have hc : Cond.codeWith y bytes maxL ret hh ∈ ws := by rw [hw]; exact List.mem_cons_self
  refine ⟨⟨hrc, hrs, hR.1, hR.2, pay_in ht hG, hc⟩, ht _ (hG _ hc).1, ok _ (by simp [va_wsS]), ⟨hd.1, hd.2.1⟩, fun sig h => ?_, ok _ (by simp [va_wsS]), ok _ (by simp [va_wsS])⟩
  have h2 := hd.2.2
  rw [h] at h2
  exact (Option.some.inj h2).symm
theorem vx_callSW (X : Stand p l e R s m args below meth c T locs cells slots) (hexec : p.tables.exec = Jvm.exec) {own : String} {index : Nat} {y : MethodName} {bytes : ByteArray} {maxL : Nat} {ret : Option FieldType} {hh : List (Nat × Nat × Nat × Nat)}
    (hown : s.vm.findClass own = some m.cls) (hlink : (Cond.methodLink own index y).before args s = true) (hstat : (Cond.static y).before args s = true) (hinit : (Cond.initialized y.cls).before args s = true)
    (hcode : (Cond.codeWith y bytes maxL ret hh).before args s = true) (hy : y.cls ≠ "java/lang/invoke/MethodHandle" ∧ y.cls ≠ "java/lang/invoke/VarHandle")
    {W9 : Nat} {Pre : Pt → Array Value → Prop} {Post : Pt → Array Value → Option Value → Pt → Prop} (hK : Back l R p e below s args y 3 W9 Pre Post)
    {g : JFrame} (hg : g.method = m) (hsize : g.locals.size = c.maxLocals) {argsL rest : List Value} (hlen : ∀ sig, parseMethodDescriptor y.desc = some sig → argsL.length = sig.parameters.length)
    (hstack : g.stack = argsL.reverse ++ rest) (hW : 2 * g.monitorRoom + (rest.map fun v => v.category).sum ≤ W9) (hdg : decode c.code g.pc = .ok (.invokestatic index, 3))
    (hpre : ∀ vm₁, s.WarmedH vm₁ → Pre ⟨T.setVm vm₁, locs, cells, slots⟩ argsL.toArray) :
    ∃ (v : Option Value) (vm₁ : Vm) (B : Pt), s.WarmedH vm₁ ∧ Stand p l e R s m args below meth c B.U B.locs B.cells B.slots ∧ Post ⟨T.setVm vm₁, locs, cells, slots⟩ argsL.toArray v B ∧
      ∀ target, Steps p.tables e below (B.U.setTop { g with pc := g.pc + 3, stack := v.toList ++ rest }) target → Steps p.tables e below (T.setTop g) target := by
  obtain ⟨mk, methM, cM, hnamed, hmethM, -, -, -, -, -, -, hsigM⟩ := Cond.codeWith_spec hcode
  have hstatic : methM.isStatic = true := Cond.static_spec hnamed hmethM hstat
  obtain ⟨kP, hkP, -⟩ := className_of_methodNamed hnamed
  have hinitP : kP.init = .initialized := Cond.initialized_spec (findClass_of_methodNamed hnamed) hkP hinit
  obtain ⟨vm₁, X₁, hstep₁⟩ := X.invokestatic hexec hown hlink hnamed hmethM hstatic hkP hinitP hy (g := g) hg (argsL := argsL) (rest := rest) (hlen _ hsigM) hstack hdg
  obtain ⟨v, B, X', hpost, hsteps⟩ := hK m meth c ⟨T.setVm vm₁, locs, cells, slots⟩ { g with stack := rest } (.invokestatic index) mk argsL.toArray X₁ hg hsize hdg hW (X₁.named hnamed) (hpre vm₁ X₁.warmed)
  exact ⟨v, vm₁, B, X₁.warmed, X', hpost, fun target h => hstep₁ _ fun acts => by rw [doInvoke_state]; exact hsteps.trans h⟩
theorem vx_runSW {y : MethodName} {bytes cc : ByteArray} {maxL nL mc ms n index : Nat} {ret : Option FieldType} {hh : List (Nat × Nat × Nat × Nat)} {ws : List Cond} {rm : Room} {Pc : Array Value → State → Prop} {Qc : Array Value → State → Outcome → State → Prop} {free : Addr → Prop} {Ts : List Cond} {own : String} {As rest : List Value} {g : JFrame}
    (S : CallFix p m c cc nL s args Ts own) (hM : Met l y ws rm Pc Qc mc ms free) (cw : vx_CSW R s args own index y bytes maxL ret hh ws rm mc ms n) (hp : PreS s H Pc As)
    (hg : g.method = m) (hn : As.length = n) (hsize : g.locals.size = nL) (hstack : g.stack = As.reverse ++ rest) (hW : 2 * g.monitorRoom + (rest.map fun v => v.category).sum ≤ 8) (hdg : decode cc g.pc = .ok (.invokestatic index, 3)) (hf : cells + mc ≤ R.cells ∧ slots + ms ≤ R.slots) :
    va_Run p l e R s m args below meth c H locs cells slots mc ms g rest (Qc As.toArray) (free) := by
  obtain ⟨⟨hrc, hrs, hfr, hlo, hws, hcw⟩, hcode, hini, hy, hlen, hl, hstt⟩ := cw
  have hK : Back l R p e below s args y 3 8 (PreOf R mc ms Pc) (PostOf Qc mc ms free) := va_backW (hh := hh) (bytes := bytes) (maxL := maxL) (ret := ret) hM hp.1 hrc hrs hfr hlo hws hcw (fun a' U hW => word_at hW (Or.inl (by first | rfl | simp [Cond.onTables, Cond.keeps, Cond.steady])) hini)
  obtain ⟨hx, hb, hml, ho, -⟩ := S
  intro T hT X
  obtain ⟨v, vm₁, ⟨U', l2, c2, s2⟩, hW₁, X', ⟨g', mk, t, L, e1, e2, hq, h1, hL, h2, h3⟩, st⟩ := vx_callSW X hx (hh := hh) (bytes := bytes) (maxL := maxL) (ret := ret) ho hl hstt hini hcode hy hK hg (hsize.trans hml.symm) (argsL := As) (rest := rest) (fun sig h => hn.trans (hlen sig h)) hstack hW (by rw [hb]; exact hdg)
    (fun vm₁ hW₁ => ⟨hf.1, hf.2, hp.2 (T.setVm vm₁) hT hW₁⟩)
  dsimp only [Pt.U, Pt.locs, Pt.cells, Pt.slots] at X' e1 e2 h1 h2 h3 st
  subst h1; subst h2; subst h3
  exact ⟨v, (T.setVm vm₁).calling g' mk As.toArray, t, U', L, hT, X', hL, e1, e2, hq, st⟩
/-- not caught here, past rows that name other classes: it goes on to the caller -/
theorem vx_outP {p : Program} {l : Launch} {e : Env} {R : Room} {s : State} {m : MethodId} {args : Array Value} {below : List Frame} {meth : Method} {c : Code} {H : Heap} {locs : List Loc} {cells slots : Nat} {free : Addr → Prop} {ls : Array Slot} {rest : List Value} {Qc : Array Value → State → Outcome → State → Prop} {XC : String → State → State → Prop}
    {pc : Nat} {own E : String} {ce : Cell} {q : Addr} {mc ms : Nat} (hown : s.vm.findClass own = some m.cls) (hlocks : meth.locks = false)
    (hpass : ∀ z ∈ c.exceptionTable.toList, covers z pc = false ∨ (z.catchType ≠ 0 ∧ ∃ nm : String, (Cond.classLink own z.catchType nm).before args s = true ∧ va_Nc E nm s)) (hcell : H[q]? = some ce) (hv : ce.vm = .none) (hcl : s.vm.findClass E = some ce.cls)
    (hx : ∀ t : State, t.heap = H → s.vm.Alike t.vm → XC E s t) (hf : ∀ z ∈ locs, free z.base) (hc : cells ≤ mc) (hs : slots ≤ ms) :
    vx_W p l e R s m args below meth c H locs cells slots (vx_MQ below Qc XC args s mc ms free) (F0 m pc ls rest) q := by
  intro T hT X
  have hpl : e.platform.magicAccessors = ({} : Platform).magicAccessors := by rw [X.admits.platform]
  obtain ⟨vm', hW', X', st⟩ := X.outThrough hlocks q (g := F0 m pc ls rest) rfl rfl rfl (cell := ce) (by rw [hT]; exact hcell) (by rw [hv]; rfl)
    (by obtain ⟨k9, h9, -⟩ := Vm.findClass_spec hcl; exact ⟨k9, h9⟩) (fun z hz => by
      rcases hpass z hz with h | ⟨hz0, nm, hl1, hn1⟩
      · exact Or.inl h
      · obtain ⟨c6, hc6, hcl6⟩ := Cond.classLink_spec hown hl1 e.platform hpl
        obtain ⟨a8, b8, h1, h2, h3⟩ := hn1
        cases Option.some.inj (h1.symm.trans hcl)
        cases Option.some.inj (h2.symm.trans hc6)
        exact Or.inr ⟨hz0, _, hcl6, h3⟩)
  obtain ⟨g₀, hfr⟩ := X'.frames_eq
  have hcell9 : ((T.setVm vm').setFrames (.throwing q :: below)).heap[q]? = some ce := by
    show T.heap[q]? = some ce
    rw [hT]; exact hcell
  have hend : Ended ((T.setVm vm').setFrames (.throwing q :: below)) below (.threw q) := State.frames_setFrames _ (State.cur_lt_of_frames hfr)
  refine ⟨(T.setVm vm').setFrames (.throwing q :: below), ?_, .threw q, X'.here.running, hend, Or.inr ⟨q, rfl, E, ce, locs, hx _ hT (X'.ends _).1.alike, hcell9, hv, hcl, (X'.ends _).1, (X'.ends _).2.mono hc hs, hf⟩⟩
  rw [X.pushThrowing_eq]
  exact st
/-- a thing of a world lies in the heap -/
theorem vx_lt {D : va_G} {cl : List vw_C} {ws : va_W} {H1 : Heap} (h : va_P D cl ws H1) {k : Nat} {q : Nat × va_E} (hk : ws[k]? = some q) : q.1 < H1.size := (h k q hk).lt
end VXS
/-! ===== END ===== -/
/-! ===== BEGIN methods with a table of their own: called by a name, returning or throwing ===== -/
section VXH
/-! vx_backW, vx_callVX, vx_callSX, vx_callVW, vx_runVW, vx_runVX, vx_runSX, vx_ofWH follow the same proofs as their sisters above (Free/Laws.lean, Shelf42/LK1.lean); vx_outP calls Shelf42/NT130.lean (outThrough). -/
section
variable {l : Launch} {R : Room} {p : Program} {e : Env} {below : List Frame} {s : State} {sargs : Array Value} {y : MethodName} {len W9 : Nat}
theorem vx_backW {ws : List Cond} {rm : Room} {Pc : Array Value → State → Prop} {Qc : Array Value → State → Outcome → State → Prop} {XC : String → State → State → Prop} {mc ms : Nat} {free : Addr → Prop} {bytes : ByteArray} {maxL : Nat} {ret : Option FieldType} {hh : List (Nat × Nat × Nat × Nat)}
    (hM : vx_Met l y ws rm Pc Qc XC mc ms free) (hblind : FrameBlind Pc) (hrc : rm.cells = mc) (hrs : rm.slots = ms)
    (hframes : rm.frames + 1 ≤ R.frames) (hlocals : W9 + (maxL + 11) + rm.locals ≤ R.locals)
    (hws : ∀ w ∈ ws, ∀ a' U, s.WarmedH U.vm → w.before a' U = true) (hcode : Cond.codeWith y bytes maxL ret hh ∈ ws) (hinit : ∀ a' U, s.WarmedH U.vm → (Cond.initialized y.cls).before a' U = true) :
    vx_Back l R p e below s sargs y len W9 (PreOf R mc ms Pc) (PostOf Qc mc ms free) (vx_Post XC mc ms free) := by
  intro m meth c A g ig mk a X hg hsize hdg hW hn hp
  have h1 : (headSpec ws rm).pre.before a A.U = true := atoms_intro fun w hw => hws w hw _ _ X.warmed
  have h2 : (Cond.codeWith y bytes maxL ret hh).before a A.U = true := hws _ hcode _ _ X.warmed
  have h3 : (Cond.initialized y.cls).before a A.U = true := hinit _ _ X.warmed
  have h4 : A.cells + (headSpec ws rm).room.cells ≤ R.cells := by rw [show (headSpec ws rm).room.cells = mc from hrc]; exact hp.1
  have h5 : A.slots + (headSpec ws rm).room.slots ≤ R.slots := by rw [show (headSpec ws rm).room.slots = ms from hrs]; exact hp.2.1
  have hPc : Pc a (A.U.calling g mk a) := hblind _ _ _ _ hp.2.2
  obtain ⟨U, Ls, c0, s0⟩ := A
  dsimp only [Pt.U, Pt.locs, Pt.cells, Pt.slots] at h1 h2 h3 h4 h5 X hn hPc ⊢
  obtain ⟨m9, methY, cY, hn9, hmY, hcY, -, hlY, -⟩ := Cond.codeWith_spec h2
  cases Option.some.inj (hn9.symm.trans hn)
  obtain ⟨kY, hkY, -⟩ := className_of_methodNamed hn
  have hinitY : kY.init = .initialized := Cond.initialized_spec (findClass_of_methodNamed hn) hkY h3
  have h : At U g.method c below := by rw [hg]; exact X.here
  have hlocals9 : W9 + (maxL + 11) + (headSpec ws rm).room.locals ≤ R.locals := hlocals
  have happ : (headSpec ws rm).appliesLoose y e.platform (U.calling g mk a) = true :=
    Spec.appliesLoose_calling (g := g) h hdg hn hkY hinitY
      (X.room_calling (g := g) (R' := (headSpec ws rm).room) hsize hmY hcY hframes (by rw [hlY]; omega) h4 h5) h1
  obtain ⟨mid, hmid⟩ := h.above
  have hfr : (U.setTop g).frames = (.java g :: mid) ++ below := by rw [State.frames_setTop' g h.top, hmid]; rfl
  obtain ⟨o, s₂, hsteps, -, hend, hq⟩ := Steps.callFree hM p X.admits X.cas X.clock (acts := []) hfr happ hPc trivial
  have hq' : vx_Q Qc XC mc ms free a (U.calling g mk a) o s₂ := hq
  rw [State.frames_setTop' g h.top] at hend
  obtain ⟨g₀, hg0⟩ := Option.isSome_iff_exists.mp h.top
  obtain ⟨r, hr⟩ := State.topJava?_eq_some.mp hg0
  have hr' : (({ U with heap := s₂.heap, slotsUsed := s₂.slotsUsed } : State).setVm s₂.vm).frames = .java g₀ :: r := hr
  rcases hq' with ⟨hqc, L, hfe, hL⟩ | ⟨q, rfl, E, ce, L, hx, hce, hcv, hcl, hW₂, hsm, hL⟩
  · obtain ⟨⟨v, rfl⟩, hW₂, e2, q2, q3, q4, q5, q6⟩ := id hfe
    have e3 : s₂ = ({ (U.calling g mk a).setFrames s₂.frames with heap := s₂.heap, slotsUsed := s₂.slotsUsed } : State).setVm s₂.vm := by
      have : s₂ = ({ s₂ with vm := (U.calling g mk a).vm } : State).setVm s₂.vm := rfl
      rw [e2] at this
      exact this
    obtain ⟨c₂, i₂, len₂, hc₂, hd₂, hf₂⟩ := hend
    have hW' : U.WarmedH s₂.vm := hW₂
    have hcc : c₂ = c := by
      have h1 : s₂.code? g.method = U.code? g.method := by
        rw [State.code?_eq, State.code?_eq, hW'.alike.method?]
      exact Option.some.inj (hc₂.symm.trans (h1.trans h.code))
    subst hcc
    have hlen : len₂ = len := by rw [hdg] at hd₂; cases hd₂; rfl
    subst hlen
    have hs₂ : s₂ = (({ U with heap := s₂.heap, slotsUsed := s₂.slotsUsed } : State).setVm s₂.vm).setTop { g with pc := g.pc + len₂, stack := v.toList ++ g.stack } := by
      refine e3.trans ?_
      rw [hf₂, State.calling_eq h.top, State.setFrames_setFrames, State.setTop_of_frames _ hr', hr]
      rfl
    have hsame : U.sameButNew ({ U with heap := s₂.heap, slotsUsed := s₂.slotsUsed } : State) L mc ms := by
      refine ⟨?_, q2, q3, q4, q5, q6⟩
      obtain ⟨t, ht, -⟩ := State.frames_cons hr
      show ({ U with heap := s₂.heap, slotsUsed := s₂.slotsUsed } : State) = { U.setFrames U.frames with heap := s₂.heap, slotsUsed := s₂.slotsUsed }
      rw [State.setFrames_self ht]
    subst hg
    refine Or.inl ⟨v, ⟨(({ U with heap := s₂.heap, slotsUsed := s₂.slotsUsed } : State).setVm s₂.vm), Ls ++ L, c0 + mc, s0 + ms⟩,
      ⟨X.admits, X.cas, X.clock, X.frames, X.room, X.hears, X.method, X.code, (X.here.setHeapUsed s₂.heap s₂.slotsUsed).setVm hW'.alike, X.tail, State.WarmedH.trans X.warmed hW', X.limits, X.bytes, X.same.trans (hsame.setVm s.vm)⟩,
      ⟨g, mk, s₂, L, rfl, rfl, hqc, rfl, hL, rfl, rfl⟩, ?_⟩
    show Steps p.tables e below _ ((({ U with heap := s₂.heap, slotsUsed := s₂.slotsUsed } : State).setVm s₂.vm).setTop { g with pc := g.pc + len₂, stack := v.toList ++ g.stack })
    rw [← hs₂]
    exact hsteps
  · obtain ⟨e2, q2, q3, q4, q5, q6⟩ := id hsm
    have e3 : s₂ = ({ (U.calling g mk a).setFrames s₂.frames with heap := s₂.heap, slotsUsed := s₂.slotsUsed } : State).setVm s₂.vm := by
      have : s₂ = ({ s₂ with vm := (U.calling g mk a).vm } : State).setVm s₂.vm := rfl
      rw [e2] at this
      exact this
    have hf₂ : s₂.frames = .throwing q :: .java g :: U.frames.tail := hend
    have hW' : U.WarmedH s₂.vm := hW₂
    have hs₂ : s₂ = ((({ U with heap := s₂.heap, slotsUsed := s₂.slotsUsed } : State).setVm s₂.vm).setTop g).pushFrame (.throwing q) := by
      refine e3.trans ?_
      rw [hf₂, State.calling_eq h.top, State.setFrames_setFrames, State.pushFrame, State.frames_setTop _ hr', State.setTop_of_frames _ hr', State.setFrames_setFrames, hr]
      rfl
    have hsame : U.sameButNew ({ U with heap := s₂.heap, slotsUsed := s₂.slotsUsed } : State) L mc ms := by
      refine ⟨?_, q2, q3, q4, q5, q6⟩
      obtain ⟨t, ht, -⟩ := State.frames_cons hr
      show ({ U with heap := s₂.heap, slotsUsed := s₂.slotsUsed } : State) = { U.setFrames U.frames with heap := s₂.heap, slotsUsed := s₂.slotsUsed }
      rw [State.setFrames_self ht]
    subst hg
    refine Or.inr ⟨q, ⟨(({ U with heap := s₂.heap, slotsUsed := s₂.slotsUsed } : State).setVm s₂.vm), Ls ++ L, c0 + mc, s0 + ms⟩,
      ⟨X.admits, X.cas, X.clock, X.frames, X.room, X.hears, X.method, X.code, (X.here.setHeapUsed s₂.heap s₂.slotsUsed).setVm hW'.alike, X.tail, State.WarmedH.trans X.warmed hW', X.limits, X.bytes, X.same.trans (hsame.setVm s.vm)⟩,
      ⟨g, mk, s₂, L, E, ce, rfl, rfl, hx, hce, hcv, hcl, rfl, hL, rfl, rfl⟩, ?_⟩
    show Steps p.tables e below _ (((({ U with heap := s₂.heap, slotsUsed := s₂.slotsUsed } : State).setVm s₂.vm).setTop g).pushFrame (.throwing q))
    rw [← hs₂]
    exact hsteps
end
variable {p : Program} {l : Launch} {e : Env} {R : Room} {s : State} {m : MethodId} {args : Array Value} {below : List Frame} {meth : Method} {c : Code} {T : State} {H : Heap} {locs : List Loc} {cells slots : Nat}
theorem vx_callVX (X : Stand p l e R s m args below meth c T locs cells slots) (hexec : p.tables.exec = Jvm.exec) {own C : String} {index : Nat} {y : MethodName} {bytes : ByteArray} {maxL : Nat} {ret : Option FieldType} {hh : List (Nat × Nat × Nat × Nat)}
    (hown : s.vm.findClass own = some m.cls) (hlink : (Cond.methodLink own index y).before args s = true) (hinst : (Cond.instanceMethod y).before args s = true) (hsel : (Cond.selects C y y).before args s = true)
    (hcode : (Cond.codeWith y bytes maxL ret hh).before args s = true) (hy : y.cls ≠ "java/lang/invoke/MethodHandle" ∧ y.cls ≠ "java/lang/invoke/VarHandle")
    {W9 : Nat} {Pre : Pt → Array Value → Prop} {Post : Pt → Array Value → Option Value → Pt → Prop} {PostX : Pt → Array Value → Addr → Pt → Prop} (hK : vx_Back l R p e below s args y 3 W9 Pre Post PostX)
    {b : Addr} {cellB : Cell} (hcell : T.heap[b]? = some cellB) (hobj : cellB.vm.isStatics = false) (hcls : s.vm.findClass C = some cellB.cls)
    {g : JFrame} (hg : g.method = m) (hsize : g.locals.size = c.maxLocals) {argsL rest : List Value} (hlen : ∀ sig, parseMethodDescriptor y.desc = some sig → argsL.length = sig.parameters.length)
    (hstack : g.stack = argsL.reverse ++ .ref b :: rest) (hW : 2 * g.monitorRoom + (rest.map fun v => v.category).sum ≤ W9) (hdg : decode c.code g.pc = .ok (.invokevirtual index, 3))
    (hpre : ∀ vm₁, s.WarmedH vm₁ → Pre ⟨T.setVm vm₁, locs, cells, slots⟩ (Value.ref b :: argsL).toArray) :
    (∃ (v : Option Value) (vm₁ : Vm) (B : Pt), s.WarmedH vm₁ ∧ Stand p l e R s m args below meth c B.U B.locs B.cells B.slots ∧ Post ⟨T.setVm vm₁, locs, cells, slots⟩ (Value.ref b :: argsL).toArray v B ∧
      ∀ target, Steps p.tables e below (B.U.setTop { g with pc := g.pc + 3, stack := v.toList ++ rest }) target → Steps p.tables e below (T.setTop g) target) ∨
    (∃ (q : Addr) (vm₁ : Vm) (B : Pt), s.WarmedH vm₁ ∧ Stand p l e R s m args below meth c B.U B.locs B.cells B.slots ∧ PostX ⟨T.setVm vm₁, locs, cells, slots⟩ (Value.ref b :: argsL).toArray q B ∧
      Steps p.tables e below (T.setTop g) ((B.U.setTop { g with stack := rest }).pushFrame (.throwing q))) := by
  obtain ⟨mk, methM, hnamed, hmethM, hstM, habM⟩ := Cond.instanceMethod_spec hinst
  obtain ⟨m8, methM', cM, hn8, hmethM', -, -, -, -, -, -, hsigM⟩ := Cond.codeWith_spec hcode
  cases Option.some.inj (hn8.symm.trans hnamed)
  cases hmethM.symm.trans hmethM'
  obtain ⟨c2, r2, m2, q1, q2, q3, q4, kP, hkP, hkPi⟩ := Cond.selects_spec hsel
  cases hcls.symm.trans q1
  cases (State.methodFound?_of_named hnamed hy).symm.trans q2
  cases hnamed.symm.trans q3
  have hselP : selectMethod e.platform s.vm cellB.cls mk = .method mk := by rw [Launch.admits_selectMethod X.admits]; exact q4
  obtain ⟨vm₁, X₁, hstep₁⟩ := X.invokevirtual hexec hown hlink hnamed hmethM hstM hkP hkPi hy (a := b) (cell := cellB) hcell
    (fun z h => by rw [h] at hobj; cases hobj) hselP hmethM habM hkP hkPi (g := g) hg (argsL := argsL) (rest := rest) (hlen _ hsigM) hstack hdg
  rcases hK m meth c ⟨T.setVm vm₁, locs, cells, slots⟩ { g with stack := rest } (.invokevirtual index) mk (Value.ref b :: argsL).toArray X₁ hg hsize hdg hW (X₁.named hnamed) (hpre vm₁ X₁.warmed) with ⟨v, B, X', hpost, hsteps⟩ | ⟨q, B, X', hpost, hsteps⟩
  · exact Or.inl ⟨v, vm₁, B, X₁.warmed, X', hpost, fun target h => hstep₁ _ fun acts => by rw [doInvoke_state]; exact hsteps.trans h⟩
  · exact Or.inr ⟨q, vm₁, B, X₁.warmed, X', hpost, hstep₁ _ fun acts => by rw [doInvoke_state]; exact hsteps⟩
theorem vx_callSX (X : Stand p l e R s m args below meth c T locs cells slots) (hexec : p.tables.exec = Jvm.exec) {own : String} {index : Nat} {y : MethodName} {bytes : ByteArray} {maxL : Nat} {ret : Option FieldType} {hh : List (Nat × Nat × Nat × Nat)}
    (hown : s.vm.findClass own = some m.cls) (hlink : (Cond.methodLink own index y).before args s = true) (hstat : (Cond.static y).before args s = true) (hinit : (Cond.initialized y.cls).before args s = true)
    (hcode : (Cond.codeWith y bytes maxL ret hh).before args s = true) (hy : y.cls ≠ "java/lang/invoke/MethodHandle" ∧ y.cls ≠ "java/lang/invoke/VarHandle")
    {W9 : Nat} {Pre : Pt → Array Value → Prop} {Post : Pt → Array Value → Option Value → Pt → Prop} {PostX : Pt → Array Value → Addr → Pt → Prop} (hK : vx_Back l R p e below s args y 3 W9 Pre Post PostX)
    {g : JFrame} (hg : g.method = m) (hsize : g.locals.size = c.maxLocals) {argsL rest : List Value} (hlen : ∀ sig, parseMethodDescriptor y.desc = some sig → argsL.length = sig.parameters.length)
    (hstack : g.stack = argsL.reverse ++ rest) (hW : 2 * g.monitorRoom + (rest.map fun v => v.category).sum ≤ W9) (hdg : decode c.code g.pc = .ok (.invokestatic index, 3))
    (hpre : ∀ vm₁, s.WarmedH vm₁ → Pre ⟨T.setVm vm₁, locs, cells, slots⟩ argsL.toArray) :
    (∃ (v : Option Value) (vm₁ : Vm) (B : Pt), s.WarmedH vm₁ ∧ Stand p l e R s m args below meth c B.U B.locs B.cells B.slots ∧ Post ⟨T.setVm vm₁, locs, cells, slots⟩ argsL.toArray v B ∧
      ∀ target, Steps p.tables e below (B.U.setTop { g with pc := g.pc + 3, stack := v.toList ++ rest }) target → Steps p.tables e below (T.setTop g) target) ∨
    (∃ (q : Addr) (vm₁ : Vm) (B : Pt), s.WarmedH vm₁ ∧ Stand p l e R s m args below meth c B.U B.locs B.cells B.slots ∧ PostX ⟨T.setVm vm₁, locs, cells, slots⟩ argsL.toArray q B ∧
      Steps p.tables e below (T.setTop g) ((B.U.setTop { g with stack := rest }).pushFrame (.throwing q))) := by
  obtain ⟨mk, methM, cM, hnamed, hmethM, -, -, -, -, -, -, hsigM⟩ := Cond.codeWith_spec hcode
  have hstatic : methM.isStatic = true := Cond.static_spec hnamed hmethM hstat
  obtain ⟨kP, hkP, -⟩ := className_of_methodNamed hnamed
  have hinitP : kP.init = .initialized := Cond.initialized_spec (findClass_of_methodNamed hnamed) hkP hinit
  obtain ⟨vm₁, X₁, hstep₁⟩ := X.invokestatic hexec hown hlink hnamed hmethM hstatic hkP hinitP hy (g := g) hg (argsL := argsL) (rest := rest) (hlen _ hsigM) hstack hdg
  rcases hK m meth c ⟨T.setVm vm₁, locs, cells, slots⟩ { g with stack := rest } (.invokestatic index) mk argsL.toArray X₁ hg hsize hdg hW (X₁.named hnamed) (hpre vm₁ X₁.warmed) with ⟨v, B, X', hpost, hsteps⟩ | ⟨q, B, X', hpost, hsteps⟩
  · exact Or.inl ⟨v, vm₁, B, X₁.warmed, X', hpost, fun target h => hstep₁ _ fun acts => by rw [doInvoke_state]; exact hsteps.trans h⟩
  · exact Or.inr ⟨q, vm₁, B, X₁.warmed, X', hpost, hstep₁ _ fun acts => by rw [doInvoke_state]; exact hsteps⟩
theorem vx_callVW (X : Stand p l e R s m args below meth c T locs cells slots) (hexec : p.tables.exec = Jvm.exec) {own C : String} {index : Nat} {y : MethodName} {bytes : ByteArray} {maxL : Nat} {ret : Option FieldType} {hh : List (Nat × Nat × Nat × Nat)}
    (hown : s.vm.findClass own = some m.cls) (hlink : (Cond.methodLink own index y).before args s = true) (hinst : (Cond.instanceMethod y).before args s = true) (hsel : (Cond.selects C y y).before args s = true)
    (hcode : (Cond.codeWith y bytes maxL ret hh).before args s = true) (hy : y.cls ≠ "java/lang/invoke/MethodHandle" ∧ y.cls ≠ "java/lang/invoke/VarHandle")
    {W9 : Nat} {Pre : Pt → Array Value → Prop} {Post : Pt → Array Value → Option Value → Pt → Prop} (hK : Back l R p e below s args y 3 W9 Pre Post)
    {b : Addr} {cellB : Cell} (hcell : T.heap[b]? = some cellB) (hobj : cellB.vm.isStatics = false) (hcls : s.vm.findClass C = some cellB.cls)
    {g : JFrame} (hg : g.method = m) (hsize : g.locals.size = c.maxLocals) {argsL rest : List Value} (hlen : ∀ sig, parseMethodDescriptor y.desc = some sig → argsL.length = sig.parameters.length)
    (hstack : g.stack = argsL.reverse ++ .ref b :: rest) (hW : 2 * g.monitorRoom + (rest.map fun v => v.category).sum ≤ W9) (hdg : decode c.code g.pc = .ok (.invokevirtual index, 3))
    (hpre : ∀ vm₁, s.WarmedH vm₁ → Pre ⟨T.setVm vm₁, locs, cells, slots⟩ (Value.ref b :: argsL).toArray) :
    ∃ (v : Option Value) (vm₁ : Vm) (B : Pt), s.WarmedH vm₁ ∧ Stand p l e R s m args below meth c B.U B.locs B.cells B.slots ∧ Post ⟨T.setVm vm₁, locs, cells, slots⟩ (Value.ref b :: argsL).toArray v B ∧
      ∀ target, Steps p.tables e below (B.U.setTop { g with pc := g.pc + 3, stack := v.toList ++ rest }) target → Steps p.tables e below (T.setTop g) target := by
  obtain ⟨mk, methM, hnamed, hmethM, hstM, habM⟩ := Cond.instanceMethod_spec hinst
  obtain ⟨m8, methM', cM, hn8, hmethM', -, -, -, -, -, -, hsigM⟩ := Cond.codeWith_spec hcode
  cases Option.some.inj (hn8.symm.trans hnamed)
  cases hmethM.symm.trans hmethM'
  obtain ⟨c2, r2, m2, q1, q2, q3, q4, kP, hkP, hkPi⟩ := Cond.selects_spec hsel
  cases hcls.symm.trans q1
  cases (State.methodFound?_of_named hnamed hy).symm.trans q2
  cases hnamed.symm.trans q3
  have hselP : selectMethod e.platform s.vm cellB.cls mk = .method mk := by rw [Launch.admits_selectMethod X.admits]; exact q4
  obtain ⟨vm₁, X₁, hstep₁⟩ := X.invokevirtual hexec hown hlink hnamed hmethM hstM hkP hkPi hy (a := b) (cell := cellB) hcell
    (fun z h => by rw [h] at hobj; cases hobj) hselP hmethM habM hkP hkPi (g := g) hg (argsL := argsL) (rest := rest) (hlen _ hsigM) hstack hdg
  obtain ⟨v, B, X', hpost, hsteps⟩ := hK m meth c ⟨T.setVm vm₁, locs, cells, slots⟩ { g with stack := rest } (.invokevirtual index) mk (Value.ref b :: argsL).toArray X₁ hg hsize hdg hW (X₁.named hnamed) (hpre vm₁ X₁.warmed)
  exact ⟨v, vm₁, B, X₁.warmed, X', hpost, fun target h => hstep₁ _ fun acts => by rw [doInvoke_state]; exact hsteps.trans h⟩
abbrev vx_CVW (R : Room) (s : State) (args : Array Value) (own C : String) (index : Nat) (y : MethodName) (bytes : ByteArray) (maxL : Nat) (ret : Option FieldType) (hh : List (Nat × Nat × Nat × Nat)) (ws : List Cond) (rm : Room) (mc ms n : Nat) : Prop :=
  (rm.cells = mc ∧ rm.slots = ms ∧ rm.frames + 1 ≤ R.frames ∧ 8 + (maxL + 11) + rm.locals ≤ R.locals ∧ (∀ w ∈ ws, ∀ (a' : Array Value) (U : State), s.WarmedH U.vm → w.before a' U = true) ∧ Cond.codeWith y bytes maxL ret hh ∈ ws) ∧
  (Cond.codeWith y bytes maxL ret hh).before args s = true ∧ (Cond.initialized y.cls).before args s = true ∧ (y.cls ≠ "java/lang/invoke/MethodHandle" ∧ y.cls ≠ "java/lang/invoke/VarHandle") ∧
  (∀ sig, parseMethodDescriptor y.desc = some sig → n = sig.parameters.length) ∧ (Cond.methodLink own index y).before args s = true ∧ (Cond.instanceMethod y).before args s = true ∧ (Cond.selects C y y).before args s = true
theorem vx_cwVW {own C : String} {index maxL mc ms : Nat} {y : MethodName} {bytes : ByteArray} {ret : Option FieldType} {hh : List (Nat × Nat × Nat × Nat)} {Ts ws ws' : List Cond} {rm : Room} (n : Nat) (ht : ∀ w ∈ Ts, w.before args s = true) (hT : GoodIn Ts (wsV own index C y ws)) (hw : ws = Cond.codeWith y bytes maxL ret hh :: ws') (hrc : rm.cells = mc) (hrs : rm.slots = ms)
    (hd : y.cls = C ∧ y.cls ≠ "java/lang/invoke/MethodHandle" ∧ y.cls ≠ "java/lang/invoke/VarHandle" ∧ (parseMethodDescriptor y.desc).map (fun d => d.parameters.length) = some n) (hR : rm.frames + 1 ≤ R.frames ∧ 8 + (maxL + 11) + rm.locals ≤ R.locals) :
    vx_CVW R s args own C index y bytes maxL ret hh ws rm mc ms n := by
  obtain ⟨hC, hd⟩ := hd
  subst hC
  have ok : ∀ w ∈ wsV own index y.cls y ws, w.before args s = true := fun w h => ht w (hT w h).1
  have hG : GoodIn Ts ws := fun w h => hT w (by unfold wsV; exact List.mem_append_right _ h)
  have hc : Cond.codeWith y bytes maxL ret hh ∈ ws := by rw [hw]; exact List.mem_cons_self
  refine ⟨⟨hrc, hrs, hR.1, hR.2, pay_in ht hG, hc⟩, ht _ (hG _ hc).1, ok _ (by simp [wsV]), ⟨hd.1, hd.2.1⟩, fun sig h => ?_, ok _ (by simp [wsV]), ok _ (by simp [wsV]), ok _ (by simp [wsV])⟩
  have h2 := hd.2.2
  rw [h] at h2
  exact (Option.some.inj h2).symm
theorem vx_runVW {y : MethodName} {bytes cc : ByteArray} {maxL nL mc ms n index : Nat} {ret : Option FieldType} {hh : List (Nat × Nat × Nat × Nat)} {ws : List Cond} {rm : Room} {Pc : Array Value → State → Prop} {Qc : Array Value → State → Outcome → State → Prop} {free : Addr → Prop} {Ts : List Cond} {own C : String} {b : Addr} {As rest : List Value} {g : JFrame}
    (S : CallFix p m c cc nL s args Ts own) (hM : Met l y ws rm Pc Qc mc ms free) (cw : vx_CVW R s args own C index y bytes maxL ret hh ws rm mc ms n) (hp : PreV s H C b Pc As)
    (hg : g.method = m) (hn : As.length = n) (hsize : g.locals.size = nL) (hstack : g.stack = As.reverse ++ .ref b :: rest) (hW : 2 * g.monitorRoom + (rest.map fun v => v.category).sum ≤ 8) (hdg : decode cc g.pc = .ok (.invokevirtual index, 3)) (hf : cells + mc ≤ R.cells ∧ slots + ms ≤ R.slots) :
    va_Run p l e R s m args below meth c H locs cells slots mc ms g rest (Qc (Value.ref b :: As).toArray) free := by
  obtain ⟨⟨hrc, hrs, hfr, hlo, hws, hcw⟩, hcode, hini, hy, hlen, hl, hin, hse⟩ := cw
  have hK : Back l R p e below s args y 3 8 (PreOf R mc ms Pc) (PostOf Qc mc ms free) := va_backW (hh := hh) (bytes := bytes) (maxL := maxL) (ret := ret) hM hp.1 hrc hrs hfr hlo hws hcw (fun a' U hW => word_at hW (Or.inl (by first | rfl | simp [Cond.onTables, Cond.keeps, Cond.steady])) hini)
  obtain ⟨hx, hb, hml, ho, -⟩ := S
  obtain ⟨-, ⟨cellB, hcB, hoB, hclB⟩, hPc⟩ := hp
  intro T hT X
  obtain ⟨v, vm₁, ⟨U', l2, c2, s2⟩, hW₁, X', ⟨g', mk, t, L, e1, e2, hq, h1, hL, h2, h3⟩, st⟩ := vx_callVW X hx (C := C) (hh := hh) (bytes := bytes) (maxL := maxL) (ret := ret) ho hl hin hse hcode hy hK (by rw [hT]; exact hcB) hoB hclB hg (hsize.trans hml.symm) (argsL := As) (rest := rest) (fun sig h => hn.trans (hlen sig h)) hstack hW (by rw [hb]; exact hdg)
    (fun vm₁ hW₁ => ⟨hf.1, hf.2, hPc (T.setVm vm₁) hT hW₁⟩)
  dsimp only [Pt.U, Pt.locs, Pt.cells, Pt.slots] at X' e1 e2 h1 h2 h3 st
  subst h1; subst h2; subst h3
  exact ⟨v, (T.setVm vm₁).calling g' mk (Value.ref b :: As).toArray, t, U', L, hT, X', hL, e1, e2, hq, st⟩
section
variable {y : MethodName} {bytes cc : ByteArray} {maxL nL mc ms n index : Nat} {ret : Option FieldType} {ws : List Cond} {rm : Room} {Pc : Array Value → State → Prop} {Qc : Array Value → State → Outcome → State → Prop} {XC : String → State → State → Prop} {free : Addr → Prop} {Ts : List Cond} {own C : String} {b : Addr} {As rest : List Value} {g : JFrame}
theorem vx_runVX {hh : List (Nat × Nat × Nat × Nat)} (S : CallFix p m c cc nL s args Ts own) (hM : vx_Met l y ws rm Pc Qc XC mc ms free) (cw : vx_CVW R s args own C index y bytes maxL ret hh ws rm mc ms n) (hp : PreV s H C b Pc As)
    (hg : g.method = m) (hn : As.length = n) (hsize : g.locals.size = nL) (hstack : g.stack = As.reverse ++ .ref b :: rest) (hW : 2 * g.monitorRoom + (rest.map fun v => v.category).sum ≤ 8) (hdg : decode cc g.pc = .ok (.invokevirtual index, 3)) (hf : cells + mc ≤ R.cells ∧ slots + ms ≤ R.slots) :
    vx_Run p l e R s m args below meth c H locs cells slots mc ms g rest (Qc (Value.ref b :: As).toArray) XC free := by
  obtain ⟨⟨hrc, hrs, hfr, hlo, hws, hcw⟩, hcode, hini, hy, hlen, hl, hin, hse⟩ := cw
  have hK : vx_Back l R p e below s args y 3 8 (PreOf R mc ms Pc) (PostOf Qc mc ms free) (vx_Post XC mc ms free) := vx_backW (hh := hh) (bytes := bytes) (maxL := maxL) (ret := ret) hM hp.1 hrc hrs hfr hlo hws hcw (fun a' U hW => word_at hW (Or.inl (by first | rfl | simp [Cond.onTables, Cond.keeps, Cond.steady])) hini)
  obtain ⟨hx, hb, hml, ho, -⟩ := S
  obtain ⟨-, ⟨cellB, hcB, hoB, hclB⟩, hPc⟩ := hp
  intro T hT X
  rcases vx_callVX X hx (C := C) (hh := hh) (bytes := bytes) (maxL := maxL) (ret := ret) ho hl hin hse hcode hy hK (by rw [hT]; exact hcB) hoB hclB hg (hsize.trans hml.symm) (argsL := As) (rest := rest) (fun sig h => hn.trans (hlen sig h)) hstack hW (by rw [hb]; exact hdg)
    (fun vm₁ hW₁ => ⟨hf.1, hf.2, hPc (T.setVm vm₁) hT hW₁⟩) with ⟨v, vm₁, ⟨U', l2, c2, s2⟩, hW₁, X', ⟨g', mk, t, L, e1, e2, hq, h1, hL, h2, h3⟩, st⟩ | ⟨q, vm₁, ⟨U', l2, c2, s2⟩, hW₁, X', ⟨g', mk, t, L, E, ce, e1, e2, hq, hce, hcv, hcl, h1, hL, h2, h3⟩, st⟩
  · dsimp only [Pt.U, Pt.locs, Pt.cells, Pt.slots] at X' e1 e2 h1 h2 h3 st
    subst h1; subst h2; subst h3
    exact Or.inl ⟨v, (T.setVm vm₁).calling g' mk (Value.ref b :: As).toArray, t, U', L, hT, X', hL, e1, e2, hq, st⟩
  · dsimp only [Pt.U, Pt.locs, Pt.cells, Pt.slots] at X' e1 e2 h1 h2 h3 st hcl
    subst h1; subst h2; subst h3
    exact Or.inr ⟨q, (T.setVm vm₁).calling g' mk (Value.ref b :: As).toArray, t, U', L, E, ce, hT, X', hL, e1, e2, hq, hce, hcv, vx_cls hW₁ hcl, st⟩
theorem vx_runSX {hh : List (Nat × Nat × Nat × Nat)} (S : CallFix p m c cc nL s args Ts own) (hM : vx_Met l y ws rm Pc Qc XC mc ms free) (cw : vx_CSW R s args own index y bytes maxL ret hh ws rm mc ms n) (hp : PreS s H Pc As)
    (hg : g.method = m) (hn : As.length = n) (hsize : g.locals.size = nL) (hstack : g.stack = As.reverse ++ rest) (hW : 2 * g.monitorRoom + (rest.map fun v => v.category).sum ≤ 8) (hdg : decode cc g.pc = .ok (.invokestatic index, 3)) (hf : cells + mc ≤ R.cells ∧ slots + ms ≤ R.slots) :
    vx_Run p l e R s m args below meth c H locs cells slots mc ms g rest (Qc As.toArray) XC free := by
  obtain ⟨⟨hrc, hrs, hfr, hlo, hws, hcw⟩, hcode, hini, hy, hlen, hl, hstt⟩ := cw
  have hK : vx_Back l R p e below s args y 3 8 (PreOf R mc ms Pc) (PostOf Qc mc ms free) (vx_Post XC mc ms free) := vx_backW (hh := hh) (bytes := bytes) (maxL := maxL) (ret := ret) hM hp.1 hrc hrs hfr hlo hws hcw (fun a' U hW => word_at hW (Or.inl (by first | rfl | simp [Cond.onTables, Cond.keeps, Cond.steady])) hini)
  obtain ⟨hx, hb, hml, ho, -⟩ := S
  intro T hT X
  rcases vx_callSX X hx (hh := hh) (bytes := bytes) (maxL := maxL) (ret := ret) ho hl hstt hini hcode hy hK hg (hsize.trans hml.symm) (argsL := As) (rest := rest) (fun sig h => hn.trans (hlen sig h)) hstack hW (by rw [hb]; exact hdg)
    (fun vm₁ hW₁ => ⟨hf.1, hf.2, hp.2 (T.setVm vm₁) hT hW₁⟩) with ⟨v, vm₁, ⟨U', l2, c2, s2⟩, hW₁, X', ⟨g', mk, t, L, e1, e2, hq, h1, hL, h2, h3⟩, st⟩ | ⟨q, vm₁, ⟨U', l2, c2, s2⟩, hW₁, X', ⟨g', mk, t, L, E, ce, e1, e2, hq, hce, hcv, hcl, h1, hL, h2, h3⟩, st⟩
  · dsimp only [Pt.U, Pt.locs, Pt.cells, Pt.slots] at X' e1 e2 h1 h2 h3 st
    subst h1; subst h2; subst h3
    exact Or.inl ⟨v, (T.setVm vm₁).calling g' mk As.toArray, t, U', L, hT, X', hL, e1, e2, hq, st⟩
  · dsimp only [Pt.U, Pt.locs, Pt.cells, Pt.slots] at X' e1 e2 h1 h2 h3 st hcl
    subst h1; subst h2; subst h3
    exact Or.inr ⟨q, (T.setVm vm₁).calling g' mk As.toArray, t, U', L, E, ce, hT, X', hL, e1, e2, hq, hce, hcv, vx_cls hW₁ hcl, st⟩
end
end VXH
theorem vx_ofWH {l : Launch} {y : MethodName} {ws ws' : List Cond} {rm : Room} {Pc : Array Value → State → Prop} {Qc : Array Value → State → Outcome → State → Prop} {XC : String → State → State → Prop} {mc ms : Nat} {free : Addr → Prop} {cc : ByteArray} {maxL : Nat} {ret : Option FieldType} {hh : List (Nat × Nat × Nat × Nat)}
    (hy : plainName y.cls = true) (hw : ws = Cond.codeWith y cc maxL ret hh :: ws')
    (body : ∀ p e s m args below meth c s₁, BodyLoose p l y (headSpec ws rm) cc maxL ret e s m args below meth c s₁ → c.maxLocals = maxL → Pc args s →
      W p l e (headSpec ws rm).room s m args below meth c s.heap [] 0 0 (vx_MQ below Qc XC args s mc ms free) (entryFrame m args maxL)) : vx_Met l y ws rm Pc Qc XC mc ms free := by
  refine MetFree.of_bodyS (code := cc) (maxLocals := maxL) (ret := ret) hy ?_ ?_
  · intro args s m h hn
    obtain ⟨m9, meth, c, hn9, h1, h2, h3, h4, -, h5, h6, -⟩ := Cond.codeWith_spec (atoms_spec (ws := ws) h _ (by rw [hw]; exact List.mem_cons_self))
    cases hn.symm.trans hn9
    exact ⟨meth, c, h1, h2, h3, h4, h5, h6⟩
  · intro p e s m args below meth c s₁ B hml hP _
    have hh0 : s₁.heap = s.heap := by rw [B.state]; rfl
    obtain ⟨t, a1, o, b1, b2, b3⟩ := body p e s m args below meth c s₁ B hml hP s₁ hh0 (Stand.of_body B)
    exact ⟨t, o, a1, b1, b2, b3⟩
/-! ===== END ===== -/
end
section
/-! ===== BEGIN printed: names, fields, word lists, decode rows ===== -/
def RX0 : String := "FleetTerms$Fleet"
def TX0 : u_T := fun k => match k with
  | 0 => ("FleetTerms$Fleet", "boats", "I", false)
  | 1 => ("FleetTerms$Fleet", "hour", "I", false)
  | 2 => ("FleetTerms$Fleet", "stood", "I", false)
  | 3 => ("FleetTerms$Fleet", "begun", "I", false)
  | 4 => ("FleetTerms$Fleet", "lost", "I", false)
  | 5 => ("FleetTerms$Fleet", "patience", "[I", true)
  | 6 => ("FleetTerms$Fleet", "clock", "[I", true)
  | 7 => ("FleetTerms$Fleet", "term", "[I", true)
  | 8 => ("FleetTerms$Fleet", "vote", "[I", true)
  | 9 => ("FleetTerms$Fleet", "role", "[I", true)
  | 10 => ("FleetTerms$Fleet", "port", "[I", true)
  | 11 => ("FleetTerms$Fleet", "up", "[Z", true)
  | _ => ("FleetTerms$Fleet", "logs", "LFleetTerms$Logs;", true)
def tyX0 : Nat → FieldType := fun k => match k with
  | 0 => .int
  | 1 => .int
  | 2 => .int
  | 3 => .int
  | 4 => .int
  | 5 => .array .int
  | 6 => .array .int
  | 7 => .array .int
  | 8 => .array .int
  | 9 => .array .int
  | 10 => .array .int
  | 11 => .array .boolean
  | _ => .object "FleetTerms$Logs"
abbrev wsX00 : List Cond := u_ws RX0 TX0 13
theorem nmX0 : ∀ a, a < 13 → ∀ b, b < 13 → a ≠ b → (TX0 a).2.1 ≠ (TX0 b).2.1 := by decide +kernel
theorem tyX0_ok : ∀ k, k < 13 → parseFieldDescriptor (TX0 k).2.2.1 = some (tyX0 k) := by decide +kernel
abbrev cX0_init : ByteArray := prog_2_method_1_code
def yX0_init : MethodName := ⟨RX0, "<init>", "()V"⟩
abbrev cX0_begin : ByteArray := prog_2_method_2_code
def yX0_begin : MethodName := ⟨RX0, "begin", "(I)V"⟩
abbrev cX0_copyFrom : ByteArray := prog_2_method_3_code
def yX0_copyFrom : MethodName := ⟨RX0, "copyFrom", "(LFleetTerms$Fleet;)V"⟩
abbrev cX0_raise : ByteArray := prog_2_method_4_code
def yX0_raise : MethodName := ⟨RX0, "raise", "(I)V"⟩
abbrev cX0_passHours : ByteArray := prog_2_method_5_code
def yX0_passHours : MethodName := ⟨RX0, "passHours", "(I)V"⟩
abbrev cX0_runClocks : ByteArray := prog_2_method_6_code
def yX0_runClocks : MethodName := ⟨RX0, "runClocks", "()V"⟩
abbrev cX0_tellAll : ByteArray := prog_2_method_7_code
def yX0_tellAll : MethodName := ⟨RX0, "tellAll", "()V"⟩
abbrev cX0_commitAll : ByteArray := prog_2_method_8_code
def yX0_commitAll : MethodName := ⟨RX0, "commitAll", "()V"⟩
abbrev cX0_stand : ByteArray := prog_2_method_9_code
def yX0_stand : MethodName := ⟨RX0, "stand", "(I)V"⟩
abbrev cX0_givesVote : ByteArray := prog_2_method_10_code
def yX0_givesVote : MethodName := ⟨RX0, "givesVote", "(II)Z"⟩
abbrev cX0_tellOthers : ByteArray := prog_2_method_11_code
def yX0_tellOthers : MethodName := ⟨RX0, "tellOthers", "(I)V"⟩
abbrev cX0_tell : ByteArray := prog_2_method_12_code
def yX0_tell : MethodName := ⟨RX0, "tell", "(II)V"⟩
abbrev cX0_meetTerms : ByteArray := prog_2_method_13_code
def yX0_meetTerms : MethodName := ⟨RX0, "meetTerms", "(II)Z"⟩
abbrev cX0_takeTerm : ByteArray := prog_2_method_14_code
def yX0_takeTerm : MethodName := ⟨RX0, "takeTerm", "(II)V"⟩
abbrev cX0_commit : ByteArray := prog_2_method_15_code
def yX0_commit : MethodName := ⟨RX0, "commit", "(I)V"⟩
abbrev cX0_hearersThatAgree : ByteArray := prog_2_method_16_code
def yX0_hearersThatAgree : MethodName := ⟨RX0, "hearersThatAgree", "(II)I"⟩
abbrev cX0_leadsNow : ByteArray := prog_2_method_17_code
def yX0_leadsNow : MethodName := ⟨RX0, "leadsNow", "(I)Z"⟩
abbrev cX0_hear : ByteArray := prog_2_method_18_code
def yX0_hear : MethodName := ⟨RX0, "hear", "(II)Z"⟩
abbrev cX0_isMoreThanHalf : ByteArray := prog_2_method_19_code
def yX0_isMoreThanHalf : MethodName := ⟨RX0, "isMoreThanHalf", "(I)Z"⟩
abbrev cX0_isLed : ByteArray := prog_2_method_20_code
def yX0_isLed : MethodName := ⟨RX0, "isLed", "()Z"⟩
abbrev cX0_upIn : ByteArray := prog_2_method_21_code
def yX0_upIn : MethodName := ⟨RX0, "upIn", "(I)I"⟩
abbrev cX0_newestIn : ByteArray := prog_2_method_22_code
def yX0_newestIn : MethodName := ⟨RX0, "newestIn", "(I)I"⟩
abbrev cX0_ofBoat : ByteArray := prog_2_method_23_code
def yX0_ofBoat : MethodName := ⟨RX0, "ofBoat", "(II)I"⟩
abbrev cX0_ofEntry : ByteArray := prog_2_method_24_code
def yX0_ofEntry : MethodName := ⟨RX0, "ofEntry", "(III)I"⟩
abbrev cX0_boatsThatAgree : ByteArray := prog_2_method_25_code
def yX0_boatsThatAgree : MethodName := ⟨RX0, "boatsThatAgree", "(II)I"⟩
abbrev cX0_ofFleet : ByteArray := prog_2_method_26_code
def yX0_ofFleet : MethodName := ⟨RX0, "ofFleet", "(I)I"⟩
abbrev cX0_boatsUp : ByteArray := prog_2_method_27_code
def yX0_boatsUp : MethodName := ⟨RX0, "boatsUp", "()I"⟩
abbrev cX0_boatsLeading : ByteArray := prog_2_method_28_code
def yX0_boatsLeading : MethodName := ⟨RX0, "boatsLeading", "()I"⟩
abbrev cX0_greatestTerm : ByteArray := prog_2_method_29_code
def yX0_greatestTerm : MethodName := ⟨RX0, "greatestTerm", "()I"⟩
abbrev cX0_mostKnown : ByteArray := prog_2_method_30_code
def yX0_mostKnown : MethodName := ⟨RX0, "mostKnown", "()I"⟩
abbrev cX0_fewestKnown : ByteArray := prog_2_method_31_code
def yX0_fewestKnown : MethodName := ⟨RX0, "fewestKnown", "()I"⟩
def RX1 : String := "FleetTerms$Logs"
def TX1 : u_T := fun k => match k with
  | 0 => ("FleetTerms$Logs", "length", "[I", true)
  | 1 => ("FleetTerms$Logs", "known", "[I", true)
  | 2 => ("FleetTerms$Logs", "terms", "[I", true)
  | _ => ("FleetTerms$Logs", "fishes", "[I", true)
def tyX1 : Nat → FieldType := fun k => match k with
  | 0 => .array .int
  | 1 => .array .int
  | 2 => .array .int
  | _ => .array .int
abbrev wsX10 : List Cond := u_ws RX1 TX1 4
theorem nmX1 : ∀ a, a < 4 → ∀ b, b < 4 → a ≠ b → (TX1 a).2.1 ≠ (TX1 b).2.1 := by decide +kernel
theorem tyX1_ok : ∀ k, k < 4 → parseFieldDescriptor (TX1 k).2.2.1 = some (tyX1 k) := by decide +kernel
abbrev cX1_init : ByteArray := prog_3_method_1_code
def yX1_init : MethodName := ⟨RX1, "<init>", "()V"⟩
abbrev cX1_clear : ByteArray := prog_3_method_2_code
def yX1_clear : MethodName := ⟨RX1, "clear", "(I)V"⟩
abbrev cX1_copyFrom : ByteArray := prog_3_method_3_code
def yX1_copyFrom : MethodName := ⟨RX1, "copyFrom", "(LFleetTerms$Logs;)V"⟩
abbrev cX1_termAt : ByteArray := prog_3_method_4_code
def yX1_termAt : MethodName := ⟨RX1, "termAt", "(II)I"⟩
abbrev cX1_fishAt : ByteArray := prog_3_method_5_code
def yX1_fishAt : MethodName := ⟨RX1, "fishAt", "(II)I"⟩
abbrev cX1_lastTerm : ByteArray := prog_3_method_6_code
def yX1_lastTerm : MethodName := ⟨RX1, "lastTerm", "(I)I"⟩
abbrev cX1_append : ByteArray := prog_3_method_7_code
def yX1_append : MethodName := ⟨RX1, "append", "(III)V"⟩
abbrev cX1_loseLast : ByteArray := prog_3_method_8_code
def yX1_loseLast : MethodName := ⟨RX1, "loseLast", "(I)V"⟩
abbrev cX1_agreement : ByteArray := prog_3_method_9_code
def yX1_agreement : MethodName := ⟨RX1, "agreement", "(II)I"⟩
abbrev cX1_asNew : ByteArray := prog_3_method_10_code
def yX1_asNew : MethodName := ⟨RX1, "asNew", "(II)Z"⟩
abbrev cX1_mend : ByteArray := prog_3_method_11_code
def yX1_mend : MethodName := ⟨RX1, "mend", "(II)Z"⟩
abbrev cX1_learnCommitted : ByteArray := prog_3_method_12_code
def yX1_learnCommitted : MethodName := ⟨RX1, "learnCommitted", "(II)V"⟩
def RX2 : String := "FleetTerms"
def TX2 : u_T := fun k => match k with
  | 0 => ("FleetTerms", "now", "LFleetTerms$Fleet;", true)
  | _ => ("FleetTerms", "trial", "LFleetTerms$Fleet;", true)
def tyX2 : Nat → FieldType := fun k => match k with
  | 0 => .object "FleetTerms$Fleet"
  | _ => .object "FleetTerms$Fleet"
abbrev wsX20 : List Cond := u_ws RX2 TX2 2
theorem nmX2 : ∀ a, a < 2 → ∀ b, b < 2 → a ≠ b → (TX2 a).2.1 ≠ (TX2 b).2.1 := by decide +kernel
theorem tyX2_ok : ∀ k, k < 2 → parseFieldDescriptor (TX2 k).2.2.1 = some (tyX2 k) := by decide +kernel
abbrev cX2_init : ByteArray := prog_1_method_1_code
def yX2_init : MethodName := ⟨RX2, "<init>", "()V"⟩
abbrev cX2_fleet : ByteArray := prog_1_method_2_code
def yX2_fleet : MethodName := ⟨RX2, "fleet", "(I)I"⟩
abbrev cX2_setPatience : ByteArray := prog_1_method_3_code
def yX2_setPatience : MethodName := ⟨RX2, "setPatience", "(II)I"⟩
abbrev cX2_go : ByteArray := prog_1_method_4_code
def yX2_go : MethodName := ⟨RX2, "go", "(II)I"⟩
abbrev cX2_sink : ByteArray := prog_1_method_5_code
def yX2_sink : MethodName := ⟨RX2, "sink", "(I)Z"⟩
abbrev cX2_write : ByteArray := prog_1_method_6_code
def yX2_write : MethodName := ⟨RX2, "write", "(II)I"⟩
abbrev cX2_pass : ByteArray := prog_1_method_7_code
def yX2_pass : MethodName := ⟨RX2, "pass", "(I)I"⟩
abbrev cX2_told : ByteArray := prog_1_method_8_code
def yX2_told : MethodName := ⟨RX2, "told", "(II)I"⟩
abbrev cX2_entry : ByteArray := prog_1_method_9_code
def yX2_entry : MethodName := ⟨RX2, "entry", "(III)I"⟩
abbrev cX2_agree : ByteArray := prog_1_method_10_code
def yX2_agree : MethodName := ⟨RX2, "agree", "(II)I"⟩
abbrev cX2_newer : ByteArray := prog_1_method_11_code
def yX2_newer : MethodName := ⟨RX2, "newer", "(II)Z"⟩
abbrev cX2_leader : ByteArray := prog_1_method_12_code
def yX2_leader : MethodName := ⟨RX2, "leader", "()I"⟩
abbrev cX2_count : ByteArray := prog_1_method_13_code
def yX2_count : MethodName := ⟨RX2, "count", "(I)I"⟩
abbrev cX2_harbour : ByteArray := prog_1_method_14_code
def yX2_harbour : MethodName := ⟨RX2, "harbour", "(II)I"⟩
abbrev cX2_until : ByteArray := prog_1_method_15_code
def yX2_until : MethodName := ⟨RX2, "until", "()I"⟩
abbrev cX2_foresee : ByteArray := prog_1_method_16_code
def yX2_foresee : MethodName := ⟨RX2, "foresee", "(II)I"⟩
abbrev cX2_advise : ByteArray := prog_1_method_17_code
def yX2_advise : MethodName := ⟨RX2, "advise", "(II)I"⟩
abbrev cX2_mean : ByteArray := prog_1_method_18_code
def yX2_mean : MethodName := ⟨RX2, "mean", "()D"⟩
abbrev cX2_digest : ByteArray := prog_1_method_19_code
def yX2_digest : MethodName := ⟨RX2, "digest", "()J"⟩
abbrev cX2_digestOfBoat : ByteArray := prog_1_method_20_code
def yX2_digestOfBoat : MethodName := ⟨RX2, "digestOfBoat", "(JI)J"⟩
abbrev cX2_needBoat : ByteArray := prog_1_method_21_code
def yX2_needBoat : MethodName := ⟨RX2, "needBoat", "(I)V"⟩
abbrev cX2_needBelow : ByteArray := prog_1_method_22_code
def yX2_needBelow : MethodName := ⟨RX2, "needBelow", "(II)V"⟩
abbrev cX2_needHours : ByteArray := prog_1_method_23_code
def yX2_needHours : MethodName := ⟨RX2, "needHours", "(II)V"⟩
def RX3 : String := "FleetTermsModel$State"
def TX3 : u_T := fun k => match k with
  | 0 => ("FleetTermsModel$State", "boats", "I", false)
  | 1 => ("FleetTermsModel$State", "hour", "I", false)
  | 2 => ("FleetTermsModel$State", "stood", "I", false)
  | 3 => ("FleetTermsModel$State", "began", "I", false)
  | 4 => ("FleetTermsModel$State", "lost", "I", false)
  | 5 => ("FleetTermsModel$State", "patience", "[I", true)
  | 6 => ("FleetTermsModel$State", "clock", "[I", true)
  | 7 => ("FleetTermsModel$State", "term", "[I", true)
  | 8 => ("FleetTermsModel$State", "vote", "[I", true)
  | 9 => ("FleetTermsModel$State", "role", "[I", true)
  | 10 => ("FleetTermsModel$State", "harbour", "[I", true)
  | 11 => ("FleetTermsModel$State", "up", "[I", true)
  | 12 => ("FleetTermsModel$State", "length", "[I", true)
  | 13 => ("FleetTermsModel$State", "sure", "[I", true)
  | 14 => ("FleetTermsModel$State", "terms", "[I", true)
  | _ => ("FleetTermsModel$State", "fish", "[I", true)
def tyX3 : Nat → FieldType := fun k => match k with
  | 0 => .int
  | 1 => .int
  | 2 => .int
  | 3 => .int
  | 4 => .int
  | 5 => .array .int
  | 6 => .array .int
  | 7 => .array .int
  | 8 => .array .int
  | 9 => .array .int
  | 10 => .array .int
  | 11 => .array .int
  | 12 => .array .int
  | 13 => .array .int
  | 14 => .array .int
  | _ => .array .int
abbrev wsX30 : List Cond := u_ws RX3 TX3 16
theorem nmX3 : ∀ a, a < 16 → ∀ b, b < 16 → a ≠ b → (TX3 a).2.1 ≠ (TX3 b).2.1 := by decide +kernel
theorem tyX3_ok : ∀ k, k < 16 → parseFieldDescriptor (TX3 k).2.2.1 = some (tyX3 k) := by decide +kernel
abbrev cX3_init : ByteArray := prog_6_method_1_code
def yX3_init : MethodName := ⟨RX3, "<init>", "()V"⟩
abbrev cX3_begin : ByteArray := prog_6_method_2_code
def yX3_begin : MethodName := ⟨RX3, "begin", "(I)V"⟩
abbrev cX3_copy : ByteArray := prog_6_method_3_code
def yX3_copy : MethodName := ⟨RX3, "copy", "([I[I)V"⟩
abbrev cX3_become : ByteArray := prog_6_method_4_code
def yX3_become : MethodName := ⟨RX3, "become", "(LFleetTermsModel$State;)V"⟩
abbrev cX3_isMore : ByteArray := prog_6_method_5_code
def yX3_isMore : MethodName := ⟨RX3, "isMore", "(I)Z"⟩
abbrev cX3_isUp : ByteArray := prog_6_method_6_code
def yX3_isUp : MethodName := ⟨RX3, "isUp", "(II)Z"⟩
abbrev cX3_hear : ByteArray := prog_6_method_7_code
def yX3_hear : MethodName := ⟨RX3, "hear", "(II)Z"⟩
abbrev cX3_agree : ByteArray := prog_6_method_8_code
def yX3_agree : MethodName := ⟨RX3, "agree", "(II)I"⟩
abbrev cX3_lastTerm : ByteArray := prog_6_method_9_code
def yX3_lastTerm : MethodName := ⟨RX3, "lastTerm", "(I)I"⟩
abbrev cX3_isAsNew : ByteArray := prog_6_method_10_code
def yX3_isAsNew : MethodName := ⟨RX3, "isAsNew", "(II)Z"⟩
abbrev cX3_add : ByteArray := prog_6_method_11_code
def yX3_add : MethodName := ⟨RX3, "add", "(III)V"⟩
abbrev cX3_hearOf : ByteArray := prog_6_method_12_code
def yX3_hearOf : MethodName := ⟨RX3, "hearOf", "(II)V"⟩
abbrev cX3_stand : ByteArray := prog_6_method_13_code
def yX3_stand : MethodName := ⟨RX3, "stand", "(I)V"⟩
abbrev cX3_takeFrom : ByteArray := prog_6_method_14_code
def yX3_takeFrom : MethodName := ⟨RX3, "takeFrom", "(II)V"⟩
abbrev cX3_tell : ByteArray := prog_6_method_15_code
def yX3_tell : MethodName := ⟨RX3, "tell", "(I)V"⟩
abbrev cX3_commit : ByteArray := prog_6_method_16_code
def yX3_commit : MethodName := ⟨RX3, "commit", "(I)V"⟩
abbrev cX3_pass : ByteArray := prog_6_method_17_code
def yX3_pass : MethodName := ⟨RX3, "pass", "()V"⟩
abbrev cX3_passOn : ByteArray := prog_6_method_18_code
def yX3_passOn : MethodName := ⟨RX3, "passOn", "(I)V"⟩
abbrev cX3_counted : ByteArray := prog_6_method_19_code
def yX3_counted : MethodName := ⟨RX3, "counted", "(I)I"⟩
abbrev cX3_isLed : ByteArray := prog_6_method_20_code
def yX3_isLed : MethodName := ⟨RX3, "isLed", "()Z"⟩
def RX4 : String := "FleetTermsModel"
def TX4 : u_T := fun k => match k with
  | 0 => ("FleetTermsModel", "thrown", "I", false)
  | 1 => ("FleetTermsModel", "s", "LFleetTermsModel$State;", true)
  | _ => ("FleetTermsModel", "ahead", "LFleetTermsModel$State;", true)
def tyX4 : Nat → FieldType := fun k => match k with
  | 0 => .int
  | 1 => .object "FleetTermsModel$State"
  | _ => .object "FleetTermsModel$State"
abbrev wsX40 : List Cond := u_ws RX4 TX4 3
theorem nmX4 : ∀ a, a < 3 → ∀ b, b < 3 → a ≠ b → (TX4 a).2.1 ≠ (TX4 b).2.1 := by decide +kernel
theorem tyX4_ok : ∀ k, k < 3 → parseFieldDescriptor (TX4 k).2.2.1 = some (tyX4 k) := by decide +kernel
abbrev cX4_init : ByteArray := prog_5_method_1_code
def yX4_init : MethodName := ⟨RX4, "<init>", "()V"⟩
abbrev cX4_thrown : ByteArray := prog_5_method_2_code
def yX4_thrown : MethodName := ⟨RX4, "thrown", "()I"⟩
abbrev cX4_no : ByteArray := prog_5_method_3_code
def yX4_no : MethodName := ⟨RX4, "no", "(I)I"⟩
abbrev cX4_isIn : ByteArray := prog_5_method_4_code
def yX4_isIn : MethodName := ⟨RX4, "isIn", "(III)Z"⟩
abbrev cX4_isBoat : ByteArray := prog_5_method_5_code
def yX4_isBoat : MethodName := ⟨RX4, "isBoat", "(I)Z"⟩
abbrev cX4_fleet : ByteArray := prog_5_method_6_code
def yX4_fleet : MethodName := ⟨RX4, "fleet", "(I)I"⟩
abbrev cX4_setPatience : ByteArray := prog_5_method_7_code
def yX4_setPatience : MethodName := ⟨RX4, "setPatience", "(II)I"⟩
abbrev cX4_go : ByteArray := prog_5_method_8_code
def yX4_go : MethodName := ⟨RX4, "go", "(II)I"⟩
abbrev cX4_sink : ByteArray := prog_5_method_9_code
def yX4_sink : MethodName := ⟨RX4, "sink", "(I)Z"⟩
abbrev cX4_write : ByteArray := prog_5_method_10_code
def yX4_write : MethodName := ⟨RX4, "write", "(II)I"⟩
abbrev cX4_pass : ByteArray := prog_5_method_11_code
def yX4_pass : MethodName := ⟨RX4, "pass", "(I)I"⟩
abbrev cX4_boatTold : ByteArray := prog_5_method_12_code
def yX4_boatTold : MethodName := ⟨RX4, "boatTold", "(II)I"⟩
abbrev cX4_told : ByteArray := prog_5_method_13_code
def yX4_told : MethodName := ⟨RX4, "told", "(II)I"⟩
abbrev cX4_entryTold : ByteArray := prog_5_method_14_code
def yX4_entryTold : MethodName := ⟨RX4, "entryTold", "(III)I"⟩
abbrev cX4_entry : ByteArray := prog_5_method_15_code
def yX4_entry : MethodName := ⟨RX4, "entry", "(III)I"⟩
abbrev cX4_agree : ByteArray := prog_5_method_16_code
def yX4_agree : MethodName := ⟨RX4, "agree", "(II)I"⟩
abbrev cX4_newer : ByteArray := prog_5_method_17_code
def yX4_newer : MethodName := ⟨RX4, "newer", "(II)Z"⟩
abbrev cX4_leader : ByteArray := prog_5_method_18_code
def yX4_leader : MethodName := ⟨RX4, "leader", "()I"⟩
abbrev cX4_count : ByteArray := prog_5_method_19_code
def yX4_count : MethodName := ⟨RX4, "count", "(I)I"⟩
abbrev cX4_harbourTold : ByteArray := prog_5_method_20_code
def yX4_harbourTold : MethodName := ⟨RX4, "harbourTold", "(II)I"⟩
abbrev cX4_harbour : ByteArray := prog_5_method_21_code
def yX4_harbour : MethodName := ⟨RX4, "harbour", "(II)I"⟩
abbrev cX4_until : ByteArray := prog_5_method_22_code
def yX4_until : MethodName := ⟨RX4, "until", "()I"⟩
abbrev cX4_foresee : ByteArray := prog_5_method_23_code
def yX4_foresee : MethodName := ⟨RX4, "foresee", "(II)I"⟩
abbrev cX4_advise : ByteArray := prog_5_method_24_code
def yX4_advise : MethodName := ⟨RX4, "advise", "(II)I"⟩
abbrev cX4_mean : ByteArray := prog_5_method_25_code
def yX4_mean : MethodName := ⟨RX4, "mean", "()D"⟩
abbrev cX4_digest : ByteArray := prog_5_method_26_code
def yX4_digest : MethodName := ⟨RX4, "digest", "()J"⟩
def RJ9 : String := "java/lang/Math"
def TJ9 : u_T := fun k => match k with
  | _ => ("", "", "", false)
def tyJ9 : Nat → FieldType := fun k => match k with
  | _ => .int
abbrev wsJ90 : List Cond := u_ws RJ9 TJ9 0
theorem nmJ9 : ∀ a, a < 0 → ∀ b, b < 0 → a ≠ b → (TJ9 a).2.1 ≠ (TJ9 b).2.1 := by decide +kernel
theorem tyJ9_ok : ∀ k, k < 0 → parseFieldDescriptor (TJ9 k).2.2.1 = some (tyJ9 k) := by decide +kernel
abbrev cJ9_max_7cf53 : ByteArray := prog_11_method_65_code
def yJ9_max_7cf53 : MethodName := ⟨RJ9, "max", "(II)I"⟩
abbrev cJ9_min_7cf53 : ByteArray := prog_11_method_69_code
def yJ9_min_7cf53 : MethodName := ⟨RJ9, "min", "(II)I"⟩
def RJ0 : String := "java/lang/String"
def TJ0 : u_T := fun k => match k with
  | _ => ("", "", "", false)
def tyJ0 : Nat → FieldType := fun k => match k with
  | _ => .int
abbrev wsJ00 : List Cond := u_ws RJ0 TJ0 0
theorem nmJ0 : ∀ a, a < 0 → ∀ b, b < 0 → a ≠ b → (TJ0 a).2.1 ≠ (TJ0 b).2.1 := by decide +kernel
theorem tyJ0_ok : ∀ k, k < 0 → parseFieldDescriptor (TJ0 k).2.2.1 = some (tyJ0 k) := by decide +kernel
def RJ10 : String := "java/lang/System"
def TJ10 : u_T := fun k => match k with
  | _ => ("", "", "", false)
def tyJ10 : Nat → FieldType := fun k => match k with
  | _ => .int
abbrev wsJ100 : List Cond := u_ws RJ10 TJ10 0
theorem nmJ10 : ∀ a, a < 0 → ∀ b, b < 0 → a ≠ b → (TJ10 a).2.1 ≠ (TJ10 b).2.1 := by decide +kernel
theorem tyJ10_ok : ∀ k, k < 0 → parseFieldDescriptor (TJ10 k).2.2.1 = some (tyJ10 k) := by decide +kernel
def RL : String := "FleetTermsLaw"
abbrev cL_fleet : ByteArray := method_3_code
def yL_fleet : MethodName := ⟨RL, "fleet", "(LFleetTerms;I[J)I"⟩
abbrev cL_setPatience : ByteArray := method_4_code
def yL_setPatience : MethodName := ⟨RL, "setPatience", "(LFleetTerms;II[J)I"⟩
abbrev cL_go : ByteArray := method_5_code
def yL_go : MethodName := ⟨RL, "go", "(LFleetTerms;II[J)I"⟩
abbrev cL_sink : ByteArray := method_6_code
def yL_sink : MethodName := ⟨RL, "sink", "(LFleetTerms;I[J)I"⟩
abbrev cL_write : ByteArray := method_7_code
def yL_write : MethodName := ⟨RL, "write", "(LFleetTerms;II[J)I"⟩
abbrev cL_pass : ByteArray := method_8_code
def yL_pass : MethodName := ⟨RL, "pass", "(LFleetTerms;I[J)I"⟩
abbrev cL_told : ByteArray := method_9_code
def yL_told : MethodName := ⟨RL, "told", "(LFleetTerms;II[J)I"⟩
abbrev cL_entry : ByteArray := method_10_code
def yL_entry : MethodName := ⟨RL, "entry", "(LFleetTerms;III[J)I"⟩
abbrev cL_agree : ByteArray := method_11_code
def yL_agree : MethodName := ⟨RL, "agree", "(LFleetTerms;II[J)I"⟩
abbrev cL_newer : ByteArray := method_12_code
def yL_newer : MethodName := ⟨RL, "newer", "(LFleetTerms;II[J)I"⟩
abbrev cL_count : ByteArray := method_13_code
def yL_count : MethodName := ⟨RL, "count", "(LFleetTerms;I[J)I"⟩
abbrev cL_harbour : ByteArray := method_14_code
def yL_harbour : MethodName := ⟨RL, "harbour", "(LFleetTerms;II[J)I"⟩
abbrev cL_foresee : ByteArray := method_15_code
def yL_foresee : MethodName := ⟨RL, "foresee", "(LFleetTerms;II[J)I"⟩
abbrev cL_advise : ByteArray := method_16_code
def yL_advise : MethodName := ⟨RL, "advise", "(LFleetTerms;II[J)I"⟩
abbrev cL_law : ByteArray := code
def yL_law : MethodName := ⟨RL, "law", "([I)Z"⟩
abbrev vwCl : List vw_C := [(RX0, TX0, 13), (RX1, TX1, 4), (RX2, TX2, 2), (RX3, TX3, 16), (RX4, TX4, 3)]
end
section
/-! A world in blocks, and a walk over it: 'zK ..' is W at a point, for every heap that holds the blocks; a row of it an instruction. -/
/-- texts of exceptions: (class, place, text) -/
def zSt : List (String × Nat × String) := [("FleetTerms", 25, "boats is not 3 to 7"), ("FleetTerms", 153, "no such boat"), ("FleetTerms", 33, "patience is not 2 to 9"), ("FleetTerms", 155, "no such number"), ("FleetTerms", 53, "fish is not 0 to 99"), ("FleetTerms", 61, "the boat is sunk, or does not lead"), ("FleetTerms", 73, "the log has 10 entries"), ("FleetTerms", 157, "too few or too many hours"), ("FleetTerms", 133, "what is not 3 to 9"), ("FleetTerms", 136, "the boat is sunk")]
/-- an exception's class, and one that it is no part of -/
def zNcL : List (String × String) := [("java/lang/IllegalArgumentException", "java/lang/IndexOutOfBoundsException"), ("java/lang/IllegalArgumentException", "java/lang/IllegalStateException"), ("java/lang/IndexOutOfBoundsException", "java/lang/IllegalArgumentException"), ("java/lang/IndexOutOfBoundsException", "java/lang/IllegalStateException"), ("java/lang/IllegalStateException", "java/lang/IllegalArgumentException"), ("java/lang/IllegalStateException", "java/lang/IndexOutOfBoundsException")]
abbrev zS : Type := (ClassId × Nat) ⊕ ((Nat × List (Option Nat)) ⊕ va_E)
abbrev zF : Type := Nat → Nat → Int32
abbrev zB : Type := List (Nat × zS) × zF
def zO : Nat → List (Option Nat) → (Nat → Int32) → List Value
  | _, [], _ => []
  | j, none :: fs, f => .int (f j) :: zO (j + 1) fs f
  | j, some r :: fs, f => .ref r :: zO (j + 1) fs f
def zV (o : Option Nat) (x : Int32) : Value := match o with
  | none => .int x
  | some r => .ref r
def zC (s : zS) (f : Nat → Int32) : va_E := match s with
  | .inl (cA, n) => .inl (cA, n, .inl f)
  | .inr (.inl (ci, fs)) => .inr (ci, zO 0 fs f)
  | .inr (.inr e) => e
def zW1 : Nat → List (Nat × zS) → zF → va_W
  | _, [], _ => []
  | k, p :: sh, σ => (p.1, zC p.2 (σ k)) :: zW1 (k + 1) sh σ
def zW : List zB → va_W
  | [] => []
  | b :: B => zW1 0 b.1 b.2 ++ zW B
def zU (σ : zF) (k i : Nat) (v : Int32) : zF := fun k' => bif k' == k then upd (σ k') i v else σ k'
theorem zU_eq (σ : zF) (k i : Nat) (v : Int32) : zU σ k i v k = upd (σ k) i v := by simp [zU]
theorem zU_ne {σ : zF} {k i k' : Nat} {v : Int32} (h : k' ≠ k) : zU σ k i v k' = σ k' := by
  simp [zU, beq_eq_false_iff_ne.mpr h]
theorem zU_at (σ : zF) (k i : Nat) (v : Int32) (k' j : Nat) : zU σ k i v k' j = if k' = k ∧ j = i then v else σ k' j := by
  by_cases h : k' = k
  · subst h
    rw [zU_eq]
    by_cases h2 : j = i <;> simp [upd, h2]
  · rw [zU_ne h]
    simp [h]
theorem zO_get : ∀ (fs : List (Option Nat)) (j0 : Nat) (f : Nat → Int32) (j : Nat), (zO j0 fs f)[j]? = (fs[j]?).map (fun o => zV o (f (j0 + j)))
  | [], _, _, _ => by simp [zO]
  | o :: fs, j0, f, j => by
    cases j with
    | zero => cases o <;> simp [zO, zV]
    | succ j =>
      have h := zO_get fs (j0 + 1) f j
      rw [show j0 + 1 + j = j0 + (j + 1) by omega] at h
      cases o <;> simpa [zO] using h
theorem zO_len (fs : List (Option Nat)) (j0 : Nat) (f : Nat → Int32) {j : Nat} {o : Option Nat} (h : fs[j]? = some o) : j < (zO j0 fs f).length := by
  have h1 : (zO j0 fs f)[j]? = some (zV o (f (j0 + j))) := by rw [zO_get, h]; rfl
  exact (List.getElem?_eq_some_iff.mp h1).1
theorem zO_set (fs : List (Option Nat)) (j0 : Nat) (f : Nat → Int32) {j : Nat} (v : Int32) (h : fs[j]? = some none) : (zO j0 fs f).set j (.int v) = zO j0 fs (upd f (j0 + j) v) := by
  apply List.ext_getElem?
  intro k
  by_cases hk : k = j
  · subst hk
    rw [List.getElem?_set_self (zO_len fs j0 f h), zO_get, h]
    simp [zV, upd]
  · rw [List.getElem?_set_ne (Ne.symm hk), zO_get, zO_get]
    congr 1
    funext o
    congr 1
    have hne : ¬ j0 + k = j0 + j := by omega
    simp [upd, hk]
theorem zW1_get : ∀ (sh : List (Nat × zS)) (k0 : Nat) (σ : zF) (j : Nat), (zW1 k0 sh σ)[j]? = (sh[j]?).map (fun p => (p.1, zC p.2 (σ (k0 + j))))
  | [], _, _, _ => by simp [zW1]
  | p :: sh, k0, σ, j => by
    cases j with
    | zero => simp [zW1]
    | succ j =>
      have h := zW1_get sh (k0 + 1) σ j
      rw [show k0 + 1 + j = k0 + (j + 1) by omega] at h
      simpa [zW1] using h
theorem zW1_len {sh : List (Nat × zS)} {k0 : Nat} {σ : zF} {j : Nat} {p : Nat × zS} (h : sh[j]? = some p) : j < (zW1 k0 sh σ).length := by
  have h1 : (zW1 k0 sh σ)[j]? = some (p.1, zC p.2 (σ (k0 + j))) := by rw [zW1_get, h]; rfl
  exact (List.getElem?_eq_some_iff.mp h1).1
theorem zW1_set {sh : List (Nat × zS)} {k0 : Nat} {σ σ' : zF} {j a : Nat} {s : zS} {e' : va_E} (h : sh[j]? = some (a, s)) (he : zC s (σ' (k0 + j)) = e') (ho : ∀ k, k ≠ k0 + j → σ' k = σ k) : (zW1 k0 sh σ).set j (a, e') = zW1 k0 sh σ' := by
  apply List.ext_getElem?
  intro k
  by_cases hk : k = j
  · subst hk
    rw [List.getElem?_set_self (zW1_len h), zW1_get, h]
    simp [he]
  · rw [List.getElem?_set_ne (Ne.symm hk), zW1_get, zW1_get]
    congr 1
    funext p
    rw [ho (k0 + k) (by omega)]
theorem zW1_setR {sh : List (Nat × zS)} {k0 : Nat} {σ : zF} {j a : Nat} {s : zS} {e' : va_E} (h : sh[j]? = some (a, s)) : (zW1 k0 sh σ).set j (a, e') = zW1 k0 (sh.set j (a, .inr (.inr e'))) σ := by
  have hl := (List.getElem?_eq_some_iff.mp h).1
  apply List.ext_getElem?
  intro k
  by_cases hk : k = j
  · subst hk
    rw [List.getElem?_set_self (zW1_len h), zW1_get, List.getElem?_set_self hl]
    rfl
  · rw [List.getElem?_set_ne (Ne.symm hk), zW1_get, zW1_get, List.getElem?_set_ne (Ne.symm hk)]
theorem zW_at : ∀ (B : List zB) (b : Nat) {sh : List (Nat × zS)} {σ : zF}, B[b]? = some (sh, σ) → ∀ {k a : Nat} {s : zS}, sh[k]? = some (a, s) → ∃ q0 : Nat, (zW B)[q0]? = some (a, zC s (σ k)) ∧ (∀ (σ' : zF) (e' : va_E), zC s (σ' k) = e' → (∀ k', k' ≠ k → σ' k' = σ k') → (zW B).set q0 (a, e') = zW (B.set b (sh, σ'))) ∧ (∀ e' : va_E, (zW B).set q0 (a, e') = zW (B.set b (sh.set k (a, .inr (.inr e')), σ)))
  | [], b, _, _, h, _, _, _, _ => by simp at h
  | b0 :: B, 0, sh, σ, h, k, a, s, hk => by
    have hb0 : b0 = (sh, σ) := by simpa using h
    subst hb0
    have hl : k < (zW1 0 sh σ).length := zW1_len hk
    refine ⟨k, ?_, fun σ' e' he ho => ?_, fun e' => ?_⟩
    · show (zW1 0 sh σ ++ zW B)[k]? = _
      rw [List.getElem?_append_left hl, zW1_get, hk]
      simp
    · show (zW1 0 sh σ ++ zW B).set k (a, e') = zW1 0 sh σ' ++ zW B
      rw [List.set_append_left k _ hl, zW1_set (σ' := σ') hk (by simpa using he) (fun k' hk' => ho k' (by simpa using hk'))]
    · show (zW1 0 sh σ ++ zW B).set k (a, e') = zW1 0 (sh.set k (a, .inr (.inr e'))) σ ++ zW B
      rw [List.set_append_left k _ hl, zW1_setR hk]
  | b0 :: B, b + 1, sh, σ, h, k, a, s, hk => by
    have hB : B[b]? = some (sh, σ) := by simpa using h
    obtain ⟨q, h1, h2, h3⟩ := zW_at B b hB hk
    refine ⟨(zW1 0 b0.1 b0.2).length + q, ?_, fun σ' e' he ho => ?_, fun e' => ?_⟩
    · show (zW1 0 b0.1 b0.2 ++ zW B)[(zW1 0 b0.1 b0.2).length + q]? = _
      rw [List.getElem?_append_right (by omega), Nat.add_sub_cancel_left]
      exact h1
    · show (zW1 0 b0.1 b0.2 ++ zW B).set ((zW1 0 b0.1 b0.2).length + q) (a, e') = zW1 0 b0.1 b0.2 ++ zW (B.set b (sh, σ'))
      rw [List.set_append_right _ _ (by omega), Nat.add_sub_cancel_left, h2 σ' e' he ho]
    · show (zW1 0 b0.1 b0.2 ++ zW B).set ((zW1 0 b0.1 b0.2).length + q) (a, e') = zW1 0 b0.1 b0.2 ++ zW (B.set b (sh.set k (a, .inr (.inr e')), σ))
      rw [List.set_append_right _ _ (by omega), Nat.add_sub_cancel_left, h3 e']
theorem zD_iff {A : Nat → Prop} {ws : va_W} : va_D A ws ↔ (ws.map (·.1)).Nodup ∧ ∀ q ∈ ws, A q.1 := by
  constructor
  · intro h
    refine ⟨List.nodup_iff_pairwise_ne.mpr (List.pairwise_iff_getElem.mpr fun i j hi hj hij e => ?_), fun q hq => ?_⟩
    · rw [List.length_map] at hi hj
      rw [List.getElem_map, List.getElem_map] at e
      have := h.1 i j _ _ (List.getElem?_eq_getElem hi) (List.getElem?_eq_getElem hj) e
      omega
    · obtain ⟨k, hk⟩ := List.getElem?_of_mem hq
      exact h.2 k q hk
  · intro h
    have h1 := List.pairwise_iff_getElem.mp (List.nodup_iff_pairwise_ne.mp h.1)
    refine ⟨fun i j p q hi hj e => ?_, fun k q hk => h.2 q (List.mem_of_getElem? hk)⟩
    obtain ⟨li, ei⟩ := List.getElem?_eq_some_iff.mp hi
    obtain ⟨lj, ej⟩ := List.getElem?_eq_some_iff.mp hj
    rcases Nat.lt_trichotomy i j with g | g | g
    · exact absurd (by rw [List.getElem_map, List.getElem_map, ei, ej]; exact e) (h1 i j (by rw [List.length_map]; exact li) (by rw [List.length_map]; exact lj) g)
    · exact g
    · exact absurd (by rw [List.getElem_map, List.getElem_map, ei, ej]; exact e.symm) (h1 j i (by rw [List.length_map]; exact lj) (by rw [List.length_map]; exact li) g)
theorem zP_iff {D : va_G} {cl : List vw_C} {ws : va_W} {H : Heap} : va_P D cl ws H ↔ ∀ q ∈ ws, va_at D cl q H := by
  constructor
  · intro h q hq
    obtain ⟨k, hk⟩ := List.getElem?_of_mem hq
    exact h k q hk
  · intro h k q hk
    exact h q (List.mem_of_getElem? hk)
theorem zA_iff {ws : va_W} {sz q : Nat} : va_A ws sz q ↔ (∃ p ∈ ws, p.1 = q) ∨ sz ≤ q := by
  constructor
  · rintro (⟨k, e, h⟩ | h)
    · exact Or.inl ⟨(q, e), List.mem_of_getElem? h, rfl⟩
    · exact Or.inr h
  · rintro (⟨p, hp, rfl⟩ | h)
    · obtain ⟨k, hk⟩ := List.getElem?_of_mem hp
      exact va_A.in hk
    · exact Or.inr h
theorem zW_app : ∀ (B B' : List zB), zW (B ++ B') = zW B ++ zW B'
  | [], _ => rfl
  | b :: B, B' => by
    show zW1 0 b.1 b.2 ++ zW (B ++ B') = zW1 0 b.1 b.2 ++ zW B ++ zW B'
    rw [zW_app B B', List.append_assoc]
theorem zW_perm {B B' : List zB} (h : B.Perm B') : (zW B).Perm (zW B') := by
  induction h with
  | nil => exact List.Perm.refl _
  | cons b _ ih => exact List.Perm.append_left _ ih
  | swap a b l =>
    show (zW1 0 b.1 b.2 ++ (zW1 0 a.1 a.2 ++ zW l)).Perm (zW1 0 a.1 a.2 ++ (zW1 0 b.1 b.2 ++ zW l))
    rw [← List.append_assoc, ← List.append_assoc]
    exact List.Perm.append_right _ List.perm_append_comm
  | trans _ _ h1 h2 => exact h1.trans h2
def zPick : List Bool → List zB → List zB
  | true :: m, b :: B => b :: zPick m B
  | false :: m, _ :: B => zPick m B
  | _, _ => []
def zRest : List Bool → List zB → List zB
  | true :: m, _ :: B => zRest m B
  | false :: m, b :: B => b :: zRest m B
  | _, B => B
def zPut : List Bool → List zB → List zB → List zB
  | true :: m, _ :: B, c :: u => c :: zPut m B u
  | true :: m, _ :: B, [] => zPut m B []
  | false :: m, b :: B, u => b :: zPut m B u
  | _, B, u => B ++ u
theorem zPick_perm : ∀ (m : List Bool) (B : List zB), B.Perm (zRest m B ++ zPick m B)
  | [], B => by cases B <;> simp [zRest, zPick]
  | _ :: _, [] => by simp [zRest, zPick]
  | true :: m, b :: B => by
    show (b :: B).Perm (zRest m B ++ b :: zPick m B)
    exact (List.Perm.cons b (zPick_perm m B)).trans List.perm_middle.symm
  | false :: m, b :: B => List.Perm.cons b (zPick_perm m B)
theorem zPut_perm : ∀ (m : List Bool) (B u : List zB), (zPut m B u).Perm (zRest m B ++ u)
  | [], B, u => by cases B <;> simp [zRest, zPut]
  | _ :: _, [], u => by simp [zRest, zPut]
  | true :: m, b :: B, [] => zPut_perm m B []
  | true :: m, b :: B, c :: u => by
    show (c :: zPut m B u).Perm (zRest m B ++ c :: u)
    exact (List.Perm.cons c (zPut_perm m B u)).trans List.perm_middle.symm
  | false :: m, b :: B, u => List.Perm.cons b (zPut_perm m B u)
theorem zP_perm {D : va_G} {cl : List vw_C} {w w' : va_W} {H : Heap} (h : w.Perm w') (hP : va_P D cl w H) : va_P D cl w' H := zP_iff.mpr fun q hq => zP_iff.mp hP q (h.mem_iff.mpr hq)
theorem zD_perm {A : Nat → Prop} {w w' : va_W} (h : w.Perm w') (hD : va_D A w) : va_D A w' := by
  obtain ⟨h1, h2⟩ := zD_iff.mp hD
  exact zD_iff.mpr ⟨(h.map (·.1)).nodup h1, fun q hq => h2 q (h.mem_iff.mpr hq)⟩
theorem zD_split {A : Nat → Prop} {w w' : va_W} (hD : va_D A (w ++ w')) : va_D A w ∧ va_D A w' ∧ ∀ q ∈ w, ∀ q' ∈ w', q.1 ≠ q'.1 := by
  obtain ⟨h1, h2⟩ := zD_iff.mp hD
  rw [List.map_append, List.nodup_append] at h1
  exact ⟨zD_iff.mpr ⟨h1.1, fun q hq => h2 q (List.mem_append_left _ hq)⟩, zD_iff.mpr ⟨h1.2.1, fun q hq => h2 q (List.mem_append_right _ hq)⟩, fun q hq q' hq' => h1.2.2 _ (List.mem_map_of_mem hq) _ (List.mem_map_of_mem hq')⟩
theorem z_pick {D : va_G} {A0 : Nat → Prop} {H0 H : Heap} {locs : List Loc} (m : List Bool) {B : List zB} (hP : va_P D vwCl (zW B) H) (hD : va_D A0 (zW B)) (hS : va_S A0 H0 H locs) (hA : ∀ q, H0.size ≤ q → A0 q) :
    va_P D vwCl (zW (zPick m B)) H ∧ va_D (fun _ => True) (zW (zPick m B)) ∧ ∀ q, va_A (zW (zPick m B)) H.size q → A0 q := by
  have hp := zW_perm (zPick_perm m B)
  rw [zW_app] at hp
  have hP1 := zP_perm hp hP
  have hD1 := zD_perm hp hD
  obtain ⟨-, d2, -⟩ := zD_split hD1
  refine ⟨zP_iff.mpr fun q hq => zP_iff.mp hP1 q (List.mem_append_right _ hq), d2.weaken (fun _ _ _ _ => trivial), fun q h => ?_⟩
  rcases zA_iff.mp h with ⟨p, hp, rfl⟩ | h
  · exact (zD_iff.mp d2).2 p hp
  · exact hA q (Nat.le_trans hS.1 h)
theorem z_join {D : va_G} {A0 : Nat → Prop} (m : List Bool) {B u : List zB} {H H1 : Heap} (hP : va_P D vwCl (zW B) H) (hD : va_D A0 (zW B)) (hk : ∀ q : Nat, q < H.size → ¬ va_A (zW (zPick m B)) H.size q → H1[q]? = H[q]?) (hF : ∀ q, va_A (zW (zPick m B)) H.size q → A0 q) (hP1 : va_P D vwCl (zW u) H1) (hD1 : va_D (va_A (zW (zPick m B)) H.size) (zW u)) :
    va_P D vwCl (zW (zPut m B u)) H1 ∧ va_D A0 (zW (zPut m B u)) := by
  have hp := zW_perm (zPick_perm m B)
  rw [zW_app] at hp
  have hPb := zP_perm hp hP
  obtain ⟨d1, -, d3⟩ := zD_split (zD_perm hp hD)
  have apart : ∀ q ∈ zW (zRest m B), q.1 < H.size ∧ ¬ va_A (zW (zPick m B)) H.size q.1 := fun q hq => by
    have hl := (zP_iff.mp hPb q (List.mem_append_left _ hq)).lt
    refine ⟨hl, fun h => ?_⟩
    rcases zA_iff.mp h with ⟨p, hp, e⟩ | h
    · exact d3 q hq p hp e.symm
    · omega
  have hq := zW_perm (zPut_perm m B u).symm
  rw [zW_app] at hq
  refine ⟨zP_perm hq (zP_iff.mpr fun q hq => ?_), zD_perm hq (zD_iff.mpr ⟨?_, fun q hq => ?_⟩)⟩
  · rcases List.mem_append.mp hq with h | h
    · exact (zP_iff.mp hPb q (List.mem_append_left _ h)).kept (hk q.1 (apart q h).1 (apart q h).2)
    · exact zP_iff.mp hP1 q h
  · rw [List.map_append, List.nodup_append]
    refine ⟨(zD_iff.mp d1).1, (zD_iff.mp hD1).1, fun a ha b hb e => ?_⟩
    obtain ⟨q, hq, rfl⟩ := List.mem_map.mp ha
    obtain ⟨q', hq', rfl⟩ := List.mem_map.mp hb
    exact (apart q hq).2 (by rw [e]; exact (zD_iff.mp hD1).2 q' hq')
  · rcases List.mem_append.mp hq with h | h
    · exact (zD_iff.mp d1).2 q h
    · exact hF q.1 ((zD_iff.mp hD1).2 q h)
/-- the words that go with every method: those of the tables that any warming keeps -/
def lw_all : List Cond := lw_tbl.filter goodWord
/-- the words that go in premises: members of nest mates, and casts -/
def zNk : Cond → Bool
  | .fieldLinkNest .. => true
  | .methodLinkNest .. => true
  | .castable .. => true
  | _ => false
def lw_env : List Cond := lw_tbl.filter zNk
theorem zNk_go {s U : State} (hW : s.WarmedH U.vm) : ∀ w : Cond, zNk w = true → va_Nw w s → va_Nw w U := by
  intro w hw h
  cases w with
  | fieldLinkNest a i b n d h9 => exact va_Nw.warmF hW h
  | methodLinkNest a i x h9 => exact va_Nw.warmM hW h
  | castable a b => exact va_tabs rfl (rfl : (s.setVm U.vm).vm = U.vm) (Cond.before_shiftedFace (State.Shifted.of_warmed hW) (.castable a b) rfl h)
  | _ => simp [zNk] at hw
def zEv (A : Nat → Prop) (U : State) (H : Heap) : Prop :=
  (∀ w ∈ lw_env, va_Nw w U) ∧ (∀ q ∈ zSt, ∃ sa : Nat, vk_R q.1 q.2.1 q.2.2 sa U) ∧ (∀ q ∈ zNcL, va_Nc q.1 q.2 U) ∧ vx_Zq Bundle.tN "UNASSIGNED_STACK" Bundle.steD A U H ∧ vx_Zq Bundle.tN "SUPPRESSED_SENTINEL" Bundle.listD A U H
theorem zEv.go {A B : Nat → Prop} {s U : State} {H H1 : Heap} (h : zEv A s H) (hW : s.WarmedH U.vm) (hq : ∀ a : Nat, a < H.size → ¬ A a → H1[a]? = H[a]?) (hAB : ∀ q, B q → A q) : zEv B U H1 := by
  obtain ⟨h1, h2, h3, h4, h5⟩ := h
  refine ⟨fun w hw => zNk_go hW w (List.mem_filter.mp hw).2 (h1 w hw), fun q hq => ?_, fun q hq => (h3 q hq).moved hW.alike, ((h4.kept hq).narrow hAB).moved hW.alike, ((h5.kept hq).narrow hAB).moved hW.alike⟩
  obtain ⟨sa, h⟩ := h2 q hq
  exact ⟨sa, vk_R.warm hW h⟩
theorem zEv_calling {A : Nat → Prop} {U : State} {g : JFrame} {mk : MethodId} {a : Array Value} (h : zEv A U U.heap) : zEv A (U.calling g mk a) (U.calling g mk a).heap := h.go (State.WarmedH.refl U) (fun _ _ _ => rfl) (fun _ h => h)
/-- a method's words -/
abbrev wz (y : MethodName) (cc : ByteArray) (n : Nat) (ret : Option FieldType) : List Cond := Cond.code y cc n ret :: lw_all
theorem lw_good {w : Cond} (h : w ∈ lw_all) : w ∈ lw_all ∧ ((w.onTables && w.keeps) = true ∨ ∃ ty, w = .arrayClass ty) := ⟨h, good_of_word (List.mem_filter.mp h).2⟩
theorem lw_goodIn {l : List Cond} (h : ∀ w ∈ l, w ∈ lw_all) : GoodIn lw_all l := fun w hw => lw_good (h w hw)
/-- what a caller asks of a method's tables: its code, and that it is found in objects of the class Cl -/
def zCal (y : MethodName) (cc : ByteArray) (n : Nat) (ret : Option FieldType) (k : Nat) : Prop := Cond.code y cc n ret ∈ lw_all ∧ Cond.initialized y.cls ∈ lw_all ∧ (y.cls ≠ "java/lang/invoke/MethodHandle" ∧ y.cls ≠ "java/lang/invoke/VarHandle" ∧ (parseMethodDescriptor y.desc).map (fun d => d.parameters.length) = some k)
theorem zCal.ws {y : MethodName} {cc : ByteArray} {n k : Nat} {ret : Option FieldType} (h : zCal y cc n ret k) : ∀ w ∈ wz y cc n ret, w ∈ lw_all := fun w hw => by
  rcases List.mem_cons.mp hw with rfl | hw
  · exact h.1
  · exact hw
theorem zg_V {own Cl : String} {idx : Nat} {y : MethodName} {ws : List Cond} (h1 : Cond.methodLink own idx y ∈ lw_all) (h2 : Cond.instanceMethod y ∈ lw_all) (h3 : Cond.selects Cl y y ∈ lw_all) (h4 : Cond.initialized Cl ∈ lw_all) (h5 : ∀ w ∈ ws, w ∈ lw_all) : GoodIn lw_all (wsV own idx Cl y ws) := lw_goodIn fun w hw => by
  rcases List.mem_append.mp hw with h | h
  · simp only [List.mem_cons, List.not_mem_nil, or_false] at h
    rcases h with rfl | rfl | rfl | rfl
    · exact h1
    · exact h2
    · exact h3
    · exact h4
  · exact h5 w h
theorem zg_S {own : String} {idx : Nat} {y : MethodName} {ws : List Cond} (h1 : Cond.methodLink own idx y ∈ lw_all) (h2 : Cond.static y ∈ lw_all) (h4 : Cond.initialized y.cls ∈ lw_all) (h5 : ∀ w ∈ ws, w ∈ lw_all) : GoodIn lw_all (va_wsS own idx y ws) := lw_goodIn fun w hw => by
  rcases List.mem_append.mp hw with h | h
  · simp only [List.mem_cons, List.not_mem_nil, or_false] at h
    rcases h with rfl | rfl | rfl
    · exact h1
    · exact h2
    · exact h4
  · exact h5 w h
/-- what holds all along a method's walk -/
def zX (p : Program) (s : State) (m : MethodId) (args : Array Value) (meth : Method) (c : Code) (D : va_G) (tys : List (ClassId × FieldType)) (A : Nat → Prop) (own : String) (cc : ByteArray) (nL : Nat) : Prop :=
  p.tables.exec = Jvm.exec ∧ c.code = cc ∧ c.maxLocals = nL ∧ s.vm.findClass own = some m.cls ∧ (∀ w ∈ lw_all, w.before args s = true) ∧ va_K D vwCl tys s ∧ (∀ q : Nat, s.heap.size ≤ q → A q) ∧ meth.locks = false ∧ zEv A s s.heap
def zK (p : Program) (l : Launch) (e : Env) (R : Room) (s : State) (m : MethodId) (args : Array Value) (below : List Frame) (meth : Method) (c : Code) (D : va_G) (A : Nat → Prop) (nL : Nat) (Q : State → Prop) (cells slots pc : Nat) (L : List (Nat × Value)) (st : List Value) (B : List zB) : Prop :=
  ∀ (H : Heap) (locs : List Loc) (ls : Array Slot), va_P D vwCl (zW B) H → va_D A (zW B) → va_S A s.heap H locs → lv_has ls nL L → W p l e R s m args below meth c H locs cells slots Q (F0 m pc ls st)
/-- a contract: from the blocks B it returns; what it answers, and the blocks behind it -/
def zPre (D : va_G) (tys : List (ClassId × FieldType)) (sz : Nat) (B : List zB) (U : State) : Prop := U.heap.size = sz ∧ va_P D vwCl (zW B) U.heap ∧ va_K D vwCl tys U ∧ va_D (fun _ => True) (zW B) ∧ zEv (va_A (zW B) sz) U U.heap
def zQ (post : Option Value → List zB → Prop) (D : va_G) (tys : List (ClassId × FieldType)) (A : Nat → Prop) : Array Value → State → Outcome → State → Prop := fun _ st oc t =>
  (∃ (r : Option Value) (u : List zB), oc = .returned r ∧ post r u ∧ va_P D vwCl (zW u) t.heap ∧ va_K D vwCl tys t ∧ va_D A (zW u)) ∧ va_F A st t
def zM (l : Launch) (D : va_G) (tys : List (ClassId × FieldType)) (y : MethodName) (cc : ByteArray) (n : Nat) (ret : Option FieldType) (rm : Room) (as : List Value) (B : List zB) (mc ms : Nat) (post : Option Value → List zB → Prop) : Prop :=
  ∀ sz : Nat, Met l y (wz y cc n ret) rm (va_Pc as (zPre D tys sz B)) (zQ post D tys (va_A (zW B) sz)) mc ms (va_A (zW B) sz)
theorem zPre_blind {D : va_G} {tys : List (ClassId × FieldType)} {sz : Nat} {B : List zB} {as : List Value} : FrameBlind (va_Pc as (zPre D tys sz B)) := fun a U g mk q => by
  obtain ⟨q0, q1, qP, qK, qD, qE⟩ := q
  exact ⟨q0, q1, qP, va_K.moved (u := U) (U := U.calling g mk a) (Vm.Alike.refl U.vm) qK, qD, zEv_calling qE⟩
section ZROWS
variable {p : Program} {l : Launch} {e : Env} {R : Room} {s : State} {m : MethodId} {args : Array Value} {below : List Frame} {meth : Method} {c : Code} {D : va_G} {tys : List (ClassId × FieldType)} {A : Nat → Prop} {own : String} {cc : ByteArray} {nL : Nat} {Q : State → Prop} {cells slots pc : Nat} {L L' : List (Nat × Value)} {st rest : List Value} {B B' : List zB}
theorem z_of {y : MethodName} {rm : Room} {as : List Value} {mc ms : Nat} {post : Option Value → List zB → Prop} {maxL : Nat} {ret : Option FieldType} (hy : plainName y.cls = true) (hlen : (lg_sl as).length ≤ maxL) (hL : lv_args 0 as = L)
    (body : ∀ (p : Program) (e : Env) (s : State) (m : MethodId) (args : Array Value) (below : List Frame) (meth : Method) (c : Code) (A : Nat → Prop), zX p s m args meth c D tys A y.cls cc maxL → meth.sig.returnType = ret → (y.name = "<init>" → meth.name = "<init>") → zK p l e rm s m args below meth c D A maxL (MQ below (zQ post D tys A) args s mc ms A) 0 0 0 L [] B) : zM l D tys y cc maxL ret rm as B mc ms post := by
  intro sz
  refine Met.ofW (cc := cc) (maxL := maxL) (ret := ret) hy rfl ?_
  intro p e s m args below meth c s₁ BL hml hv
  obtain ⟨rfl, hsz, hP, hK, hD0, hE⟩ := hv
  subst hsz
  have hl := lv_entry as (n := maxL) hlen
  rw [hL] at hl
  rw [lg_entry_eq]
  have hts := atoms_spec (ws := wz y cc maxL ret) BL.pre
  exact body p e s m as.toArray below meth c (va_A (zW B) s.heap.size) ⟨BL.exec, BL.bytes, hml, findClass_of_methodNamed BL.named, fun w hw => hts w (List.mem_cons_of_mem _ hw), hK, fun q h => Or.inr h, BL.notSynchronized, hE⟩ BL.returns (fun h => (name_of_methodNamed BL.named BL.method).1.trans h) s.heap [] _ hP hD0.self va_S.rf hl
theorem z_sub (ks : List Nat) (hl : lv_pick L ks = L') (k : zK p l e R s m args below meth c D A nL Q cells slots pc L' st B) : zK p l e R s m args below meth c D A nL Q cells slots pc L st B := fun H locs ls hP hD hS hh => k H locs ls hP hD hS (lv_sub hh ks hl)
theorem z_widen {k n : Nat} (h1 : cells ≤ k) (h2 : slots ≤ n) (kk : zK p l e R s m args below meth c D A nL Q k n pc L st B) : zK p l e R s m args below meth c D A nL Q cells slots pc L st B := fun H locs ls hP hD hS hh => W.widen h1 h2 (kk H locs ls hP hD hS hh)
theorem z_top {x y : Int32} (h : x = y) (k : zK p l e R s m args below meth c D A nL Q cells slots pc L (.int y :: st) B) : zK p l e R s m args below meth c D A nL Q cells slots pc L (.int x :: st) B := h ▸ k
theorem z_eq (hB : B = B') (k : zK p l e R s m args below meth c D A nL Q cells slots pc L st B') : zK p l e R s m args below meth c D A nL Q cells slots pc L st B := hB ▸ k

theorem z_iconst (C : zX p s m args meth c D tys A own cc nL) {n : Int} {v : Int32} (hv : Int32.ofInt n = v) (hdg : decode cc pc = .ok (.iconst n, 1)) (k : zK p l e R s m args below meth c D A nL Q cells slots (pc + 1) L (.int v :: st) B) : zK p l e R s m args below meth c D A nL Q cells slots pc L (st) B := fun H locs ls hP hD hS hl => lv_iconst C.1 C.2.1 hdg hv (k H locs ls hP hD hS hl)
theorem z_bipush (C : zX p s m args meth c D tys A own cc nL) {n : Int} {v : Int32} (hv : (Int8.ofInt n).toInt32 = v) (hdg : decode cc pc = .ok (.bipush n, 2)) (k : zK p l e R s m args below meth c D A nL Q cells slots (pc + 2) L (.int v :: st) B) : zK p l e R s m args below meth c D A nL Q cells slots pc L (st) B := fun H locs ls hP hD hS hl => lv_bipush C.1 C.2.1 hdg hv (k H locs ls hP hD hS hl)
theorem z_lconst (C : zX p s m args meth c D tys A own cc nL) {n : Fin 2} {v : Int64} (hv : Int64.ofNat (n : Nat) = v) (hdg : decode cc pc = .ok (.lconst n, 1)) (k : zK p l e R s m args below meth c D A nL Q cells slots (pc + 1) L (.long v :: st) B) : zK p l e R s m args below meth c D A nL Q cells slots pc L (st) B := fun H locs ls hP hD hS hl => lv_lconst C.1 C.2.1 hdg hv (k H locs ls hP hD hS hl)
theorem z_iload_n (C : zX p s m args meth c D tys A own cc nL) {k : Fin 4} {i : Nat} {x : Int32} (hdg : decode cc pc = .ok (.iload_n k, 1)) (hi : (k : Nat) = i) (j : Nat) (hj : L[j]? = some (i, .int x)) (kk : zK p l e R s m args below meth c D A nL Q cells slots (pc + 1) L (.int x :: st) B) : zK p l e R s m args below meth c D A nL Q cells slots pc L st B := fun H locs ls hP hD hS hl => lv_iload_n C.1 C.2.1 hdg hi (lv_at hl j hj) (kk H locs ls hP hD hS hl)
theorem z_iload (C : zX p s m args meth c D tys A own cc nL) {i : Nat} {x : Int32} (hdg : decode cc pc = .ok (.iload i, 2)) (j : Nat) (hj : L[j]? = some (i, .int x)) (kk : zK p l e R s m args below meth c D A nL Q cells slots (pc + 2) L (.int x :: st) B) : zK p l e R s m args below meth c D A nL Q cells slots pc L st B := fun H locs ls hP hD hS hl => lv_iload C.1 C.2.1 hdg (lv_at hl j hj) (kk H locs ls hP hD hS hl)
theorem z_istore_n (C : zX p s m args meth c D tys A own cc nL) {k : Fin 4} {i : Nat} {x : Int32} (hdg : decode cc pc = .ok (.istore_n k, 1)) (hi : (k : Nat) = i) (hn : i < nL) (hL : (i, Value.int x) :: L.filter (fun q => !(q.1 == i) && !(q.1 + 1 == i && q.2.category == 2)) = L') (kk : zK p l e R s m args below meth c D A nL Q cells slots (pc + 1) L' st B) : zK p l e R s m args below meth c D A nL Q cells slots pc L (.int x :: st) B := fun H locs ls hP hD hS hl => lv_istore_n C.1 C.2.1 hdg hi hl hn hL (fun ls hl => kk H locs ls hP hD hS hl)
theorem z_istore (C : zX p s m args meth c D tys A own cc nL) {i : Nat} {x : Int32} (hdg : decode cc pc = .ok (.istore i, 2)) (hn : i < nL) (hL : (i, Value.int x) :: L.filter (fun q => !(q.1 == i) && !(q.1 + 1 == i && q.2.category == 2)) = L') (kk : zK p l e R s m args below meth c D A nL Q cells slots (pc + 2) L' st B) : zK p l e R s m args below meth c D A nL Q cells slots pc L (.int x :: st) B := fun H locs ls hP hD hS hl => lv_istore C.1 C.2.1 hdg hl hn hL (fun ls hl => kk H locs ls hP hD hS hl)
theorem z_lload_n (C : zX p s m args meth c D tys A own cc nL) {k : Fin 4} {i : Nat} {x : Int64} (hdg : decode cc pc = .ok (.lload_n k, 1)) (hi : (k : Nat) = i) (j : Nat) (hj : L[j]? = some (i, .long x)) (kk : zK p l e R s m args below meth c D A nL Q cells slots (pc + 1) L (.long x :: st) B) : zK p l e R s m args below meth c D A nL Q cells slots pc L st B := fun H locs ls hP hD hS hl => lv_lload_n C.1 C.2.1 hdg hi (lv_at hl j hj) (kk H locs ls hP hD hS hl)
theorem z_lload (C : zX p s m args meth c D tys A own cc nL) {i : Nat} {x : Int64} (hdg : decode cc pc = .ok (.lload i, 2)) (j : Nat) (hj : L[j]? = some (i, .long x)) (kk : zK p l e R s m args below meth c D A nL Q cells slots (pc + 2) L (.long x :: st) B) : zK p l e R s m args below meth c D A nL Q cells slots pc L st B := fun H locs ls hP hD hS hl => lv_lload C.1 C.2.1 hdg (lv_at hl j hj) (kk H locs ls hP hD hS hl)
theorem z_lstore_n (C : zX p s m args meth c D tys A own cc nL) {k : Fin 4} {i : Nat} {x : Int64} (hdg : decode cc pc = .ok (.lstore_n k, 1)) (hi : (k : Nat) = i) (hn : i + 1 < nL) (hL : (i, Value.long x) :: L.filter (fun q => !(q.1 == i) && (!(q.1 == i + 1) && !(q.1 + 1 == i && q.2.category == 2))) = L') (kk : zK p l e R s m args below meth c D A nL Q cells slots (pc + 1) L' st B) : zK p l e R s m args below meth c D A nL Q cells slots pc L (.long x :: st) B := fun H locs ls hP hD hS hl => lv_lstore_n C.1 C.2.1 hdg hi hl hn hL (fun ls hl => kk H locs ls hP hD hS hl)
theorem z_lstore (C : zX p s m args meth c D tys A own cc nL) {i : Nat} {x : Int64} (hdg : decode cc pc = .ok (.lstore i, 2)) (hn : i + 1 < nL) (hL : (i, Value.long x) :: L.filter (fun q => !(q.1 == i) && (!(q.1 == i + 1) && !(q.1 + 1 == i && q.2.category == 2))) = L') (kk : zK p l e R s m args below meth c D A nL Q cells slots (pc + 2) L' st B) : zK p l e R s m args below meth c D A nL Q cells slots pc L (.long x :: st) B := fun H locs ls hP hD hS hl => lv_lstore C.1 C.2.1 hdg hl hn hL (fun ls hl => kk H locs ls hP hD hS hl)
theorem z_aload_n (C : zX p s m args meth c D tys A own cc nL) {k : Fin 4} {i : Nat} {x : Nat} (hdg : decode cc pc = .ok (.aload_n k, 1)) (hi : (k : Nat) = i) (j : Nat) (hj : L[j]? = some (i, .ref x)) (kk : zK p l e R s m args below meth c D A nL Q cells slots (pc + 1) L (.ref x :: st) B) : zK p l e R s m args below meth c D A nL Q cells slots pc L st B := fun H locs ls hP hD hS hl => lv_aload_n C.1 C.2.1 hdg hi (lv_at hl j hj) (kk H locs ls hP hD hS hl)
theorem z_aload (C : zX p s m args meth c D tys A own cc nL) {i : Nat} {x : Nat} (hdg : decode cc pc = .ok (.aload i, 2)) (j : Nat) (hj : L[j]? = some (i, .ref x)) (kk : zK p l e R s m args below meth c D A nL Q cells slots (pc + 2) L (.ref x :: st) B) : zK p l e R s m args below meth c D A nL Q cells slots pc L st B := fun H locs ls hP hD hS hl => lv_aload C.1 C.2.1 hdg (lv_at hl j hj) (kk H locs ls hP hD hS hl)
theorem z_astore_n (C : zX p s m args meth c D tys A own cc nL) {k : Fin 4} {i : Nat} {x : Nat} (hdg : decode cc pc = .ok (.astore_n k, 1)) (hi : (k : Nat) = i) (hn : i < nL) (hL : (i, Value.ref x) :: L.filter (fun q => !(q.1 == i) && !(q.1 + 1 == i && q.2.category == 2)) = L') (kk : zK p l e R s m args below meth c D A nL Q cells slots (pc + 1) L' st B) : zK p l e R s m args below meth c D A nL Q cells slots pc L (.ref x :: st) B := fun H locs ls hP hD hS hl => lv_astore_n C.1 C.2.1 hdg hi hl hn hL (fun ls hl => kk H locs ls hP hD hS hl)
theorem z_astore (C : zX p s m args meth c D tys A own cc nL) {i : Nat} {x : Nat} (hdg : decode cc pc = .ok (.astore i, 2)) (hn : i < nL) (hL : (i, Value.ref x) :: L.filter (fun q => !(q.1 == i) && !(q.1 + 1 == i && q.2.category == 2)) = L') (kk : zK p l e R s m args below meth c D A nL Q cells slots (pc + 2) L' st B) : zK p l e R s m args below meth c D A nL Q cells slots pc L (.ref x :: st) B := fun H locs ls hP hD hS hl => lv_astore C.1 C.2.1 hdg hl hn hL (fun ls hl => kk H locs ls hP hD hS hl)
theorem z_dload_n (C : zX p s m args meth c D tys A own cc nL) {k : Fin 4} {i : Nat} {x : UInt64} (hdg : decode cc pc = .ok (.dload_n k, 1)) (hi : (k : Nat) = i) (j : Nat) (hj : L[j]? = some (i, .double x)) (kk : zK p l e R s m args below meth c D A nL Q cells slots (pc + 1) L (.double x :: st) B) : zK p l e R s m args below meth c D A nL Q cells slots pc L st B := fun H locs ls hP hD hS hl => lv_dload_n C.1 C.2.1 hdg hi (lv_at hl j hj) (kk H locs ls hP hD hS hl)
theorem z_dload (C : zX p s m args meth c D tys A own cc nL) {i : Nat} {x : UInt64} (hdg : decode cc pc = .ok (.dload i, 2)) (j : Nat) (hj : L[j]? = some (i, .double x)) (kk : zK p l e R s m args below meth c D A nL Q cells slots (pc + 2) L (.double x :: st) B) : zK p l e R s m args below meth c D A nL Q cells slots pc L st B := fun H locs ls hP hD hS hl => lv_dload C.1 C.2.1 hdg (lv_at hl j hj) (kk H locs ls hP hD hS hl)
theorem z_dstore_n (C : zX p s m args meth c D tys A own cc nL) {k : Fin 4} {i : Nat} {x : UInt64} (hdg : decode cc pc = .ok (.dstore_n k, 1)) (hi : (k : Nat) = i) (hn : i + 1 < nL) (hL : (i, Value.double x) :: L.filter (fun q => !(q.1 == i) && (!(q.1 == i + 1) && !(q.1 + 1 == i && q.2.category == 2))) = L') (kk : zK p l e R s m args below meth c D A nL Q cells slots (pc + 1) L' st B) : zK p l e R s m args below meth c D A nL Q cells slots pc L (.double x :: st) B := fun H locs ls hP hD hS hl => lv_dstore_n C.1 C.2.1 hdg hi hl hn hL (fun ls hl => kk H locs ls hP hD hS hl)
theorem z_dstore (C : zX p s m args meth c D tys A own cc nL) {i : Nat} {x : UInt64} (hdg : decode cc pc = .ok (.dstore i, 2)) (hn : i + 1 < nL) (hL : (i, Value.double x) :: L.filter (fun q => !(q.1 == i) && (!(q.1 == i + 1) && !(q.1 + 1 == i && q.2.category == 2))) = L') (kk : zK p l e R s m args below meth c D A nL Q cells slots (pc + 2) L' st B) : zK p l e R s m args below meth c D A nL Q cells slots pc L (.double x :: st) B := fun H locs ls hP hD hS hl => lv_dstore C.1 C.2.1 hdg hl hn hL (fun ls hl => kk H locs ls hP hD hS hl)
theorem z_iinc (C : zX p s m args meth c D tys A own cc nL) {i : Nat} {n : Int} {x v : Int32} (hdg : decode cc pc = .ok (.iinc i n, 3)) (j : Nat) (hj : L[j]? = some (i, .int x)) (hv : x + Int32.ofInt n = v) (hn : i < nL) (hL : (i, Value.int v) :: L.filter (fun q => !(q.1 == i) && !(q.1 + 1 == i && q.2.category == 2)) = L') (kk : zK p l e R s m args below meth c D A nL Q cells slots (pc + 3) L' st B) : zK p l e R s m args below meth c D A nL Q cells slots pc L st B := fun H locs ls hP hD hS hl => lv_iinc (k := j) C.1 C.2.1 hdg hl hj hv hn hL (fun ls hl => kk H locs ls hP hD hS hl)
theorem z_inc1 (a : Nat) : nI a + Int32.ofInt 1 = nI (a + 1) := (nI_1 a)
theorem z_dec1 {a : Nat} (h : 1 ≤ a) : nI a + Int32.ofInt (-1) = nI (a - 1) := sb_m1 h
theorem z_iadd (C : zX p s m args meth c D tys A own cc nL) {x y : Int32} (hdg : decode cc pc = .ok (.iadd, 1)) (k : zK p l e R s m args below meth c D A nL Q cells slots (pc + 1) L (.int (x + y) :: st) B) : zK p l e R s m args below meth c D A nL Q cells slots pc L (.int y :: .int x :: st) B := fun H locs ls hP hD hS hl => lv_iadd C.1 C.2.1 hdg (k H locs ls hP hD hS hl)
theorem z_isub (C : zX p s m args meth c D tys A own cc nL) {x y : Int32} (hdg : decode cc pc = .ok (.isub, 1)) (k : zK p l e R s m args below meth c D A nL Q cells slots (pc + 1) L (.int (x - y) :: st) B) : zK p l e R s m args below meth c D A nL Q cells slots pc L (.int y :: .int x :: st) B := fun H locs ls hP hD hS hl => lv_isub C.1 C.2.1 hdg (k H locs ls hP hD hS hl)
theorem z_imul (C : zX p s m args meth c D tys A own cc nL) {x y : Int32} (hdg : decode cc pc = .ok (.imul, 1)) (k : zK p l e R s m args below meth c D A nL Q cells slots (pc + 1) L (.int (x * y) :: st) B) : zK p l e R s m args below meth c D A nL Q cells slots pc L (.int y :: .int x :: st) B := fun H locs ls hP hD hS hl => lv_imul C.1 C.2.1 hdg (k H locs ls hP hD hS hl)
theorem z_iand (C : zX p s m args meth c D tys A own cc nL) {x y : Int32} (hdg : decode cc pc = .ok (.iand, 1)) (k : zK p l e R s m args below meth c D A nL Q cells slots (pc + 1) L (.int (x &&& y) :: st) B) : zK p l e R s m args below meth c D A nL Q cells slots pc L (.int y :: .int x :: st) B := fun H locs ls hP hD hS hl => lv_iand C.1 C.2.1 hdg (k H locs ls hP hD hS hl)
theorem z_ladd (C : zX p s m args meth c D tys A own cc nL) {x y : Int64} (hdg : decode cc pc = .ok (.ladd, 1)) (k : zK p l e R s m args below meth c D A nL Q cells slots (pc + 1) L (.long (x + y) :: st) B) : zK p l e R s m args below meth c D A nL Q cells slots pc L (.long y :: .long x :: st) B := fun H locs ls hP hD hS hl => lv_ladd C.1 C.2.1 hdg (k H locs ls hP hD hS hl)
theorem z_lmul (C : zX p s m args meth c D tys A own cc nL) {x y : Int64} (hdg : decode cc pc = .ok (.lmul, 1)) (k : zK p l e R s m args below meth c D A nL Q cells slots (pc + 1) L (.long (x * y) :: st) B) : zK p l e R s m args below meth c D A nL Q cells slots pc L (.long y :: .long x :: st) B := fun H locs ls hP hD hS hl => lv_lmul C.1 C.2.1 hdg (k H locs ls hP hD hS hl)
theorem z_idiv (C : zX p s m args meth c D tys A own cc nL) {x y : Int32} (hne : ¬ y = 0) (hdg : decode cc pc = .ok (.idiv, 1)) (k : zK p l e R s m args below meth c D A nL Q cells slots (pc + 1) L (.int (x / y) :: st) B) : zK p l e R s m args below meth c D A nL Q cells slots pc L (.int y :: .int x :: st) B := fun H locs ls hP hD hS hl => lv_idiv C.1 C.2.1 hdg hne (k H locs ls hP hD hS hl)
theorem z_i2l (C : zX p s m args meth c D tys A own cc nL) {x : Int32} {v : Int64} (hv : x.toInt64 = v) (hdg : decode cc pc = .ok (.i2l, 1)) (k : zK p l e R s m args below meth c D A nL Q cells slots (pc + 1) L (.long v :: st) B) : zK p l e R s m args below meth c D A nL Q cells slots pc L (.int x :: st) B := fun H locs ls hP hD hS hl => lv_i2l C.1 C.2.1 hdg hv (k H locs ls hP hD hS hl)
theorem z_i2d (C : zX p s m args meth c D tys A own cc nL) {x : Int32} (hdg : decode cc pc = .ok (.i2d, 1)) (k : zK p l e R s m args below meth c D A nL Q cells slots (pc + 1) L (.double (FP.i2d x) :: st) B) : zK p l e R s m args below meth c D A nL Q cells slots pc L (.int x :: st) B := fun H locs ls hP hD hS hl => lv_i2d C.1 C.2.1 hdg (k H locs ls hP hD hS hl)
theorem z_ddiv (C : zX p s m args meth c D tys A own cc nL) {x y : UInt64} (hne : vf_n64 (FP.ddiv x y)) (hdg : decode cc pc = .ok (.ddiv, 1)) (k : zK p l e R s m args below meth c D A nL Q cells slots (pc + 1) L (.double (FP.ddiv x y) :: st) B) : zK p l e R s m args below meth c D A nL Q cells slots pc L (.double y :: .double x :: st) B := fun H locs ls hP hD hS hl => lv_ddiv C.1 C.2.1 hdg hne (k H locs ls hP hD hS hl)
theorem z_dcmp (C : zX p s m args meth c D tys A own cc nL) {x y : UInt64} {op : CmpOp} (hdg : decode cc pc = .ok (.dcmp op, 1)) (k : zK p l e R s m args below meth c D A nL Q cells slots (pc + 1) L (.int (Op.cmpValue (FP.dcmp x y) op) :: st) B) : zK p l e R s m args below meth c D A nL Q cells slots pc L (.double y :: .double x :: st) B := fun H locs ls hP hD hS hl => lv_dcmp C.1 C.2.1 hdg (k H locs ls hP hD hS hl)
theorem z_dconst0 (C : zX p s m args meth c D tys A own cc nL)  (hdg : decode cc pc = .ok (.dconst 0, 1)) (k : zK p l e R s m args below meth c D A nL Q cells slots (pc + 1) L (.double FP.dconst0 :: st) B) : zK p l e R s m args below meth c D A nL Q cells slots pc L (st) B := fun H locs ls hP hD hS hl => lv_dconst0 C.1 C.2.1 hdg (k H locs ls hP hD hS hl)
theorem z_lcmp (C : zX p s m args meth c D tys A own cc nL) {x y : Int64} (hdg : decode cc pc = .ok (.lcmp, 1)) (k : zK p l e R s m args below meth c D A nL Q cells slots (pc + 1) L (.int (lg_cmp x y) :: st) B) : zK p l e R s m args below meth c D A nL Q cells slots pc L (.long y :: .long x :: st) B := fun H locs ls hP hD hS hl => W.lcmp C.1 C.2.1 hdg (k H locs ls hP hD hS hl)
theorem z_dup (C : zX p s m args meth c D tys A own cc nL) {va : Value} (hva : va.category = 1) (hdg : decode cc pc = .ok (.dup, 1)) (k : zK p l e R s m args below meth c D A nL Q cells slots (pc + 1) L (va :: va :: st) B) : zK p l e R s m args below meth c D A nL Q cells slots pc L (va :: st) B := fun H locs ls hP hD hS hl => lv_dup C.1 C.2.1 hdg hva (k H locs ls hP hD hS hl)
theorem z_dup2 (C : zX p s m args meth c D tys A own cc nL) {va vb : Value} (hva : va.category = 1) (hvb : vb.category = 1) (hdg : decode cc pc = .ok (.dup2, 1)) (k : zK p l e R s m args below meth c D A nL Q cells slots (pc + 1) L (va :: vb :: va :: vb :: st) B) : zK p l e R s m args below meth c D A nL Q cells slots pc L (va :: vb :: st) B := fun H locs ls hP hD hS hl => lv_dup2_11 C.1 C.2.1 hdg hva hvb (k H locs ls hP hD hS hl)
theorem z_ldc2 (C : zX p s m args meth c D tys A own cc nL) {index : Nat} {v : Int64} (hw : Jvm.Cond.constantLong own index v ∈ lw_all) (hdg : decode cc pc = .ok (.ldc2_w index, 3)) (k : zK p l e R s m args below meth c D A nL Q cells slots (pc + 3) L (.long v :: st) B) : zK p l e R s m args below meth c D A nL Q cells slots pc L st B := fun H locs ls hP hD hS hl => lv_ldc2 C.1 C.2.1 C.2.2.2.1 (C.2.2.2.2.1 _ hw) hdg (k H locs ls hP hD hS hl)
theorem z_goto (C : zX p s m args meth c D tys A own cc nL) {off : Int} {tgt : Nat} (hdg : decode cc pc = .ok (.goto off, 3)) (ht : (pc : Int) + off = (tgt : Int)) (k : zK p l e R s m args below meth c D A nL Q cells slots tgt L st B) : zK p l e R s m args below meth c D A nL Q cells slots pc L st B := fun H locs ls hP hD hS hl => lv_goto C.1 C.2.1 hdg ht (k H locs ls hP hD hS hl)
theorem z_if_eq (C : zX p s m args meth c D tys A own cc nL) {x : Int32} {off : Int} {tgt : Nat} (hdg : decode cc pc = .ok (.ifCond .eq off, 3)) (ht : (pc : Int) + off = (tgt : Int)) (kt : x = 0 → zK p l e R s m args below meth c D A nL Q cells slots tgt L st B) (kf : ¬ x = 0 → zK p l e R s m args below meth c D A nL Q cells slots (pc + 3) L st B) : zK p l e R s m args below meth c D A nL Q cells slots pc L (.int x :: st) B := fun H locs ls hP hD hS hl => lv_if_eq C.1 C.2.1 hdg ht (fun h => kt h H locs ls hP hD hS hl) (fun h => kf h H locs ls hP hD hS hl)
theorem z_icmp_eq (C : zX p s m args meth c D tys A own cc nL) {x y : Int32} {off : Int} {tgt : Nat} (hdg : decode cc pc = .ok (.if_icmp .eq off, 3)) (ht : (pc : Int) + off = (tgt : Int)) (kt : x = y → zK p l e R s m args below meth c D A nL Q cells slots tgt L st B) (kf : ¬ x = y → zK p l e R s m args below meth c D A nL Q cells slots (pc + 3) L st B) : zK p l e R s m args below meth c D A nL Q cells slots pc L (.int y :: .int x :: st) B := fun H locs ls hP hD hS hl => lv_icmp_eq C.1 C.2.1 hdg ht (fun h => kt h H locs ls hP hD hS hl) (fun h => kf h H locs ls hP hD hS hl)
theorem z_icmp_eqN (C : zX p s m args meth c D tys A own cc nL) {a b : Nat} {off : Int} {tgt : Nat} (hdg : decode cc pc = .ok (.if_icmp .eq off, 3)) (ht : (pc : Int) + off = (tgt : Int)) (ha : a < 2 ^ 31) (hb : b < 2 ^ 31) (kt : a = b → zK p l e R s m args below meth c D A nL Q cells slots tgt L st B) (kf : a ≠ b → zK p l e R s m args below meth c D A nL Q cells slots (pc + 3) L st B) : zK p l e R s m args below meth c D A nL Q cells slots pc L (.int (nI b) :: .int (nI a) :: st) B := z_icmp_eq C hdg ht (fun h => kt ((nI_eq ha hb).mp h)) (fun h => kf (fun q => h ((nI_eq ha hb).mpr q)))
theorem z_if_ne (C : zX p s m args meth c D tys A own cc nL) {x : Int32} {off : Int} {tgt : Nat} (hdg : decode cc pc = .ok (.ifCond .ne off, 3)) (ht : (pc : Int) + off = (tgt : Int)) (kt : ¬ x = 0 → zK p l e R s m args below meth c D A nL Q cells slots tgt L st B) (kf : x = 0 → zK p l e R s m args below meth c D A nL Q cells slots (pc + 3) L st B) : zK p l e R s m args below meth c D A nL Q cells slots pc L (.int x :: st) B := fun H locs ls hP hD hS hl => lv_if_ne C.1 C.2.1 hdg ht (fun h => kt h H locs ls hP hD hS hl) (fun h => kf h H locs ls hP hD hS hl)
theorem z_icmp_ne (C : zX p s m args meth c D tys A own cc nL) {x y : Int32} {off : Int} {tgt : Nat} (hdg : decode cc pc = .ok (.if_icmp .ne off, 3)) (ht : (pc : Int) + off = (tgt : Int)) (kt : ¬ x = y → zK p l e R s m args below meth c D A nL Q cells slots tgt L st B) (kf : x = y → zK p l e R s m args below meth c D A nL Q cells slots (pc + 3) L st B) : zK p l e R s m args below meth c D A nL Q cells slots pc L (.int y :: .int x :: st) B := fun H locs ls hP hD hS hl => lv_icmp_ne C.1 C.2.1 hdg ht (fun h => kt h H locs ls hP hD hS hl) (fun h => kf h H locs ls hP hD hS hl)
theorem z_icmp_neN (C : zX p s m args meth c D tys A own cc nL) {a b : Nat} {off : Int} {tgt : Nat} (hdg : decode cc pc = .ok (.if_icmp .ne off, 3)) (ht : (pc : Int) + off = (tgt : Int)) (ha : a < 2 ^ 31) (hb : b < 2 ^ 31) (kt : a ≠ b → zK p l e R s m args below meth c D A nL Q cells slots tgt L st B) (kf : a = b → zK p l e R s m args below meth c D A nL Q cells slots (pc + 3) L st B) : zK p l e R s m args below meth c D A nL Q cells slots pc L (.int (nI b) :: .int (nI a) :: st) B := z_icmp_ne C hdg ht (fun h => kt (fun q => h ((nI_eq ha hb).mpr q))) (fun h => kf ((nI_eq ha hb).mp h))
theorem z_if_lt (C : zX p s m args meth c D tys A own cc nL) {x : Int32} {off : Int} {tgt : Nat} (hdg : decode cc pc = .ok (.ifCond .lt off, 3)) (ht : (pc : Int) + off = (tgt : Int)) (kt : x < 0 → zK p l e R s m args below meth c D A nL Q cells slots tgt L st B) (kf : ¬ x < 0 → zK p l e R s m args below meth c D A nL Q cells slots (pc + 3) L st B) : zK p l e R s m args below meth c D A nL Q cells slots pc L (.int x :: st) B := fun H locs ls hP hD hS hl => lv_if_lt C.1 C.2.1 hdg ht (fun h => kt h H locs ls hP hD hS hl) (fun h => kf h H locs ls hP hD hS hl)
theorem z_icmp_lt (C : zX p s m args meth c D tys A own cc nL) {x y : Int32} {off : Int} {tgt : Nat} (hdg : decode cc pc = .ok (.if_icmp .lt off, 3)) (ht : (pc : Int) + off = (tgt : Int)) (kt : x < y → zK p l e R s m args below meth c D A nL Q cells slots tgt L st B) (kf : ¬ x < y → zK p l e R s m args below meth c D A nL Q cells slots (pc + 3) L st B) : zK p l e R s m args below meth c D A nL Q cells slots pc L (.int y :: .int x :: st) B := fun H locs ls hP hD hS hl => lv_icmp_lt C.1 C.2.1 hdg ht (fun h => kt h H locs ls hP hD hS hl) (fun h => kf h H locs ls hP hD hS hl)
theorem z_icmp_ltN (C : zX p s m args meth c D tys A own cc nL) {a b : Nat} {off : Int} {tgt : Nat} (hdg : decode cc pc = .ok (.if_icmp .lt off, 3)) (ht : (pc : Int) + off = (tgt : Int)) (ha : a < 2 ^ 31) (hb : b < 2 ^ 31) (kt : a < b → zK p l e R s m args below meth c D A nL Q cells slots tgt L st B) (kf : b ≤ a → zK p l e R s m args below meth c D A nL Q cells slots (pc + 3) L st B) : zK p l e R s m args below meth c D A nL Q cells slots pc L (.int (nI b) :: .int (nI a) :: st) B := z_icmp_lt C hdg ht (fun h => kt ((nI_ltI ha hb).mp h)) (fun h => kf (Nat.le_of_not_lt fun q => h ((nI_ltI ha hb).mpr q)))
theorem z_if_ge (C : zX p s m args meth c D tys A own cc nL) {x : Int32} {off : Int} {tgt : Nat} (hdg : decode cc pc = .ok (.ifCond .ge off, 3)) (ht : (pc : Int) + off = (tgt : Int)) (kt : 0 ≤ x → zK p l e R s m args below meth c D A nL Q cells slots tgt L st B) (kf : ¬ 0 ≤ x → zK p l e R s m args below meth c D A nL Q cells slots (pc + 3) L st B) : zK p l e R s m args below meth c D A nL Q cells slots pc L (.int x :: st) B := fun H locs ls hP hD hS hl => lv_if_ge C.1 C.2.1 hdg ht (fun h => kt h H locs ls hP hD hS hl) (fun h => kf h H locs ls hP hD hS hl)
theorem z_icmp_ge (C : zX p s m args meth c D tys A own cc nL) {x y : Int32} {off : Int} {tgt : Nat} (hdg : decode cc pc = .ok (.if_icmp .ge off, 3)) (ht : (pc : Int) + off = (tgt : Int)) (kt : y ≤ x → zK p l e R s m args below meth c D A nL Q cells slots tgt L st B) (kf : ¬ y ≤ x → zK p l e R s m args below meth c D A nL Q cells slots (pc + 3) L st B) : zK p l e R s m args below meth c D A nL Q cells slots pc L (.int y :: .int x :: st) B := fun H locs ls hP hD hS hl => lv_icmp_ge C.1 C.2.1 hdg ht (fun h => kt h H locs ls hP hD hS hl) (fun h => kf h H locs ls hP hD hS hl)
theorem z_icmp_geN (C : zX p s m args meth c D tys A own cc nL) {a b : Nat} {off : Int} {tgt : Nat} (hdg : decode cc pc = .ok (.if_icmp .ge off, 3)) (ht : (pc : Int) + off = (tgt : Int)) (ha : a < 2 ^ 31) (hb : b < 2 ^ 31) (kt : b ≤ a → zK p l e R s m args below meth c D A nL Q cells slots tgt L st B) (kf : a < b → zK p l e R s m args below meth c D A nL Q cells slots (pc + 3) L st B) : zK p l e R s m args below meth c D A nL Q cells slots pc L (.int (nI b) :: .int (nI a) :: st) B := z_icmp_ge C hdg ht (fun h => kt ((nI_leI hb ha).mp h)) (fun h => kf (Nat.lt_of_not_le fun q => h ((nI_leI hb ha).mpr q)))
theorem z_if_gt (C : zX p s m args meth c D tys A own cc nL) {x : Int32} {off : Int} {tgt : Nat} (hdg : decode cc pc = .ok (.ifCond .gt off, 3)) (ht : (pc : Int) + off = (tgt : Int)) (kt : 0 < x → zK p l e R s m args below meth c D A nL Q cells slots tgt L st B) (kf : ¬ 0 < x → zK p l e R s m args below meth c D A nL Q cells slots (pc + 3) L st B) : zK p l e R s m args below meth c D A nL Q cells slots pc L (.int x :: st) B := fun H locs ls hP hD hS hl => lv_if_gt C.1 C.2.1 hdg ht (fun h => kt h H locs ls hP hD hS hl) (fun h => kf h H locs ls hP hD hS hl)
theorem z_icmp_gt (C : zX p s m args meth c D tys A own cc nL) {x y : Int32} {off : Int} {tgt : Nat} (hdg : decode cc pc = .ok (.if_icmp .gt off, 3)) (ht : (pc : Int) + off = (tgt : Int)) (kt : y < x → zK p l e R s m args below meth c D A nL Q cells slots tgt L st B) (kf : ¬ y < x → zK p l e R s m args below meth c D A nL Q cells slots (pc + 3) L st B) : zK p l e R s m args below meth c D A nL Q cells slots pc L (.int y :: .int x :: st) B := fun H locs ls hP hD hS hl => lv_icmp_gt C.1 C.2.1 hdg ht (fun h => kt h H locs ls hP hD hS hl) (fun h => kf h H locs ls hP hD hS hl)
theorem z_icmp_gtN (C : zX p s m args meth c D tys A own cc nL) {a b : Nat} {off : Int} {tgt : Nat} (hdg : decode cc pc = .ok (.if_icmp .gt off, 3)) (ht : (pc : Int) + off = (tgt : Int)) (ha : a < 2 ^ 31) (hb : b < 2 ^ 31) (kt : b < a → zK p l e R s m args below meth c D A nL Q cells slots tgt L st B) (kf : a ≤ b → zK p l e R s m args below meth c D A nL Q cells slots (pc + 3) L st B) : zK p l e R s m args below meth c D A nL Q cells slots pc L (.int (nI b) :: .int (nI a) :: st) B := z_icmp_gt C hdg ht (fun h => kt ((nI_ltI hb ha).mp h)) (fun h => kf (Nat.le_of_not_lt fun q => h ((nI_ltI hb ha).mpr q)))
theorem z_if_le (C : zX p s m args meth c D tys A own cc nL) {x : Int32} {off : Int} {tgt : Nat} (hdg : decode cc pc = .ok (.ifCond .le off, 3)) (ht : (pc : Int) + off = (tgt : Int)) (kt : x ≤ 0 → zK p l e R s m args below meth c D A nL Q cells slots tgt L st B) (kf : ¬ x ≤ 0 → zK p l e R s m args below meth c D A nL Q cells slots (pc + 3) L st B) : zK p l e R s m args below meth c D A nL Q cells slots pc L (.int x :: st) B := fun H locs ls hP hD hS hl => lv_if_le C.1 C.2.1 hdg ht (fun h => kt h H locs ls hP hD hS hl) (fun h => kf h H locs ls hP hD hS hl)
theorem z_icmp_le (C : zX p s m args meth c D tys A own cc nL) {x y : Int32} {off : Int} {tgt : Nat} (hdg : decode cc pc = .ok (.if_icmp .le off, 3)) (ht : (pc : Int) + off = (tgt : Int)) (kt : x ≤ y → zK p l e R s m args below meth c D A nL Q cells slots tgt L st B) (kf : ¬ x ≤ y → zK p l e R s m args below meth c D A nL Q cells slots (pc + 3) L st B) : zK p l e R s m args below meth c D A nL Q cells slots pc L (.int y :: .int x :: st) B := fun H locs ls hP hD hS hl => lv_icmp_le C.1 C.2.1 hdg ht (fun h => kt h H locs ls hP hD hS hl) (fun h => kf h H locs ls hP hD hS hl)
theorem z_icmp_leN (C : zX p s m args meth c D tys A own cc nL) {a b : Nat} {off : Int} {tgt : Nat} (hdg : decode cc pc = .ok (.if_icmp .le off, 3)) (ht : (pc : Int) + off = (tgt : Int)) (ha : a < 2 ^ 31) (hb : b < 2 ^ 31) (kt : a ≤ b → zK p l e R s m args below meth c D A nL Q cells slots tgt L st B) (kf : b < a → zK p l e R s m args below meth c D A nL Q cells slots (pc + 3) L st B) : zK p l e R s m args below meth c D A nL Q cells slots pc L (.int (nI b) :: .int (nI a) :: st) B := z_icmp_le C hdg ht (fun h => kt ((nI_leI ha hb).mp h)) (fun h => kf (Nat.lt_of_not_le fun q => h ((nI_leI ha hb).mpr q)))
def zb (b : Bool) : Int32 := if b = true then nI 1 else nI 0
theorem zb_0 {b : Bool} : zb b = 0 ↔ b = false := by cases b <;> decide
theorem z_b1 {x : Bool} (h : x = true) : some (Value.int (nI 1)) = some (Value.int (zb x)) := by subst h; rfl
theorem z_b0 {x : Bool} (h : x = false) : some (Value.int (nI 0)) = some (Value.int (zb x)) := by subst h; rfl
theorem nI_z {a : Nat} (h : a < 2 ^ 31) : nI a = 0 ↔ a = 0 := (nI_eq h (Nat.lt_of_sub_ne_zero (by decide)) : nI a = nI 0 ↔ a = 0)
theorem z_if_eqN (C : zX p s m args meth c D tys A own cc nL) {a : Nat} {off : Int} {tgt : Nat} (hdg : decode cc pc = .ok (.ifCond .eq off, 3)) (ht : (pc : Int) + off = (tgt : Int)) (ha : a < 2 ^ 31) (kt : a = 0 → zK p l e R s m args below meth c D A nL Q cells slots tgt L st B) (kf : 0 < a → zK p l e R s m args below meth c D A nL Q cells slots (pc + 3) L st B) : zK p l e R s m args below meth c D A nL Q cells slots pc L (.int (nI a) :: st) B := z_if_eq C hdg ht (fun h => kt ((nI_z ha).mp h)) (fun h => kf (Nat.pos_of_ne_zero fun q => h ((nI_z ha).mpr q)))
theorem z_if_neN (C : zX p s m args meth c D tys A own cc nL) {a : Nat} {off : Int} {tgt : Nat} (hdg : decode cc pc = .ok (.ifCond .ne off, 3)) (ht : (pc : Int) + off = (tgt : Int)) (ha : a < 2 ^ 31) (kt : 0 < a → zK p l e R s m args below meth c D A nL Q cells slots tgt L st B) (kf : a = 0 → zK p l e R s m args below meth c D A nL Q cells slots (pc + 3) L st B) : zK p l e R s m args below meth c D A nL Q cells slots pc L (.int (nI a) :: st) B := z_if_ne C hdg ht (fun h => kt (Nat.pos_of_ne_zero fun q => h ((nI_z ha).mpr q))) (fun h => kf ((nI_z ha).mp h))
theorem z_if_leN (C : zX p s m args meth c D tys A own cc nL) {a : Nat} {off : Int} {tgt : Nat} (hdg : decode cc pc = .ok (.ifCond .le off, 3)) (ht : (pc : Int) + off = (tgt : Int)) (ha : a < 2 ^ 31) (kt : a = 0 → zK p l e R s m args below meth c D A nL Q cells slots tgt L st B) (kf : 0 < a → zK p l e R s m args below meth c D A nL Q cells slots (pc + 3) L st B) : zK p l e R s m args below meth c D A nL Q cells slots pc L (.int (nI a) :: st) B := z_if_le C hdg ht (fun h => kt (Nat.eq_zero_of_le_zero ((nI_leI ha (b := 0) (by decide)).mp h))) (fun h => kf (Nat.pos_of_ne_zero fun q => h ((nI_leI ha (b := 0) (by decide)).mpr (Nat.le_of_eq q))))
theorem z_if_gtN (C : zX p s m args meth c D tys A own cc nL) {a : Nat} {off : Int} {tgt : Nat} (hdg : decode cc pc = .ok (.ifCond .gt off, 3)) (ht : (pc : Int) + off = (tgt : Int)) (ha : a < 2 ^ 31) (kt : 0 < a → zK p l e R s m args below meth c D A nL Q cells slots tgt L st B) (kf : a = 0 → zK p l e R s m args below meth c D A nL Q cells slots (pc + 3) L st B) : zK p l e R s m args below meth c D A nL Q cells slots pc L (.int (nI a) :: st) B := z_if_gt C hdg ht (fun h => kt ((nI_ltI (a := 0) (by decide) ha).mp h)) (fun h => kf (Nat.eq_zero_of_not_pos fun q => h ((nI_ltI (a := 0) (by decide) ha).mpr q)))
theorem z_if_ltN (C : zX p s m args meth c D tys A own cc nL) {a : Nat} {off : Int} (hdg : decode cc pc = .ok (.ifCond .lt off, 3)) {tgt : Nat} (ht : (pc : Int) + off = (tgt : Int)) (ha : a < 2 ^ 31) (kf : zK p l e R s m args below meth c D A nL Q cells slots (pc + 3) L st B) : zK p l e R s m args below meth c D A nL Q cells slots pc L (.int (nI a) :: st) B := z_if_lt C hdg ht (fun h => absurd h (nI_pos ha)) (fun _ => kf)
theorem z_if_geN (C : zX p s m args meth c D tys A own cc nL) {a : Nat} {off : Int} {tgt : Nat} (hdg : decode cc pc = .ok (.ifCond .ge off, 3)) (ht : (pc : Int) + off = (tgt : Int)) (ha : a < 2 ^ 31) (kt : zK p l e R s m args below meth c D A nL Q cells slots tgt L st B) : zK p l e R s m args below meth c D A nL Q cells slots pc L (.int (nI a) :: st) B := z_if_ge C hdg ht (fun _ => kt) (fun h => absurd (nI_pos' ha) h)
theorem z_if_eqB (C : zX p s m args meth c D tys A own cc nL) {b : Bool} {off : Int} {tgt : Nat} (hdg : decode cc pc = .ok (.ifCond .eq off, 3)) (ht : (pc : Int) + off = (tgt : Int)) (kt : b = false → zK p l e R s m args below meth c D A nL Q cells slots tgt L st B) (kf : b = true → zK p l e R s m args below meth c D A nL Q cells slots (pc + 3) L st B) : zK p l e R s m args below meth c D A nL Q cells slots pc L (.int (zb b) :: st) B := z_if_eq C hdg ht (fun h => kt (zb_0.mp h)) (fun h => kf (by cases b with | true => rfl | false => exact absurd (zb_0.mpr rfl) h))
theorem z_if_neB (C : zX p s m args meth c D tys A own cc nL) {b : Bool} {off : Int} {tgt : Nat} (hdg : decode cc pc = .ok (.ifCond .ne off, 3)) (ht : (pc : Int) + off = (tgt : Int)) (kt : b = true → zK p l e R s m args below meth c D A nL Q cells slots tgt L st B) (kf : b = false → zK p l e R s m args below meth c D A nL Q cells slots (pc + 3) L st B) : zK p l e R s m args below meth c D A nL Q cells slots pc L (.int (zb b) :: st) B := z_if_ne C hdg ht (fun h => kt (by cases b with | true => rfl | false => exact absurd (zb_0.mpr rfl) h)) (fun h => kf (zb_0.mp h))
theorem z_iaddN (C : zX p s m args meth c D tys A own cc nL) {a b : Nat} (hdg : decode cc pc = .ok (.iadd, 1)) (k : zK p l e R s m args below meth c D A nL Q cells slots (pc + 1) L (.int (nI (a + b)) :: st) B) : zK p l e R s m args below meth c D A nL Q cells slots pc L (.int (nI b) :: .int (nI a) :: st) B := z_iadd C hdg (z_top (nI_add a b) k)
theorem z_imulN (C : zX p s m args meth c D tys A own cc nL) {a b : Nat} (hdg : decode cc pc = .ok (.imul, 1)) (k : zK p l e R s m args below meth c D A nL Q cells slots (pc + 1) L (.int (nI (a * b)) :: st) B) : zK p l e R s m args below meth c D A nL Q cells slots pc L (.int (nI b) :: .int (nI a) :: st) B := z_imul C hdg (z_top (pk_mul a b) k)
theorem z_isubN (C : zX p s m args meth c D tys A own cc nL) {a b : Nat} (hdg : decode cc pc = .ok (.isub, 1)) (h : b ≤ a) (k : zK p l e R s m args below meth c D A nL Q cells slots (pc + 1) L (.int (nI (a - b)) :: st) B) : zK p l e R s m args below meth c D A nL Q cells slots pc L (.int (nI b) :: .int (nI a) :: st) B := z_isub C hdg (z_top (pk_sub h) k)
theorem z_idivN (C : zX p s m args meth c D tys A own cc nL) {a b : Nat} (hdg : decode cc pc = .ok (.idiv, 1)) (ha : a < 2 ^ 31) (h0 : 0 < b) (hb : b < 2 ^ 31) (k : zK p l e R s m args below meth c D A nL Q cells slots (pc + 1) L (.int (nI (a / b)) :: st) B) : zK p l e R s m args below meth c D A nL Q cells slots pc L (.int (nI b) :: .int (nI a) :: st) B := z_idiv C (nI_ne0 h0 hb) hdg (z_top (pk_div ha h0 hb) k)
theorem z_iald (C : zX p s m args meth c D tys A own cc nL) (b : Nat) {sh : List (Nat × zS)} {σ : zF} (hb : B[b]? = some (sh, σ)) (q t : Nat) {a n i : Nat} {cA : ClassId} (hq : sh[q]? = some (a, .inl (cA, n))) (ht : tys[t]? = some (cA, .int)) (hdg : decode cc pc = .ok (.iaload, 1)) (hi : i < n) (hn : n < 2 ^ 31) (k : zK p l e R s m args below meth c D A nL Q cells slots (pc + 1) L (.int (σ q i) :: st) B) : zK p l e R s m args below meth c D A nL Q cells slots pc L (.int (nI i) :: .ref a :: st) B := fun H locs ls hP hD hS hl => by
  obtain ⟨q0, h1, -⟩ := zW_at B b hb hq
  refine va_iald (D := D) C.1 C.2.1 C.2.2.2.2.2.1 hP q0 t h1 ht (vp_in_nI hi hn) hdg ?_
  rw [nI_clamp (Nat.lt_trans hi hn)]
  exact k H locs ls hP hD hS hl
theorem z_zald (C : zX p s m args meth c D tys A own cc nL) (b : Nat) {sh : List (Nat × zS)} {σ : zF} (hb : B[b]? = some (sh, σ)) (q t : Nat) {a n i : Nat} {cA : ClassId} (hq : sh[q]? = some (a, .inl (cA, n))) (ht : tys[t]? = some (cA, .boolean)) (hdg : decode cc pc = .ok (.baload, 1)) (hi : i < n) (hn : n < 2 ^ 31) (k : zK p l e R s m args below meth c D A nL Q cells slots (pc + 1) L (.int (σ q i) :: st) B) : zK p l e R s m args below meth c D A nL Q cells slots pc L (.int (nI i) :: .ref a :: st) B := fun H locs ls hP hD hS hl => by
  obtain ⟨q0, h1, -⟩ := zW_at B b hb hq
  refine va_zald (D := D) C.1 C.2.1 C.2.2.2.2.2.1 hP q0 t h1 ht (vp_in_nI hi hn) hdg ?_
  rw [nI_clamp (Nat.lt_trans hi hn)]
  exact k H locs ls hP hD hS hl
theorem z_iast (C : zX p s m args meth c D tys A own cc nL) (b : Nat) {sh : List (Nat × zS)} {σ : zF} (hb : B[b]? = some (sh, σ)) (q t : Nat) {a n i : Nat} {x : Int32} {cA : ClassId} (hq : sh[q]? = some (a, .inl (cA, n))) (ht : tys[t]? = some (cA, .int)) (hdg : decode cc pc = .ok (.iastore, 1)) (hi : i < n) (hn : n < 2 ^ 31) (hB : B.set b (sh, zU σ q i x) = B') (k : zK p l e R s m args below meth c D A nL Q cells slots (pc + 1) L st B') : zK p l e R s m args below meth c D A nL Q cells slots pc L (.int x :: .int (nI i) :: .ref a :: st) B := fun H locs ls hP hD hS hl => by
  obtain ⟨q0, h1, h2, -⟩ := zW_at B b hb hq
  have h3 := h2 (zU σ q i x) (.inl (cA, n, .inl (upd (σ q) i x))) (by rw [zU_eq]; rfl) (fun k' hk' => zU_ne hk')
  refine va_iast (D := D) C.1 C.2.1 C.2.2.2.2.2.1 hP hD hS q0 t h1 ht (vp_in_nI hi hn) hdg (fun H1 locs1 hP1 hD1 hS1 => ?_)
  rw [nI_clamp (Nat.lt_trans hi hn), h3, hB] at hP1 hD1
  exact k H1 locs1 ls hP1 hD1 hS1 hl
theorem z_zast (C : zX p s m args meth c D tys A own cc nL) (b : Nat) {sh : List (Nat × zS)} {σ : zF} (hb : B[b]? = some (sh, σ)) (q t : Nat) {a n i : Nat} {x : Int32} {cA : ClassId} (hq : sh[q]? = some (a, .inl (cA, n))) (ht : tys[t]? = some (cA, .boolean)) (hdg : decode cc pc = .ok (.bastore, 1)) (hi : i < n) (hn : n < 2 ^ 31) (hx : vp_nar .boolean x = x) (hB : B.set b (sh, zU σ q i x) = B') (k : zK p l e R s m args below meth c D A nL Q cells slots (pc + 1) L st B') : zK p l e R s m args below meth c D A nL Q cells slots pc L (.int x :: .int (nI i) :: .ref a :: st) B := fun H locs ls hP hD hS hl => by
  obtain ⟨q0, h1, h2, -⟩ := zW_at B b hb hq
  have h3 := h2 (zU σ q i x) (.inl (cA, n, .inl (upd (σ q) i x))) (by rw [zU_eq]; rfl) (fun k' hk' => zU_ne hk')
  refine va_zast (D := D) C.1 C.2.1 C.2.2.2.2.2.1 hP hD hS q0 t h1 ht (vp_in_nI hi hn) hdg (fun H1 locs1 hP1 hD1 hS1 => ?_)
  rw [nI_clamp (Nat.lt_trans hi hn), hx, h3, hB] at hP1 hD1
  exact k H1 locs1 ls hP1 hD1 hS1 hl
theorem z_lald (C : zX p s m args meth c D tys A own cc nL) (b : Nat) {sh : List (Nat × zS)} {σ : zF} (hb : B[b]? = some (sh, σ)) (q t : Nat) {a n i : Nat} {g : Nat → Int64} {cA : ClassId} (hq : sh[q]? = some (a, .inr (.inr (.inl (cA, n, .inr (.inl g)))))) (ht : tys[t]? = some (cA, .long)) (hdg : decode cc pc = .ok (.laload, 1)) (hi : i < n) (hn : n < 2 ^ 31) (k : zK p l e R s m args below meth c D A nL Q cells slots (pc + 1) L (.long (g i) :: st) B) : zK p l e R s m args below meth c D A nL Q cells slots pc L (.int (nI i) :: .ref a :: st) B := fun H locs ls hP hD hS hl => by
  obtain ⟨q0, h1, -⟩ := zW_at B b hb hq
  refine va_lald (D := D) C.1 C.2.1 C.2.2.2.2.2.1 hP q0 t h1 ht (vp_in_nI hi hn) hdg ?_
  rw [nI_clamp (Nat.lt_trans hi hn)]
  exact k H locs ls hP hD hS hl
theorem z_last (C : zX p s m args meth c D tys A own cc nL) (b : Nat) {sh : List (Nat × zS)} {σ : zF} (hb : B[b]? = some (sh, σ)) (q t : Nat) {a n i : Nat} {x : Int64} {g : Nat → Int64} {cA : ClassId} (hq : sh[q]? = some (a, .inr (.inr (.inl (cA, n, .inr (.inl g)))))) (ht : tys[t]? = some (cA, .long)) (hdg : decode cc pc = .ok (.lastore, 1)) (hi : i < n) (hn : n < 2 ^ 31) (hB : B.set b (sh.set q (a, .inr (.inr (.inl (cA, n, .inr (.inl (vp_updL g i x)))))), σ) = B') (k : zK p l e R s m args below meth c D A nL Q cells slots (pc + 1) L st B') : zK p l e R s m args below meth c D A nL Q cells slots pc L (.long x :: .int (nI i) :: .ref a :: st) B := fun H locs ls hP hD hS hl => by
  obtain ⟨q0, h1, -, h3⟩ := zW_at B b hb hq
  refine va_last (D := D) C.1 C.2.1 C.2.2.2.2.2.1 hP hD hS q0 t h1 ht (vp_in_nI hi hn) hdg (fun H1 locs1 hP1 hD1 hS1 => ?_)
  rw [nI_clamp (Nat.lt_trans hi hn), h3, hB] at hP1 hD1
  exact k H1 locs1 ls hP1 hD1 hS1 hl
theorem z_getI (C : zX p s m args meth c D tys A own cc nL) {Cn : String} {T : u_T} {N ci index : Nat} (hin : ∀ w ∈ u_ws Cn T N, w ∈ lw_all) (b : Nat) {sh : List (Nat × zS)} {σ : zF} (hb : B[b]? = some (sh, σ)) (q : Nat) {a : Nat} {fs : List (Option Nat)} (hq : sh[q]? = some (a, .inr (.inl (ci, fs)))) (hc : vwCl[ci]? = some (Cn, T, N)) (j : Nat) (hj : j < N) (hf : fs[j]? = some none) (hlink : Cond.fieldLink own index (T j).1 (T j).2.1 (T j).2.2.1 ∈ lw_all) (hdg : decode cc pc = .ok (.getfield index, 3)) (k : zK p l e R s m args below meth c D A nL Q cells slots (pc + 3) L (.int (σ q j) :: st) B) : zK p l e R s m args below meth c D A nL Q cells slots pc L (.ref a :: st) B := fun H locs ls hP hD hS hl => by
  obtain ⟨q0, h1, -⟩ := zW_at B b hb hq
  refine va_get (D := D) C.1 C.2.1 C.2.2.2.2.1 hin C.2.2.2.1 C.2.2.2.2.2.1 hP q0 (fs := zO 0 fs (σ q)) h1 hc j hj (C.2.2.2.2.1 _ hlink) (fun _ h9 => h9) (v := .int (σ q j)) (by rw [zO_get, hf]; simp [zV]) hdg ?_
  exact k H locs ls hP hD hS hl
theorem z_getIN (C : zX p s m args meth c D tys A own cc nL) {Cn : String} {T : u_T} {N ci index : Nat} {host : String} (hin : ∀ w ∈ u_ws Cn T N, w ∈ lw_all) (b : Nat) {sh : List (Nat × zS)} {σ : zF} (hb : B[b]? = some (sh, σ)) (q : Nat) {a : Nat} {fs : List (Option Nat)} (hq : sh[q]? = some (a, .inr (.inl (ci, fs)))) (hc : vwCl[ci]? = some (Cn, T, N)) (j : Nat) (hj : j < N) (hf : fs[j]? = some none) (hlink : Cond.fieldLinkNest own index (T j).1 (T j).2.1 (T j).2.2.1 host ∈ lw_env) (hdg : decode cc pc = .ok (.getfield index, 3)) (k : zK p l e R s m args below meth c D A nL Q cells slots (pc + 3) L (.int (σ q j) :: st) B) : zK p l e R s m args below meth c D A nL Q cells slots pc L (.ref a :: st) B := fun H locs ls hP hD hS hl => by
  obtain ⟨q0, h1, -⟩ := zW_at B b hb hq
  refine va_getN (D := D) C.1 C.2.1 C.2.2.2.2.1 hin C.2.2.2.1 C.2.2.2.2.2.1 hP q0 (fs := zO 0 fs (σ q)) h1 hc j hj ((C.2.2.2.2.2.2.2.2.1 _ hlink).use rfl) (fun _ h9 => h9) (v := .int (σ q j)) (by rw [zO_get, hf]; simp [zV]) hdg ?_
  exact k H locs ls hP hD hS hl
theorem z_getR (C : zX p s m args meth c D tys A own cc nL) {Cn : String} {T : u_T} {N ci index : Nat} (hin : ∀ w ∈ u_ws Cn T N, w ∈ lw_all) (b : Nat) {sh : List (Nat × zS)} {σ : zF} (hb : B[b]? = some (sh, σ)) (q : Nat) {a : Nat} {fs : List (Option Nat)} (hq : sh[q]? = some (a, .inr (.inl (ci, fs)))) (hc : vwCl[ci]? = some (Cn, T, N)) (j : Nat) (hj : j < N) {r : Nat} (hf : fs[j]? = some (some r)) (hlink : Cond.fieldLink own index (T j).1 (T j).2.1 (T j).2.2.1 ∈ lw_all) (hdg : decode cc pc = .ok (.getfield index, 3)) (k : zK p l e R s m args below meth c D A nL Q cells slots (pc + 3) L (.ref r :: st) B) : zK p l e R s m args below meth c D A nL Q cells slots pc L (.ref a :: st) B := fun H locs ls hP hD hS hl => by
  obtain ⟨q0, h1, -⟩ := zW_at B b hb hq
  refine va_get (D := D) C.1 C.2.1 C.2.2.2.2.1 hin C.2.2.2.1 C.2.2.2.2.2.1 hP q0 (fs := zO 0 fs (σ q)) h1 hc j hj (C.2.2.2.2.1 _ hlink) (fun _ h9 => h9) (v := .ref r) (by rw [zO_get, hf]; simp [zV]) hdg ?_
  exact k H locs ls hP hD hS hl
theorem z_getRN (C : zX p s m args meth c D tys A own cc nL) {Cn : String} {T : u_T} {N ci index : Nat} {host : String} (hin : ∀ w ∈ u_ws Cn T N, w ∈ lw_all) (b : Nat) {sh : List (Nat × zS)} {σ : zF} (hb : B[b]? = some (sh, σ)) (q : Nat) {a : Nat} {fs : List (Option Nat)} (hq : sh[q]? = some (a, .inr (.inl (ci, fs)))) (hc : vwCl[ci]? = some (Cn, T, N)) (j : Nat) (hj : j < N) {r : Nat} (hf : fs[j]? = some (some r)) (hlink : Cond.fieldLinkNest own index (T j).1 (T j).2.1 (T j).2.2.1 host ∈ lw_env) (hdg : decode cc pc = .ok (.getfield index, 3)) (k : zK p l e R s m args below meth c D A nL Q cells slots (pc + 3) L (.ref r :: st) B) : zK p l e R s m args below meth c D A nL Q cells slots pc L (.ref a :: st) B := fun H locs ls hP hD hS hl => by
  obtain ⟨q0, h1, -⟩ := zW_at B b hb hq
  refine va_getN (D := D) C.1 C.2.1 C.2.2.2.2.1 hin C.2.2.2.1 C.2.2.2.2.2.1 hP q0 (fs := zO 0 fs (σ q)) h1 hc j hj ((C.2.2.2.2.2.2.2.2.1 _ hlink).use rfl) (fun _ h9 => h9) (v := .ref r) (by rw [zO_get, hf]; simp [zV]) hdg ?_
  exact k H locs ls hP hD hS hl
theorem z_putI (C : zX p s m args meth c D tys A own cc nL) {Cn : String} {T : u_T} {N ci index : Nat} (hin : ∀ w ∈ u_ws Cn T N, w ∈ lw_all) {ty0 : Nat → FieldType} (hty : ∀ k, k < N → parseFieldDescriptor (T k).2.2.1 = some (ty0 k)) (hnm : ∀ a, a < N → ∀ b, b < N → a ≠ b → (T a).2.1 ≠ (T b).2.1) (b : Nat) {sh : List (Nat × zS)} {σ : zF} (hb : B[b]? = some (sh, σ)) (q : Nat) {a : Nat} {fs : List (Option Nat)} (hq : sh[q]? = some (a, .inr (.inl (ci, fs)))) (hc : vwCl[ci]? = some (Cn, T, N)) (j : Nat) (hj : j < N) {x : Int32} (hf : fs[j]? = some none) (hlink : Cond.fieldLink own index (T j).1 (T j).2.1 (T j).2.2.1 ∈ lw_all) (hfin : (T j).2.2.2 = false) (hd : parseFieldDescriptor (T j).2.2.1 = some .int) (hdg : decode cc pc = .ok (.putfield index, 3)) (hB : B.set b (sh, zU σ q j x) = B') (k : zK p l e R s m args below meth c D A nL Q cells slots (pc + 3) L st B') : zK p l e R s m args below meth c D A nL Q cells slots pc L (.int x :: .ref a :: st) B := fun H locs ls hP hD hS hl => by
  obtain ⟨q0, h1, h2, -⟩ := zW_at B b hb hq
  have h3 := h2 (zU σ q j x) (.inr (ci, (zO 0 fs (σ q)).set j (.int x))) (by rw [zU_eq, zO_set fs 0 (σ q) x hf, Nat.zero_add]; rfl) (fun k' hk' => zU_ne hk')
  refine va_put (D := D) C.1 C.2.1 C.2.2.2.2.1 hin ty0 hty hnm C.2.2.2.1 C.2.2.2.2.2.1 hP hD hS q0 (fs := zO 0 fs (σ q)) h1 hc j hj (C.2.2.2.2.1 _ hlink) (fun _ h9 => h9) hfin (ty := .int) (v := .int x) hd rfl rfl (zO_len fs 0 (σ q) hf) hdg (fun H1 locs1 hP1 hD1 hS1 => ?_)
  rw [h3, hB] at hP1 hD1
  exact k H1 locs1 ls hP1 hD1 hS1 hl
theorem z_putIN (C : zX p s m args meth c D tys A own cc nL) {Cn : String} {T : u_T} {N ci index : Nat} {host : String} (hin : ∀ w ∈ u_ws Cn T N, w ∈ lw_all) {ty0 : Nat → FieldType} (hty : ∀ k, k < N → parseFieldDescriptor (T k).2.2.1 = some (ty0 k)) (hnm : ∀ a, a < N → ∀ b, b < N → a ≠ b → (T a).2.1 ≠ (T b).2.1) (b : Nat) {sh : List (Nat × zS)} {σ : zF} (hb : B[b]? = some (sh, σ)) (q : Nat) {a : Nat} {fs : List (Option Nat)} (hq : sh[q]? = some (a, .inr (.inl (ci, fs)))) (hc : vwCl[ci]? = some (Cn, T, N)) (j : Nat) (hj : j < N) {x : Int32} (hf : fs[j]? = some none) (hlink : Cond.fieldLinkNest own index (T j).1 (T j).2.1 (T j).2.2.1 host ∈ lw_env) (hfin : (T j).2.2.2 = false) (hd : parseFieldDescriptor (T j).2.2.1 = some .int) (hdg : decode cc pc = .ok (.putfield index, 3)) (hB : B.set b (sh, zU σ q j x) = B') (k : zK p l e R s m args below meth c D A nL Q cells slots (pc + 3) L st B') : zK p l e R s m args below meth c D A nL Q cells slots pc L (.int x :: .ref a :: st) B := fun H locs ls hP hD hS hl => by
  obtain ⟨q0, h1, h2, -⟩ := zW_at B b hb hq
  have h3 := h2 (zU σ q j x) (.inr (ci, (zO 0 fs (σ q)).set j (.int x))) (by rw [zU_eq, zO_set fs 0 (σ q) x hf, Nat.zero_add]; rfl) (fun k' hk' => zU_ne hk')
  refine va_putN (D := D) C.1 C.2.1 C.2.2.2.2.1 hin ty0 hty hnm C.2.2.2.1 C.2.2.2.2.2.1 hP hD hS q0 (fs := zO 0 fs (σ q)) h1 hc j hj ((C.2.2.2.2.2.2.2.2.1 _ hlink).use rfl) (fun _ h9 => h9) hfin (ty := .int) (v := .int x) hd rfl rfl (zO_len fs 0 (σ q) hf) hdg (fun H1 locs1 hP1 hD1 hS1 => ?_)
  rw [h3, hB] at hP1 hD1
  exact k H1 locs1 ls hP1 hD1 hS1 hl
theorem z_iret (C : zX p s m args meth c D tys A own cc nL) {post : Option Value → List zB → Prop} {v : Int32} (hr : meth.sig.returnType = some .int) (hdg : decode cc pc = .ok (.ireturn, 1)) (hp : post (some (.int v)) B) : zK p l e R s m args below meth c D A nL (MQ below (zQ post D tys A) args s cells slots A) cells slots pc L [.int v] B := fun H locs ls hP hD hS hl => W.iret C.1 C.2.1 hr (fun t ht hW => ⟨⟨_, B, rfl, hp, by rw [ht]; exact hP, va_K.moved hW.alike C.2.2.2.2.2.1, hD⟩, hS.F ht⟩) hS.2.2 hdg C.2.2.2.2.2.2.2.1
theorem z_zret (C : zX p s m args meth c D tys A own cc nL) {post : Option Value → List zB → Prop} {v : Int32} (hr : meth.sig.returnType = some .boolean) (hv : narrow .boolean (.int v) = .int v) (hdg : decode cc pc = .ok (.ireturn, 1)) (hp : post (some (.int v)) B) : zK p l e R s m args below meth c D A nL (MQ below (zQ post D tys A) args s cells slots A) cells slots pc L [.int v] B := fun H locs ls hP hD hS hl => W.zret C.1 C.2.1 hr hv (fun t ht hW => ⟨⟨_, B, rfl, hp, by rw [ht]; exact hP, va_K.moved hW.alike C.2.2.2.2.2.1, hD⟩, hS.F ht⟩) hS.2.2 hdg C.2.2.2.2.2.2.2.1
theorem z_lret (C : zX p s m args meth c D tys A own cc nL) {post : Option Value → List zB → Prop} {v : Int64} (hr : meth.sig.returnType = some .long) (hdg : decode cc pc = .ok (.lreturn, 1)) (hp : post (some (.long v)) B) : zK p l e R s m args below meth c D A nL (MQ below (zQ post D tys A) args s cells slots A) cells slots pc L [.long v] B := fun H locs ls hP hD hS hl => W.lret C.1 C.2.1 hr (fun t ht hW => ⟨⟨_, B, rfl, hp, by rw [ht]; exact hP, va_K.moved hW.alike C.2.2.2.2.2.1, hD⟩, hS.F ht⟩) hS.2.2 hdg C.2.2.2.2.2.2.2.1
theorem z_dret (C : zX p s m args meth c D tys A own cc nL) {post : Option Value → List zB → Prop} {v : UInt64} (hr : meth.sig.returnType = some .double) (hdg : decode cc pc = .ok (.dreturn, 1)) (hp : post (some (.double v)) B) : zK p l e R s m args below meth c D A nL (MQ below (zQ post D tys A) args s cells slots A) cells slots pc L [.double v] B := fun H locs ls hP hD hS hl => W.dret C.1 C.2.1 hr (fun t ht hW => ⟨⟨_, B, rfl, hp, by rw [ht]; exact hP, va_K.moved hW.alike C.2.2.2.2.2.1, hD⟩, hS.F ht⟩) hS.2.2 hdg C.2.2.2.2.2.2.2.1
theorem z_vret (C : zX p s m args meth c D tys A own cc nL) {post : Option Value → List zB → Prop} (hr : meth.sig.returnType = none) (hdg : decode cc pc = .ok (.return_, 1)) (hp : post none B) : zK p l e R s m args below meth c D A nL (MQ below (zQ post D tys A) args s cells slots A) cells slots pc L [] B := fun H locs ls hP hD hS hl => W.vret C.1 C.2.1 hr (fun t ht hW => ⟨⟨_, B, rfl, hp, by rw [ht]; exact hP, va_K.moved hW.alike C.2.2.2.2.2.1, hD⟩, hS.F ht⟩) hS.2.2 hdg C.2.2.2.2.2.2.2.1
theorem z_back {mc ms : Nat} {post : Option Value → List zB → Prop} {a : Array Value} {H : Heap} {locs : List Loc} {ls : Array Slot} {st0 : List Value} (K : va_K D vwCl tys s) (hAq : ∀ q : Nat, s.heap.size ≤ q → A q) (msk : List Bool) (hP : va_P D vwCl (zW B) H) (hD : va_D A (zW B)) (hS : va_S A s.heap H locs) (hl : lv_has ls nL L)
    (hr : va_Run p l e R s m args below meth c H locs cells slots mc ms (F0 m pc ls st0) rest (zQ post D tys (va_A (zW (zPick msk B)) H.size) a) (va_A (zW (zPick msk B)) H.size))
    (kk : ∀ (r : Option Value) (u : List zB), post r u → zK p l e R s m args below meth c D A nL Q (cells + mc) (slots + ms) (pc + 3) L (r.toList ++ rest) (zPut msk B u)) : W p l e R s m args below meth c H locs cells slots Q (F0 m pc ls st0) := by
  obtain ⟨-, -, hF⟩ := z_pick msk hP hD hS hAq
  intro T hT X
  obtain ⟨v, st₀, t, T', Lc, h0, X', hLc, e1, e2, ⟨⟨r, u, hv, hp, hb, -, hDu⟩, hz, hk⟩, stp⟩ := hr T hT X
  cases hv
  rw [h0] at hz hk
  rw [← e1] at hb hz hk
  obtain ⟨hP2, hD2⟩ := z_join msk hP hD hk hF hb hDu
  obtain ⟨t2, a1, b1⟩ := kk v u hp T'.heap (locs ++ Lc) ls hP2 hD2 ⟨Nat.le_trans hS.1 hz, fun q h1 h2 => by
      rw [hk q (Nat.lt_of_lt_of_le h1 hS.1) (fun z => h2 (hF q z))]
      exact hS.2.1 q h1 h2, fun q hq => by
      rcases List.mem_append.mp hq with h | h
      · exact hS.2.2 q h
      · exact hF _ (hLc q h)⟩ hl T' rfl X'
  exact ⟨t2, stp t2 a1, b1⟩
theorem z_callV (C : zX p s m args meth c D tys A own cc nL) {y : MethodName} {bytes : ByteArray} {maxL mc ms n index : Nat} {ret : Option FieldType} {rm : Room} {post : Option Value → List zB → Prop} {As : List Value} {Bc : List zB} {b : Nat} (msk : List Bool) (hBc : zPick msk B = Bc) (hM : zM l D tys y bytes maxL ret rm (.ref b :: As) Bc mc ms post) (hcal : zCal y bytes maxL ret n) (hlink : Cond.methodLink own index y ∈ lw_all) (hinst : Cond.instanceMethod y ∈ lw_all ∧ Cond.selects y.cls y y ∈ lw_all) (hR : rm.cells = mc ∧ rm.slots = ms ∧ rm.frames + 1 ≤ R.frames ∧ 8 + (maxL + 11) + rm.locals ≤ R.locals)
    (bi : Nat) {sh : List (Nat × zS)} {σ : zF} (hbi : B[bi]? = some (sh, σ)) (q : Nat) {fs : List (Option Nat)} {ci : Nat} {T : u_T} {N : Nat} (hq : sh[q]? = some (b, .inr (.inl (ci, fs)))) (hc : vwCl[ci]? = some (y.cls, T, N))
    (hst : st = As.reverse ++ .ref b :: rest) (hn : As.length = n) (hcat : (rest.map fun v => v.category).sum ≤ 8) (hdg : decode cc pc = .ok (.invokevirtual index, 3)) (hf : cells + mc ≤ R.cells ∧ slots + ms ≤ R.slots)
    (kk : ∀ (r : Option Value) (u : List zB), post r u → zK p l e R s m args below meth c D A nL Q (cells + mc) (slots + ms) (pc + 3) L (r.toList ++ rest) (zPut msk B u)) : zK p l e R s m args below meth c D A nL Q cells slots pc L st B := fun H locs ls hP hD hS hl => by
  subst hBc
  subst hst
  obtain ⟨hPc, hDc, hF⟩ := z_pick msk hP hD hS C.2.2.2.2.2.2.1
  obtain ⟨q0, h1, -⟩ := zW_at B bi hbi hq
  exact z_back (a := (Value.ref b :: As).toArray) C.2.2.2.2.2.1 C.2.2.2.2.2.2.1 msk hP hD hS hl (va_runV (As := As) (rest := rest) ⟨C.1, C.2.1, C.2.2.1, C.2.2.2.1, C.2.2.2.2.1⟩ (hM H.size) (cwV n C.2.2.2.2.1 (zg_V hlink hinst.1 hinst.2 hcal.2.1 hcal.ws) rfl hR.1 hR.2.1 ⟨rfl, hcal.2.2⟩ hR.2.2) ⟨zPre_blind, va_recv C.2.2.2.2.2.1 hP hc h1, fun U hU hW => ⟨rfl, by rw [hU], by rw [hU]; exact hPc, va_K.moved hW.alike C.2.2.2.2.2.1, hDc, by rw [hU]; exact C.2.2.2.2.2.2.2.2.go hW hS.2.1 hF⟩⟩ rfl hn hl.1 rfl (lv_room hcat) hdg hf) kk
theorem z_callS (C : zX p s m args meth c D tys A own cc nL) {y : MethodName} {bytes : ByteArray} {maxL mc ms n index : Nat} {ret : Option FieldType} {rm : Room} {post : Option Value → List zB → Prop} {As : List Value} {Bc : List zB}  (msk : List Bool) (hBc : zPick msk B = Bc) (hM : zM l D tys y bytes maxL ret rm As Bc mc ms post) (hcal : zCal y bytes maxL ret n) (hlink : Cond.methodLink own index y ∈ lw_all) (hstat : Cond.static y ∈ lw_all) (hR : rm.cells = mc ∧ rm.slots = ms ∧ rm.frames + 1 ≤ R.frames ∧ 8 + (maxL + 11) + rm.locals ≤ R.locals)
    (hst : st = As.reverse ++ rest) (hn : As.length = n) (hcat : (rest.map fun v => v.category).sum ≤ 8) (hdg : decode cc pc = .ok (.invokestatic index, 3)) (hf : cells + mc ≤ R.cells ∧ slots + ms ≤ R.slots)
    (kk : ∀ (r : Option Value) (u : List zB), post r u → zK p l e R s m args below meth c D A nL Q (cells + mc) (slots + ms) (pc + 3) L (r.toList ++ rest) (zPut msk B u)) : zK p l e R s m args below meth c D A nL Q cells slots pc L st B := fun H locs ls hP hD hS hl => by
  subst hBc
  subst hst
  obtain ⟨hPc, hDc, hF⟩ := z_pick msk hP hD hS C.2.2.2.2.2.2.1
  exact z_back (a := As.toArray) C.2.2.2.2.2.1 C.2.2.2.2.2.2.1 msk hP hD hS hl (va_runS (As := As) (rest := rest) ⟨C.1, C.2.1, C.2.2.1, C.2.2.2.1, C.2.2.2.2.1⟩ (hM H.size) (va_cwS n C.2.2.2.2.1 (zg_S hlink hstat hcal.2.1 hcal.ws) rfl hR.1 hR.2.1 hcal.2.2 hR.2.2) ⟨zPre_blind, fun U hU hW => ⟨rfl, by rw [hU], by rw [hU]; exact hPc, va_K.moved hW.alike C.2.2.2.2.2.1, hDc, by rw [hU]; exact C.2.2.2.2.2.2.2.2.go hW hS.2.1 hF⟩⟩ rfl hn hl.1 rfl (lv_room hcat) hdg hf) kk
theorem z_callI (C : zX p s m args meth c D tys A own cc nL) {y : MethodName} {bytes : ByteArray} {maxL mc ms n index : Nat} {ret : Option FieldType} {rm : Room} {post : Option Value → List zB → Prop} {As : List Value} {Bc : List zB} {b : Nat} (msk : List Bool) (hBc : zPick msk B = Bc) (hM : zM l D tys y bytes maxL none rm (.ref b :: As) Bc mc ms post) (hcal : zCal y bytes maxL none n) (hlink : Cond.methodLink own index y ∈ lw_all) (hinst : y.name = "<init>" ∧ Cond.instanceMethod y ∈ lw_all) (hR : rm.cells = mc ∧ rm.slots = ms ∧ rm.frames + 1 ≤ R.frames ∧ 8 + (maxL + 11) + rm.locals ≤ R.locals)
    (hst : st = As.reverse ++ .ref b :: rest) (hn : As.length = n) (hcat : (rest.map fun v => v.category).sum ≤ 8) (hdg : decode cc pc = .ok (.invokespecial index, 3)) (hf : cells + mc ≤ R.cells ∧ slots + ms ≤ R.slots)
    (kk : ∀ (r : Option Value) (u : List zB), post r u → zK p l e R s m args below meth c D A nL Q (cells + mc) (slots + ms) (pc + 3) L (r.toList ++ rest) (zPut msk B u)) : zK p l e R s m args below meth c D A nL Q cells slots pc L st B := fun H locs ls hP hD hS hl => by
  subst hBc
  subst hst
  obtain ⟨hPc, hDc, hF⟩ := z_pick msk hP hD hS C.2.2.2.2.2.2.1
  exact z_back (a := (Value.ref b :: As).toArray) C.2.2.2.2.2.1 C.2.2.2.2.2.2.1 msk hP hD hS hl (va_runI (As := As) (rest := rest) ⟨C.1, C.2.1, C.2.2.1, C.2.2.2.1, C.2.2.2.2.1⟩ (hM H.size) (cwI n C.2.2.2.2.1 (lw_goodIn hcal.ws) rfl hR.1 hR.2.1 (C.2.2.2.2.1 _ hcal.2.1) (C.2.2.2.2.1 _ hlink) (C.2.2.2.2.1 _ hinst.2) hinst.1 hcal.2.2 hR.2.2) ⟨zPre_blind, fun U hU hW => ⟨rfl, by rw [hU], by rw [hU]; exact hPc, va_K.moved hW.alike C.2.2.2.2.2.1, hDc, by rw [hU]; exact C.2.2.2.2.2.2.2.2.go hW hS.2.1 hF⟩⟩ rfl hn hl.1 rfl (lv_room hcat) hdg hf) kk
theorem z_mmin (C : zX p s m args meth c D tys A own cc nL) {index : Nat} {x y : Int32} (h1 : Cond.methodLink own index Lib.Math.min.name ∈ lw_all) (h2 : Cond.static Lib.Math.min.name ∈ lw_all) (h3 : Cond.initialized "java/lang/Math" ∈ lw_all) (h4 : Cond.code Lib.Math.min.name Lib.Math.min.code 2 (some .int) ∈ lw_all) (hR : 1 ≤ R.frames ∧ (st.map fun v => v.category).sum + 13 ≤ R.locals ∧ cells ≤ R.cells ∧ slots ≤ R.slots) (hdg : decode cc pc = .ok (.invokestatic index, 3)) (k : zK p l e R s m args below meth c D A nL Q cells slots (pc + 3) L (.int (if y < x then y else x) :: st) B) : zK p l e R s m args below meth c D A nL Q cells slots pc L (.int y :: .int x :: st) B := fun H locs ls hP hD hS hl => va_mmin C.1 C.2.1 (C.2.2.1.trans hl.1.symm) C.2.2.2.1 (C.2.2.2.2.1 _ h1) (C.2.2.2.2.1 _ h2) (C.2.2.2.2.1 _ h3) (C.2.2.2.2.1 _ h4) hR.1 hR.2.1 hR.2.2.1 hR.2.2.2 hdg (k H locs ls hP hD hS hl)
theorem z_mmax (C : zX p s m args meth c D tys A own cc nL) {index : Nat} {x y : Int32} (h1 : Cond.methodLink own index Lib.Math.max.name ∈ lw_all) (h2 : Cond.static Lib.Math.max.name ∈ lw_all) (h3 : Cond.initialized "java/lang/Math" ∈ lw_all) (h4 : Cond.code Lib.Math.max.name Lib.Math.max.code 2 (some .int) ∈ lw_all) (hR : 1 ≤ R.frames ∧ (st.map fun v => v.category).sum + 13 ≤ R.locals ∧ cells ≤ R.cells ∧ slots ≤ R.slots) (hdg : decode cc pc = .ok (.invokestatic index, 3)) (k : zK p l e R s m args below meth c D A nL Q cells slots (pc + 3) L (.int (if x < y then y else x) :: st) B) : zK p l e R s m args below meth c D A nL Q cells slots pc L (.int y :: .int x :: st) B := fun H locs ls hP hD hS hl => va_mmax C.1 C.2.1 (C.2.2.1.trans hl.1.symm) C.2.2.2.1 (C.2.2.2.2.1 _ h1) (C.2.2.2.2.1 _ h2) (C.2.2.2.2.1 _ h3) (C.2.2.2.2.1 _ h4) hR.1 hR.2.1 hR.2.2.1 hR.2.2.2 hdg (k H locs ls hP hD hS hl)
end ZROWS
end
section
/-! which words stand in the tables, by their places -/
theorem wi_L : Cond.initialized RL ∈ lw_all := List.mem_filter.mpr ⟨List.mem_append_right _ (List.mem_of_getElem? (i := 0) (by decide +kernel)), by decide⟩
theorem wi_X2 : Cond.initialized RX2 ∈ lw_all := List.mem_filter.mpr ⟨List.mem_append_right _ (List.mem_of_getElem? (i := 1) (by decide +kernel)), by decide⟩
theorem wi_X0 : Cond.initialized RX0 ∈ lw_all := List.mem_filter.mpr ⟨List.mem_append_right _ (List.mem_of_getElem? (i := 2) (by decide +kernel)), by decide⟩
theorem wi_X1 : Cond.initialized RX1 ∈ lw_all := List.mem_filter.mpr ⟨List.mem_append_right _ (List.mem_of_getElem? (i := 3) (by decide +kernel)), by decide⟩
theorem wi_J9 : Cond.initialized RJ9 ∈ lw_all := List.mem_filter.mpr ⟨List.mem_append_right _ (List.mem_of_getElem? (i := 4) (by decide +kernel)), by decide⟩
theorem wi_X4 : Cond.initialized RX4 ∈ lw_all := List.mem_filter.mpr ⟨List.mem_append_right _ (List.mem_of_getElem? (i := 5) (by decide +kernel)), by decide⟩
theorem wi_X3 : Cond.initialized RX3 ∈ lw_all := List.mem_filter.mpr ⟨List.mem_append_right _ (List.mem_of_getElem? (i := 6) (by decide +kernel)), by decide⟩
theorem wi_Throwable : Cond.initialized "java/lang/Throwable" ∈ lw_all := List.mem_filter.mpr ⟨List.mem_append_right _ (List.mem_of_getElem? (i := 7) (by decide +kernel)), by decide⟩
theorem wi_Exception : Cond.initialized "java/lang/Exception" ∈ lw_all := List.mem_filter.mpr ⟨List.mem_append_right _ (List.mem_of_getElem? (i := 8) (by decide +kernel)), by decide⟩
theorem wi_RuntimeException : Cond.initialized "java/lang/RuntimeException" ∈ lw_all := List.mem_filter.mpr ⟨List.mem_append_right _ (List.mem_of_getElem? (i := 9) (by decide +kernel)), by decide⟩
theorem wi_IllegalArgumentException : Cond.initialized "java/lang/IllegalArgumentException" ∈ lw_all := List.mem_filter.mpr ⟨List.mem_append_right _ (List.mem_of_getElem? (i := 10) (by decide +kernel)), by decide⟩
theorem wi_IndexOutOfBoundsException : Cond.initialized "java/lang/IndexOutOfBoundsException" ∈ lw_all := List.mem_filter.mpr ⟨List.mem_append_right _ (List.mem_of_getElem? (i := 11) (by decide +kernel)), by decide⟩
theorem wi_IllegalStateException : Cond.initialized "java/lang/IllegalStateException" ∈ lw_all := List.mem_filter.mpr ⟨List.mem_append_right _ (List.mem_of_getElem? (i := 12) (by decide +kernel)), by decide⟩
theorem wi_J10 : Cond.initialized RJ10 ∈ lw_all := List.mem_filter.mpr ⟨List.mem_append_right _ (List.mem_of_getElem? (i := 13) (by decide +kernel)), by decide⟩
theorem wl_L_8 : Cond.classLink RL 8 RX2 ∈ lw_all := List.mem_filter.mpr ⟨List.mem_append_right _ (List.mem_of_getElem? (i := 14) (by decide +kernel)), by decide⟩
theorem wz_X2 : Cond.instantiable RX2 2 ∈ lw_all := List.mem_filter.mpr ⟨List.mem_append_right _ (List.mem_of_getElem? (i := 15) (by decide +kernel)), by decide⟩
theorem wm_L_62 : Cond.methodLink RL 62 yX2_init ∈ lw_all := List.mem_filter.mpr ⟨List.mem_append_right _ (List.mem_of_getElem? (i := 16) (by decide +kernel)), by decide⟩
theorem wn_yX2_init : Cond.instanceMethod yX2_init ∈ lw_all := List.mem_filter.mpr ⟨List.mem_append_right _ (List.mem_of_getElem? (i := 17) (by decide +kernel)), by decide⟩
theorem wk_yX2_init : Cond.code yX2_init cX2_init 1 none ∈ lw_all := List.mem_filter.mpr ⟨List.mem_append_right _ (List.mem_of_getElem? (i := 18) (by decide +kernel)), by decide⟩
theorem wm_X2_1 : Cond.methodLink RX2 1 objectInit ∈ lw_all := List.mem_filter.mpr ⟨List.mem_append_right _ (List.mem_of_getElem? (i := 19) (by decide +kernel)), by decide⟩
theorem wn_objectInit : Cond.instanceMethod objectInit ∈ lw_all := List.mem_filter.mpr ⟨List.mem_append_right _ (List.mem_of_getElem? (i := 20) (by decide +kernel)), by decide⟩
theorem wk_oinit : Cond.code objectInit ⟨#[0xb1]⟩ 1 none ∈ lw_all := List.mem_filter.mpr ⟨List.mem_append_right _ (List.mem_of_getElem? (i := 21) (by decide +kernel)), by decide⟩
theorem wl_X2_7 : Cond.classLink RX2 7 RX0 ∈ lw_all := List.mem_filter.mpr ⟨List.mem_append_right _ (List.mem_of_getElem? (i := 22) (by decide +kernel)), by decide⟩
theorem wz_X0 : Cond.instantiable RX0 13 ∈ lw_all := List.mem_filter.mpr ⟨List.mem_append_right _ (List.mem_of_getElem? (i := 23) (by decide +kernel)), by decide⟩
theorem wm_X2_9 : Cond.methodLinkNest RX2 9 yX0_init "FleetTerms" ∈ lw_env := List.mem_filter.mpr ⟨List.mem_append_right _ (List.mem_of_getElem? (i := 24) (by decide +kernel)), by decide⟩
theorem wn_yX0_init : Cond.instanceMethod yX0_init ∈ lw_all := List.mem_filter.mpr ⟨List.mem_append_right _ (List.mem_of_getElem? (i := 25) (by decide +kernel)), by decide⟩
theorem wk_yX0_init : Cond.code yX0_init cX0_init 1 none ∈ lw_all := List.mem_filter.mpr ⟨List.mem_append_right _ (List.mem_of_getElem? (i := 26) (by decide +kernel)), by decide⟩
theorem wm_X0_3 : Cond.methodLink RX0 3 objectInit ∈ lw_all := List.mem_filter.mpr ⟨List.mem_append_right _ (List.mem_of_getElem? (i := 27) (by decide +kernel)), by decide⟩
theorem wl_X0_34 : Cond.classLink RX0 34 RX1 ∈ lw_all := List.mem_filter.mpr ⟨List.mem_append_right _ (List.mem_of_getElem? (i := 28) (by decide +kernel)), by decide⟩
theorem wz_X1 : Cond.instantiable RX1 4 ∈ lw_all := List.mem_filter.mpr ⟨List.mem_append_right _ (List.mem_of_getElem? (i := 29) (by decide +kernel)), by decide⟩
theorem wm_X0_36 : Cond.methodLinkNest RX0 36 yX1_init "FleetTerms" ∈ lw_env := List.mem_filter.mpr ⟨List.mem_append_right _ (List.mem_of_getElem? (i := 30) (by decide +kernel)), by decide⟩
theorem wn_yX1_init : Cond.instanceMethod yX1_init ∈ lw_all := List.mem_filter.mpr ⟨List.mem_append_right _ (List.mem_of_getElem? (i := 31) (by decide +kernel)), by decide⟩
theorem wk_yX1_init : Cond.code yX1_init cX1_init 1 none ∈ lw_all := List.mem_filter.mpr ⟨List.mem_append_right _ (List.mem_of_getElem? (i := 32) (by decide +kernel)), by decide⟩
theorem wm_X1_3 : Cond.methodLink RX1 3 objectInit ∈ lw_all := List.mem_filter.mpr ⟨List.mem_append_right _ (List.mem_of_getElem? (i := 33) (by decide +kernel)), by decide⟩
theorem wf_X1_9 : Cond.fieldLink RX1 9 (TX1 0).1 (TX1 0).2.1 (TX1 0).2.2.1 ∈ lw_all := List.mem_filter.mpr ⟨List.mem_append_right _ (List.mem_of_getElem? (i := 34) (by decide +kernel)), by decide⟩
theorem wf_X2_68 : Cond.fieldLink RX2 68 (TX1 0).1 (TX1 0).2.1 (TX1 0).2.2.1 ∈ lw_all := List.mem_filter.mpr ⟨List.mem_append_right _ (List.mem_of_getElem? (i := 35) (by decide +kernel)), by decide⟩
theorem wf_X0_128 : Cond.fieldLink RX0 128 (TX1 0).1 (TX1 0).2.1 (TX1 0).2.2.1 ∈ lw_all := List.mem_filter.mpr ⟨List.mem_append_right _ (List.mem_of_getElem? (i := 36) (by decide +kernel)), by decide⟩
theorem wf_X1_15 : Cond.fieldLink RX1 15 (TX1 1).1 (TX1 1).2.1 (TX1 1).2.2.1 ∈ lw_all := List.mem_filter.mpr ⟨List.mem_append_right _ (List.mem_of_getElem? (i := 37) (by decide +kernel)), by decide⟩
theorem wf_X0_74 : Cond.fieldLink RX0 74 (TX1 1).1 (TX1 1).2.1 (TX1 1).2.2.1 ∈ lw_all := List.mem_filter.mpr ⟨List.mem_append_right _ (List.mem_of_getElem? (i := 38) (by decide +kernel)), by decide⟩
theorem wf_X2_142 : Cond.fieldLink RX2 142 (TX1 1).1 (TX1 1).2.1 (TX1 1).2.2.1 ∈ lw_all := List.mem_filter.mpr ⟨List.mem_append_right _ (List.mem_of_getElem? (i := 39) (by decide +kernel)), by decide⟩
theorem wf_X1_18 : Cond.fieldLink RX1 18 (TX1 2).1 (TX1 2).2.1 (TX1 2).2.2.1 ∈ lw_all := List.mem_filter.mpr ⟨List.mem_append_right _ (List.mem_of_getElem? (i := 40) (by decide +kernel)), by decide⟩
theorem wf_X1_21 : Cond.fieldLink RX1 21 (TX1 3).1 (TX1 3).2.1 (TX1 3).2.2.1 ∈ lw_all := List.mem_filter.mpr ⟨List.mem_append_right _ (List.mem_of_getElem? (i := 41) (by decide +kernel)), by decide⟩
theorem wa_int : Cond.arrayClass .int ∈ lw_all := List.mem_filter.mpr ⟨List.mem_append_right _ (List.mem_of_getElem? (i := 51) (by decide +kernel)), by decide⟩
theorem wa_boolean : Cond.arrayClass .boolean ∈ lw_all := List.mem_filter.mpr ⟨List.mem_append_right _ (List.mem_of_getElem? (i := 52) (by decide +kernel)), by decide⟩
theorem wf_X0_50 : Cond.fieldLink RX0 50 (TX0 0).1 (TX0 0).2.1 (TX0 0).2.2.1 ∈ lw_all := List.mem_filter.mpr ⟨List.mem_append_right _ (List.mem_of_getElem? (i := 53) (by decide +kernel)), by decide⟩
theorem wf_X2_107 : Cond.fieldLink RX2 107 (TX0 0).1 (TX0 0).2.1 (TX0 0).2.2.1 ∈ lw_all := List.mem_filter.mpr ⟨List.mem_append_right _ (List.mem_of_getElem? (i := 54) (by decide +kernel)), by decide⟩
theorem wf_X0_54 : Cond.fieldLink RX0 54 (TX0 1).1 (TX0 1).2.1 (TX0 1).2.2.1 ∈ lw_all := List.mem_filter.mpr ⟨List.mem_append_right _ (List.mem_of_getElem? (i := 55) (by decide +kernel)), by decide⟩
theorem wf_X0_57 : Cond.fieldLink RX0 57 (TX0 2).1 (TX0 2).2.1 (TX0 2).2.2.1 ∈ lw_all := List.mem_filter.mpr ⟨List.mem_append_right _ (List.mem_of_getElem? (i := 56) (by decide +kernel)), by decide⟩
theorem wf_X0_60 : Cond.fieldLink RX0 60 (TX0 3).1 (TX0 3).2.1 (TX0 3).2.2.1 ∈ lw_all := List.mem_filter.mpr ⟨List.mem_append_right _ (List.mem_of_getElem? (i := 57) (by decide +kernel)), by decide⟩
theorem wf_X2_85 : Cond.fieldLink RX2 85 (TX0 3).1 (TX0 3).2.1 (TX0 3).2.2.1 ∈ lw_all := List.mem_filter.mpr ⟨List.mem_append_right _ (List.mem_of_getElem? (i := 58) (by decide +kernel)), by decide⟩
theorem wf_X0_63 : Cond.fieldLink RX0 63 (TX0 4).1 (TX0 4).2.1 (TX0 4).2.2.1 ∈ lw_all := List.mem_filter.mpr ⟨List.mem_append_right _ (List.mem_of_getElem? (i := 59) (by decide +kernel)), by decide⟩
theorem wf_X0_9 : Cond.fieldLink RX0 9 (TX0 5).1 (TX0 5).2.1 (TX0 5).2.2.1 ∈ lw_all := List.mem_filter.mpr ⟨List.mem_append_right _ (List.mem_of_getElem? (i := 60) (by decide +kernel)), by decide⟩
theorem wf_X2_35 : Cond.fieldLink RX2 35 (TX0 5).1 (TX0 5).2.1 (TX0 5).2.2.1 ∈ lw_all := List.mem_filter.mpr ⟨List.mem_append_right _ (List.mem_of_getElem? (i := 61) (by decide +kernel)), by decide⟩
theorem wf_X0_15 : Cond.fieldLink RX0 15 (TX0 6).1 (TX0 6).2.1 (TX0 6).2.2.1 ∈ lw_all := List.mem_filter.mpr ⟨List.mem_append_right _ (List.mem_of_getElem? (i := 62) (by decide +kernel)), by decide⟩
theorem wf_X0_18 : Cond.fieldLink RX0 18 (TX0 7).1 (TX0 7).2.1 (TX0 7).2.2.1 ∈ lw_all := List.mem_filter.mpr ⟨List.mem_append_right _ (List.mem_of_getElem? (i := 63) (by decide +kernel)), by decide⟩
theorem wf_X2_75 : Cond.fieldLink RX2 75 (TX0 7).1 (TX0 7).2.1 (TX0 7).2.2.1 ∈ lw_all := List.mem_filter.mpr ⟨List.mem_append_right _ (List.mem_of_getElem? (i := 64) (by decide +kernel)), by decide⟩
theorem wf_X0_21 : Cond.fieldLink RX0 21 (TX0 8).1 (TX0 8).2.1 (TX0 8).2.2.1 ∈ lw_all := List.mem_filter.mpr ⟨List.mem_append_right _ (List.mem_of_getElem? (i := 65) (by decide +kernel)), by decide⟩
theorem wf_X0_24 : Cond.fieldLink RX0 24 (TX0 9).1 (TX0 9).2.1 (TX0 9).2.2.1 ∈ lw_all := List.mem_filter.mpr ⟨List.mem_append_right _ (List.mem_of_getElem? (i := 66) (by decide +kernel)), by decide⟩
theorem wf_X0_27 : Cond.fieldLink RX0 27 (TX0 10).1 (TX0 10).2.1 (TX0 10).2.2.1 ∈ lw_all := List.mem_filter.mpr ⟨List.mem_append_right _ (List.mem_of_getElem? (i := 67) (by decide +kernel)), by decide⟩
theorem wf_X2_43 : Cond.fieldLink RX2 43 (TX0 10).1 (TX0 10).2.1 (TX0 10).2.2.1 ∈ lw_all := List.mem_filter.mpr ⟨List.mem_append_right _ (List.mem_of_getElem? (i := 68) (by decide +kernel)), by decide⟩
theorem wf_X0_30 : Cond.fieldLink RX0 30 (TX0 11).1 (TX0 11).2.1 (TX0 11).2.2.1 ∈ lw_all := List.mem_filter.mpr ⟨List.mem_append_right _ (List.mem_of_getElem? (i := 69) (by decide +kernel)), by decide⟩
theorem wf_X2_46 : Cond.fieldLink RX2 46 (TX0 11).1 (TX0 11).2.1 (TX0 11).2.2.1 ∈ lw_all := List.mem_filter.mpr ⟨List.mem_append_right _ (List.mem_of_getElem? (i := 70) (by decide +kernel)), by decide⟩
theorem wf_X0_37 : Cond.fieldLink RX0 37 (TX0 12).1 (TX0 12).2.1 (TX0 12).2.2.1 ∈ lw_all := List.mem_filter.mpr ⟨List.mem_append_right _ (List.mem_of_getElem? (i := 71) (by decide +kernel)), by decide⟩
theorem wf_X2_64 : Cond.fieldLink RX2 64 (TX0 12).1 (TX0 12).2.1 (TX0 12).2.2.1 ∈ lw_all := List.mem_filter.mpr ⟨List.mem_append_right _ (List.mem_of_getElem? (i := 72) (by decide +kernel)), by decide⟩
theorem wm_X2_19 : Cond.methodLink RX2 19 yX0_begin ∈ lw_all := List.mem_filter.mpr ⟨List.mem_append_right _ (List.mem_of_getElem? (i := 100) (by decide +kernel)), by decide⟩
theorem wn_yX0_begin : Cond.instanceMethod yX0_begin ∈ lw_all := List.mem_filter.mpr ⟨List.mem_append_right _ (List.mem_of_getElem? (i := 101) (by decide +kernel)), by decide⟩
theorem wo_yX0_begin : Cond.selects yX0_begin.cls yX0_begin yX0_begin ∈ lw_all := List.mem_filter.mpr ⟨List.mem_append_right _ (List.mem_of_getElem? (i := 102) (by decide +kernel)), by decide⟩
theorem wk_yX0_begin : Cond.code yX0_begin cX0_begin 3 none ∈ lw_all := List.mem_filter.mpr ⟨List.mem_append_right _ (List.mem_of_getElem? (i := 103) (by decide +kernel)), by decide⟩
theorem wm_X0_41 : Cond.methodLink RX0 41 yJ9_min_7cf53 ∈ lw_all := List.mem_filter.mpr ⟨List.mem_append_right _ (List.mem_of_getElem? (i := 104) (by decide +kernel)), by decide⟩
theorem ws_yJ9_min_7cf53 : Cond.static yJ9_min_7cf53 ∈ lw_all := List.mem_filter.mpr ⟨List.mem_append_right _ (List.mem_of_getElem? (i := 105) (by decide +kernel)), by decide⟩
theorem wk_yJ9_min_7cf53 : Cond.code yJ9_min_7cf53 cJ9_min_7cf53 2 (some .int) ∈ lw_all := List.mem_filter.mpr ⟨List.mem_append_right _ (List.mem_of_getElem? (i := 106) (by decide +kernel)), by decide⟩
theorem wm_X0_47 : Cond.methodLink RX0 47 yJ9_max_7cf53 ∈ lw_all := List.mem_filter.mpr ⟨List.mem_append_right _ (List.mem_of_getElem? (i := 107) (by decide +kernel)), by decide⟩
theorem ws_yJ9_max_7cf53 : Cond.static yJ9_max_7cf53 ∈ lw_all := List.mem_filter.mpr ⟨List.mem_append_right _ (List.mem_of_getElem? (i := 108) (by decide +kernel)), by decide⟩
theorem wk_yJ9_max_7cf53 : Cond.code yJ9_max_7cf53 cJ9_max_7cf53 2 (some .int) ∈ lw_all := List.mem_filter.mpr ⟨List.mem_append_right _ (List.mem_of_getElem? (i := 109) (by decide +kernel)), by decide⟩
theorem wm_X0_66 : Cond.methodLink RX0 66 yX1_clear ∈ lw_all := List.mem_filter.mpr ⟨List.mem_append_right _ (List.mem_of_getElem? (i := 110) (by decide +kernel)), by decide⟩
theorem wn_yX1_clear : Cond.instanceMethod yX1_clear ∈ lw_all := List.mem_filter.mpr ⟨List.mem_append_right _ (List.mem_of_getElem? (i := 111) (by decide +kernel)), by decide⟩
theorem wo_yX1_clear : Cond.selects yX1_clear.cls yX1_clear yX1_clear ∈ lw_all := List.mem_filter.mpr ⟨List.mem_append_right _ (List.mem_of_getElem? (i := 112) (by decide +kernel)), by decide⟩
theorem wk_yX1_clear : Cond.code yX1_clear cX1_clear 2 none ∈ lw_all := List.mem_filter.mpr ⟨List.mem_append_right _ (List.mem_of_getElem? (i := 113) (by decide +kernel)), by decide⟩
theorem wf_X2_10 : Cond.fieldLink RX2 10 (TX2 0).1 (TX2 0).2.1 (TX2 0).2.2.1 ∈ lw_all := List.mem_filter.mpr ⟨List.mem_append_right _ (List.mem_of_getElem? (i := 114) (by decide +kernel)), by decide⟩
theorem wf_X2_16 : Cond.fieldLink RX2 16 (TX2 1).1 (TX2 1).2.1 (TX2 1).2.2.1 ∈ lw_all := List.mem_filter.mpr ⟨List.mem_append_right _ (List.mem_of_getElem? (i := 115) (by decide +kernel)), by decide⟩
theorem wm_L_105 : Cond.methodLink RL 105 yX2_leader ∈ lw_all := List.mem_filter.mpr ⟨List.mem_append_right _ (List.mem_of_getElem? (i := 121) (by decide +kernel)), by decide⟩
theorem wn_yX2_leader : Cond.instanceMethod yX2_leader ∈ lw_all := List.mem_filter.mpr ⟨List.mem_append_right _ (List.mem_of_getElem? (i := 122) (by decide +kernel)), by decide⟩
theorem wo_yX2_leader : Cond.selects yX2_leader.cls yX2_leader yX2_leader ∈ lw_all := List.mem_filter.mpr ⟨List.mem_append_right _ (List.mem_of_getElem? (i := 123) (by decide +kernel)), by decide⟩
theorem wk_yX2_leader : Cond.code yX2_leader cX2_leader 3 (some .int) ∈ lw_all := List.mem_filter.mpr ⟨List.mem_append_right _ (List.mem_of_getElem? (i := 124) (by decide +kernel)), by decide⟩
theorem wm_X2_55 : Cond.methodLink RX2 55 yX0_leadsNow ∈ lw_all := List.mem_filter.mpr ⟨List.mem_append_right _ (List.mem_of_getElem? (i := 125) (by decide +kernel)), by decide⟩
theorem wn_yX0_leadsNow : Cond.instanceMethod yX0_leadsNow ∈ lw_all := List.mem_filter.mpr ⟨List.mem_append_right _ (List.mem_of_getElem? (i := 126) (by decide +kernel)), by decide⟩
theorem wo_yX0_leadsNow : Cond.selects yX0_leadsNow.cls yX0_leadsNow yX0_leadsNow ∈ lw_all := List.mem_filter.mpr ⟨List.mem_append_right _ (List.mem_of_getElem? (i := 127) (by decide +kernel)), by decide⟩
theorem wk_yX0_leadsNow : Cond.code yX0_leadsNow cX0_leadsNow 2 (some .boolean) ∈ lw_all := List.mem_filter.mpr ⟨List.mem_append_right _ (List.mem_of_getElem? (i := 128) (by decide +kernel)), by decide⟩
theorem wm_L_115 : Cond.methodLink RL 115 yX2_until ∈ lw_all := List.mem_filter.mpr ⟨List.mem_append_right _ (List.mem_of_getElem? (i := 129) (by decide +kernel)), by decide⟩
theorem wn_yX2_until : Cond.instanceMethod yX2_until ∈ lw_all := List.mem_filter.mpr ⟨List.mem_append_right _ (List.mem_of_getElem? (i := 130) (by decide +kernel)), by decide⟩
theorem wo_yX2_until : Cond.selects yX2_until.cls yX2_until yX2_until ∈ lw_all := List.mem_filter.mpr ⟨List.mem_append_right _ (List.mem_of_getElem? (i := 131) (by decide +kernel)), by decide⟩
theorem wk_yX2_until : Cond.code yX2_until cX2_until 2 (some .int) ∈ lw_all := List.mem_filter.mpr ⟨List.mem_append_right _ (List.mem_of_getElem? (i := 132) (by decide +kernel)), by decide⟩
theorem wm_X2_123 : Cond.methodLink RX2 123 yX0_copyFrom ∈ lw_all := List.mem_filter.mpr ⟨List.mem_append_right _ (List.mem_of_getElem? (i := 133) (by decide +kernel)), by decide⟩
theorem wn_yX0_copyFrom : Cond.instanceMethod yX0_copyFrom ∈ lw_all := List.mem_filter.mpr ⟨List.mem_append_right _ (List.mem_of_getElem? (i := 134) (by decide +kernel)), by decide⟩
theorem wo_yX0_copyFrom : Cond.selects yX0_copyFrom.cls yX0_copyFrom yX0_copyFrom ∈ lw_all := List.mem_filter.mpr ⟨List.mem_append_right _ (List.mem_of_getElem? (i := 135) (by decide +kernel)), by decide⟩
theorem wk_yX0_copyFrom : Cond.code yX0_copyFrom cX0_copyFrom 3 none ∈ lw_all := List.mem_filter.mpr ⟨List.mem_append_right _ (List.mem_of_getElem? (i := 136) (by decide +kernel)), by decide⟩
theorem wm_X0_70 : Cond.methodLink RX0 70 yX1_copyFrom ∈ lw_all := List.mem_filter.mpr ⟨List.mem_append_right _ (List.mem_of_getElem? (i := 137) (by decide +kernel)), by decide⟩
theorem wn_yX1_copyFrom : Cond.instanceMethod yX1_copyFrom ∈ lw_all := List.mem_filter.mpr ⟨List.mem_append_right _ (List.mem_of_getElem? (i := 138) (by decide +kernel)), by decide⟩
theorem wo_yX1_copyFrom : Cond.selects yX1_copyFrom.cls yX1_copyFrom yX1_copyFrom ∈ lw_all := List.mem_filter.mpr ⟨List.mem_append_right _ (List.mem_of_getElem? (i := 139) (by decide +kernel)), by decide⟩
theorem wk_yX1_copyFrom : Cond.code yX1_copyFrom cX1_copyFrom 2 none ∈ lw_all := List.mem_filter.mpr ⟨List.mem_append_right _ (List.mem_of_getElem? (i := 140) (by decide +kernel)), by decide⟩
theorem wm_X1_24 : Cond.methodLink RX1 24 arraycopyName ∈ lw_all := List.mem_filter.mpr ⟨List.mem_append_right _ (List.mem_of_getElem? (i := 141) (by decide +kernel)), by decide⟩
theorem ws_arraycopyName : Cond.static arraycopyName ∈ lw_all := List.mem_filter.mpr ⟨List.mem_append_right _ (List.mem_of_getElem? (i := 142) (by decide +kernel)), by decide⟩
theorem wnat_arraycopyName : Cond.native arraycopyName ∈ lw_all := List.mem_filter.mpr ⟨List.mem_append_right _ (List.mem_of_getElem? (i := 143) (by decide +kernel)), by decide⟩
theorem wm_X2_127 : Cond.methodLink RX2 127 yX0_isLed ∈ lw_all := List.mem_filter.mpr ⟨List.mem_append_right _ (List.mem_of_getElem? (i := 144) (by decide +kernel)), by decide⟩
theorem wn_yX0_isLed : Cond.instanceMethod yX0_isLed ∈ lw_all := List.mem_filter.mpr ⟨List.mem_append_right _ (List.mem_of_getElem? (i := 145) (by decide +kernel)), by decide⟩
theorem wo_yX0_isLed : Cond.selects yX0_isLed.cls yX0_isLed yX0_isLed ∈ lw_all := List.mem_filter.mpr ⟨List.mem_append_right _ (List.mem_of_getElem? (i := 146) (by decide +kernel)), by decide⟩
theorem wk_yX0_isLed : Cond.code yX0_isLed cX0_isLed 2 (some .boolean) ∈ lw_all := List.mem_filter.mpr ⟨List.mem_append_right _ (List.mem_of_getElem? (i := 147) (by decide +kernel)), by decide⟩
theorem wm_X0_89 : Cond.methodLink RX0 89 yX0_leadsNow ∈ lw_all := List.mem_filter.mpr ⟨List.mem_append_right _ (List.mem_of_getElem? (i := 148) (by decide +kernel)), by decide⟩
theorem wm_X0_140 : Cond.methodLink RX0 140 yX0_upIn ∈ lw_all := List.mem_filter.mpr ⟨List.mem_append_right _ (List.mem_of_getElem? (i := 149) (by decide +kernel)), by decide⟩
theorem wn_yX0_upIn : Cond.instanceMethod yX0_upIn ∈ lw_all := List.mem_filter.mpr ⟨List.mem_append_right _ (List.mem_of_getElem? (i := 150) (by decide +kernel)), by decide⟩
theorem wo_yX0_upIn : Cond.selects yX0_upIn.cls yX0_upIn yX0_upIn ∈ lw_all := List.mem_filter.mpr ⟨List.mem_append_right _ (List.mem_of_getElem? (i := 151) (by decide +kernel)), by decide⟩
theorem wk_yX0_upIn : Cond.code yX0_upIn cX0_upIn 4 (some .int) ∈ lw_all := List.mem_filter.mpr ⟨List.mem_append_right _ (List.mem_of_getElem? (i := 152) (by decide +kernel)), by decide⟩
theorem wm_X0_106 : Cond.methodLink RX0 106 yX0_isMoreThanHalf ∈ lw_all := List.mem_filter.mpr ⟨List.mem_append_right _ (List.mem_of_getElem? (i := 153) (by decide +kernel)), by decide⟩
theorem wn_yX0_isMoreThanHalf : Cond.instanceMethod yX0_isMoreThanHalf ∈ lw_all := List.mem_filter.mpr ⟨List.mem_append_right _ (List.mem_of_getElem? (i := 154) (by decide +kernel)), by decide⟩
theorem wo_yX0_isMoreThanHalf : Cond.selects yX0_isMoreThanHalf.cls yX0_isMoreThanHalf yX0_isMoreThanHalf ∈ lw_all := List.mem_filter.mpr ⟨List.mem_append_right _ (List.mem_of_getElem? (i := 155) (by decide +kernel)), by decide⟩
theorem wk_yX0_isMoreThanHalf : Cond.code yX0_isMoreThanHalf cX0_isMoreThanHalf 2 (some .boolean) ∈ lw_all := List.mem_filter.mpr ⟨List.mem_append_right _ (List.mem_of_getElem? (i := 156) (by decide +kernel)), by decide⟩
theorem wm_X2_89 : Cond.methodLink RX2 89 yX0_passHours ∈ lw_all := List.mem_filter.mpr ⟨List.mem_append_right _ (List.mem_of_getElem? (i := 157) (by decide +kernel)), by decide⟩
theorem wn_yX0_passHours : Cond.instanceMethod yX0_passHours ∈ lw_all := List.mem_filter.mpr ⟨List.mem_append_right _ (List.mem_of_getElem? (i := 158) (by decide +kernel)), by decide⟩
theorem wo_yX0_passHours : Cond.selects yX0_passHours.cls yX0_passHours yX0_passHours ∈ lw_all := List.mem_filter.mpr ⟨List.mem_append_right _ (List.mem_of_getElem? (i := 159) (by decide +kernel)), by decide⟩
theorem wk_yX0_passHours : Cond.code yX0_passHours cX0_passHours 3 none ∈ lw_all := List.mem_filter.mpr ⟨List.mem_append_right _ (List.mem_of_getElem? (i := 160) (by decide +kernel)), by decide⟩
theorem wm_X0_77 : Cond.methodLink RX0 77 yX0_runClocks ∈ lw_all := List.mem_filter.mpr ⟨List.mem_append_right _ (List.mem_of_getElem? (i := 161) (by decide +kernel)), by decide⟩
theorem wn_yX0_runClocks : Cond.instanceMethod yX0_runClocks ∈ lw_all := List.mem_filter.mpr ⟨List.mem_append_right _ (List.mem_of_getElem? (i := 162) (by decide +kernel)), by decide⟩
theorem wo_yX0_runClocks : Cond.selects yX0_runClocks.cls yX0_runClocks yX0_runClocks ∈ lw_all := List.mem_filter.mpr ⟨List.mem_append_right _ (List.mem_of_getElem? (i := 163) (by decide +kernel)), by decide⟩
theorem wk_yX0_runClocks : Cond.code yX0_runClocks cX0_runClocks 2 none ∈ lw_all := List.mem_filter.mpr ⟨List.mem_append_right _ (List.mem_of_getElem? (i := 164) (by decide +kernel)), by decide⟩
theorem wm_X0_86 : Cond.methodLink RX0 86 yX0_stand ∈ lw_all := List.mem_filter.mpr ⟨List.mem_append_right _ (List.mem_of_getElem? (i := 165) (by decide +kernel)), by decide⟩
theorem wn_yX0_stand : Cond.instanceMethod yX0_stand ∈ lw_all := List.mem_filter.mpr ⟨List.mem_append_right _ (List.mem_of_getElem? (i := 166) (by decide +kernel)), by decide⟩
theorem wo_yX0_stand : Cond.selects yX0_stand.cls yX0_stand yX0_stand ∈ lw_all := List.mem_filter.mpr ⟨List.mem_append_right _ (List.mem_of_getElem? (i := 167) (by decide +kernel)), by decide⟩
theorem wk_yX0_stand : Cond.code yX0_stand cX0_stand 4 none ∈ lw_all := List.mem_filter.mpr ⟨List.mem_append_right _ (List.mem_of_getElem? (i := 168) (by decide +kernel)), by decide⟩
theorem wm_X0_99 : Cond.methodLink RX0 99 yX0_hear ∈ lw_all := List.mem_filter.mpr ⟨List.mem_append_right _ (List.mem_of_getElem? (i := 169) (by decide +kernel)), by decide⟩
theorem wn_yX0_hear : Cond.instanceMethod yX0_hear ∈ lw_all := List.mem_filter.mpr ⟨List.mem_append_right _ (List.mem_of_getElem? (i := 170) (by decide +kernel)), by decide⟩
theorem wo_yX0_hear : Cond.selects yX0_hear.cls yX0_hear yX0_hear ∈ lw_all := List.mem_filter.mpr ⟨List.mem_append_right _ (List.mem_of_getElem? (i := 171) (by decide +kernel)), by decide⟩
theorem wk_yX0_hear : Cond.code yX0_hear cX0_hear 3 (some .boolean) ∈ lw_all := List.mem_filter.mpr ⟨List.mem_append_right _ (List.mem_of_getElem? (i := 172) (by decide +kernel)), by decide⟩
theorem wm_X0_103 : Cond.methodLink RX0 103 yX0_givesVote ∈ lw_all := List.mem_filter.mpr ⟨List.mem_append_right _ (List.mem_of_getElem? (i := 173) (by decide +kernel)), by decide⟩
theorem wn_yX0_givesVote : Cond.instanceMethod yX0_givesVote ∈ lw_all := List.mem_filter.mpr ⟨List.mem_append_right _ (List.mem_of_getElem? (i := 174) (by decide +kernel)), by decide⟩
theorem wo_yX0_givesVote : Cond.selects yX0_givesVote.cls yX0_givesVote yX0_givesVote ∈ lw_all := List.mem_filter.mpr ⟨List.mem_append_right _ (List.mem_of_getElem? (i := 175) (by decide +kernel)), by decide⟩
theorem wk_yX0_givesVote : Cond.code yX0_givesVote cX0_givesVote 4 (some .boolean) ∈ lw_all := List.mem_filter.mpr ⟨List.mem_append_right _ (List.mem_of_getElem? (i := 176) (by decide +kernel)), by decide⟩
theorem wm_X0_109 : Cond.methodLink RX0 109 yX0_meetTerms ∈ lw_all := List.mem_filter.mpr ⟨List.mem_append_right _ (List.mem_of_getElem? (i := 177) (by decide +kernel)), by decide⟩
theorem wn_yX0_meetTerms : Cond.instanceMethod yX0_meetTerms ∈ lw_all := List.mem_filter.mpr ⟨List.mem_append_right _ (List.mem_of_getElem? (i := 178) (by decide +kernel)), by decide⟩
theorem wo_yX0_meetTerms : Cond.selects yX0_meetTerms.cls yX0_meetTerms yX0_meetTerms ∈ lw_all := List.mem_filter.mpr ⟨List.mem_append_right _ (List.mem_of_getElem? (i := 179) (by decide +kernel)), by decide⟩
theorem wk_yX0_meetTerms : Cond.code yX0_meetTerms cX0_meetTerms 3 (some .boolean) ∈ lw_all := List.mem_filter.mpr ⟨List.mem_append_right _ (List.mem_of_getElem? (i := 180) (by decide +kernel)), by decide⟩
theorem wm_X0_125 : Cond.methodLink RX0 125 yX0_takeTerm ∈ lw_all := List.mem_filter.mpr ⟨List.mem_append_right _ (List.mem_of_getElem? (i := 181) (by decide +kernel)), by decide⟩
theorem wn_yX0_takeTerm : Cond.instanceMethod yX0_takeTerm ∈ lw_all := List.mem_filter.mpr ⟨List.mem_append_right _ (List.mem_of_getElem? (i := 182) (by decide +kernel)), by decide⟩
theorem wo_yX0_takeTerm : Cond.selects yX0_takeTerm.cls yX0_takeTerm yX0_takeTerm ∈ lw_all := List.mem_filter.mpr ⟨List.mem_append_right _ (List.mem_of_getElem? (i := 183) (by decide +kernel)), by decide⟩
theorem wk_yX0_takeTerm : Cond.code yX0_takeTerm cX0_takeTerm 3 none ∈ lw_all := List.mem_filter.mpr ⟨List.mem_append_right _ (List.mem_of_getElem? (i := 184) (by decide +kernel)), by decide⟩
theorem wm_X0_112 : Cond.methodLink RX0 112 yX1_asNew ∈ lw_all := List.mem_filter.mpr ⟨List.mem_append_right _ (List.mem_of_getElem? (i := 185) (by decide +kernel)), by decide⟩
theorem wn_yX1_asNew : Cond.instanceMethod yX1_asNew ∈ lw_all := List.mem_filter.mpr ⟨List.mem_append_right _ (List.mem_of_getElem? (i := 186) (by decide +kernel)), by decide⟩
theorem wo_yX1_asNew : Cond.selects yX1_asNew.cls yX1_asNew yX1_asNew ∈ lw_all := List.mem_filter.mpr ⟨List.mem_append_right _ (List.mem_of_getElem? (i := 187) (by decide +kernel)), by decide⟩
theorem wk_yX1_asNew : Cond.code yX1_asNew cX1_asNew 5 (some .boolean) ∈ lw_all := List.mem_filter.mpr ⟨List.mem_append_right _ (List.mem_of_getElem? (i := 188) (by decide +kernel)), by decide⟩
theorem wm_X1_36 : Cond.methodLink RX1 36 yX1_lastTerm ∈ lw_all := List.mem_filter.mpr ⟨List.mem_append_right _ (List.mem_of_getElem? (i := 189) (by decide +kernel)), by decide⟩
theorem wn_yX1_lastTerm : Cond.instanceMethod yX1_lastTerm ∈ lw_all := List.mem_filter.mpr ⟨List.mem_append_right _ (List.mem_of_getElem? (i := 190) (by decide +kernel)), by decide⟩
theorem wo_yX1_lastTerm : Cond.selects yX1_lastTerm.cls yX1_lastTerm yX1_lastTerm ∈ lw_all := List.mem_filter.mpr ⟨List.mem_append_right _ (List.mem_of_getElem? (i := 191) (by decide +kernel)), by decide⟩
theorem wk_yX1_lastTerm : Cond.code yX1_lastTerm cX1_lastTerm 2 (some .int) ∈ lw_all := List.mem_filter.mpr ⟨List.mem_append_right _ (List.mem_of_getElem? (i := 192) (by decide +kernel)), by decide⟩
theorem wm_X0_80 : Cond.methodLink RX0 80 yX0_tellAll ∈ lw_all := List.mem_filter.mpr ⟨List.mem_append_right _ (List.mem_of_getElem? (i := 193) (by decide +kernel)), by decide⟩
theorem wn_yX0_tellAll : Cond.instanceMethod yX0_tellAll ∈ lw_all := List.mem_filter.mpr ⟨List.mem_append_right _ (List.mem_of_getElem? (i := 194) (by decide +kernel)), by decide⟩
theorem wo_yX0_tellAll : Cond.selects yX0_tellAll.cls yX0_tellAll yX0_tellAll ∈ lw_all := List.mem_filter.mpr ⟨List.mem_append_right _ (List.mem_of_getElem? (i := 195) (by decide +kernel)), by decide⟩
theorem wk_yX0_tellAll : Cond.code yX0_tellAll cX0_tellAll 2 none ∈ lw_all := List.mem_filter.mpr ⟨List.mem_append_right _ (List.mem_of_getElem? (i := 196) (by decide +kernel)), by decide⟩
theorem wm_X0_93 : Cond.methodLink RX0 93 yX0_tellOthers ∈ lw_all := List.mem_filter.mpr ⟨List.mem_append_right _ (List.mem_of_getElem? (i := 197) (by decide +kernel)), by decide⟩
theorem wn_yX0_tellOthers : Cond.instanceMethod yX0_tellOthers ∈ lw_all := List.mem_filter.mpr ⟨List.mem_append_right _ (List.mem_of_getElem? (i := 198) (by decide +kernel)), by decide⟩
theorem wo_yX0_tellOthers : Cond.selects yX0_tellOthers.cls yX0_tellOthers yX0_tellOthers ∈ lw_all := List.mem_filter.mpr ⟨List.mem_append_right _ (List.mem_of_getElem? (i := 199) (by decide +kernel)), by decide⟩
theorem wk_yX0_tellOthers : Cond.code yX0_tellOthers cX0_tellOthers 3 none ∈ lw_all := List.mem_filter.mpr ⟨List.mem_append_right _ (List.mem_of_getElem? (i := 200) (by decide +kernel)), by decide⟩
theorem wm_X0_115 : Cond.methodLink RX0 115 yX0_tell ∈ lw_all := List.mem_filter.mpr ⟨List.mem_append_right _ (List.mem_of_getElem? (i := 201) (by decide +kernel)), by decide⟩
theorem wn_yX0_tell : Cond.instanceMethod yX0_tell ∈ lw_all := List.mem_filter.mpr ⟨List.mem_append_right _ (List.mem_of_getElem? (i := 202) (by decide +kernel)), by decide⟩
theorem wo_yX0_tell : Cond.selects yX0_tell.cls yX0_tell yX0_tell ∈ lw_all := List.mem_filter.mpr ⟨List.mem_append_right _ (List.mem_of_getElem? (i := 203) (by decide +kernel)), by decide⟩
theorem wk_yX0_tell : Cond.code yX0_tell cX0_tell 3 none ∈ lw_all := List.mem_filter.mpr ⟨List.mem_append_right _ (List.mem_of_getElem? (i := 204) (by decide +kernel)), by decide⟩
theorem wm_X0_119 : Cond.methodLink RX0 119 yX1_mend ∈ lw_all := List.mem_filter.mpr ⟨List.mem_append_right _ (List.mem_of_getElem? (i := 205) (by decide +kernel)), by decide⟩
theorem wn_yX1_mend : Cond.instanceMethod yX1_mend ∈ lw_all := List.mem_filter.mpr ⟨List.mem_append_right _ (List.mem_of_getElem? (i := 206) (by decide +kernel)), by decide⟩
theorem wo_yX1_mend : Cond.selects yX1_mend.cls yX1_mend yX1_mend ∈ lw_all := List.mem_filter.mpr ⟨List.mem_append_right _ (List.mem_of_getElem? (i := 207) (by decide +kernel)), by decide⟩
theorem wk_yX1_mend : Cond.code yX1_mend cX1_mend 4 (some .boolean) ∈ lw_all := List.mem_filter.mpr ⟨List.mem_append_right _ (List.mem_of_getElem? (i := 208) (by decide +kernel)), by decide⟩
theorem wm_X1_40 : Cond.methodLink RX1 40 yX1_agreement ∈ lw_all := List.mem_filter.mpr ⟨List.mem_append_right _ (List.mem_of_getElem? (i := 209) (by decide +kernel)), by decide⟩
theorem wn_yX1_agreement : Cond.instanceMethod yX1_agreement ∈ lw_all := List.mem_filter.mpr ⟨List.mem_append_right _ (List.mem_of_getElem? (i := 210) (by decide +kernel)), by decide⟩
theorem wo_yX1_agreement : Cond.selects yX1_agreement.cls yX1_agreement yX1_agreement ∈ lw_all := List.mem_filter.mpr ⟨List.mem_append_right _ (List.mem_of_getElem? (i := 211) (by decide +kernel)), by decide⟩
theorem wk_yX1_agreement : Cond.code yX1_agreement cX1_agreement 7 (some .int) ∈ lw_all := List.mem_filter.mpr ⟨List.mem_append_right _ (List.mem_of_getElem? (i := 212) (by decide +kernel)), by decide⟩
theorem wm_X1_30 : Cond.methodLink RX1 30 yJ9_min_7cf53 ∈ lw_all := List.mem_filter.mpr ⟨List.mem_append_right _ (List.mem_of_getElem? (i := 213) (by decide +kernel)), by decide⟩
theorem wm_X1_43 : Cond.methodLink RX1 43 yX1_loseLast ∈ lw_all := List.mem_filter.mpr ⟨List.mem_append_right _ (List.mem_of_getElem? (i := 214) (by decide +kernel)), by decide⟩
theorem wn_yX1_loseLast : Cond.instanceMethod yX1_loseLast ∈ lw_all := List.mem_filter.mpr ⟨List.mem_append_right _ (List.mem_of_getElem? (i := 215) (by decide +kernel)), by decide⟩
theorem wo_yX1_loseLast : Cond.selects yX1_loseLast.cls yX1_loseLast yX1_loseLast ∈ lw_all := List.mem_filter.mpr ⟨List.mem_append_right _ (List.mem_of_getElem? (i := 216) (by decide +kernel)), by decide⟩
theorem wk_yX1_loseLast : Cond.code yX1_loseLast cX1_loseLast 2 none ∈ lw_all := List.mem_filter.mpr ⟨List.mem_append_right _ (List.mem_of_getElem? (i := 217) (by decide +kernel)), by decide⟩
theorem wm_X1_47 : Cond.methodLink RX1 47 yX1_termAt ∈ lw_all := List.mem_filter.mpr ⟨List.mem_append_right _ (List.mem_of_getElem? (i := 218) (by decide +kernel)), by decide⟩
theorem wn_yX1_termAt : Cond.instanceMethod yX1_termAt ∈ lw_all := List.mem_filter.mpr ⟨List.mem_append_right _ (List.mem_of_getElem? (i := 219) (by decide +kernel)), by decide⟩
theorem wo_yX1_termAt : Cond.selects yX1_termAt.cls yX1_termAt yX1_termAt ∈ lw_all := List.mem_filter.mpr ⟨List.mem_append_right _ (List.mem_of_getElem? (i := 220) (by decide +kernel)), by decide⟩
theorem wk_yX1_termAt : Cond.code yX1_termAt cX1_termAt 3 (some .int) ∈ lw_all := List.mem_filter.mpr ⟨List.mem_append_right _ (List.mem_of_getElem? (i := 221) (by decide +kernel)), by decide⟩
theorem wm_X1_50 : Cond.methodLink RX1 50 yX1_fishAt ∈ lw_all := List.mem_filter.mpr ⟨List.mem_append_right _ (List.mem_of_getElem? (i := 222) (by decide +kernel)), by decide⟩
theorem wn_yX1_fishAt : Cond.instanceMethod yX1_fishAt ∈ lw_all := List.mem_filter.mpr ⟨List.mem_append_right _ (List.mem_of_getElem? (i := 223) (by decide +kernel)), by decide⟩
theorem wo_yX1_fishAt : Cond.selects yX1_fishAt.cls yX1_fishAt yX1_fishAt ∈ lw_all := List.mem_filter.mpr ⟨List.mem_append_right _ (List.mem_of_getElem? (i := 224) (by decide +kernel)), by decide⟩
theorem wk_yX1_fishAt : Cond.code yX1_fishAt cX1_fishAt 3 (some .int) ∈ lw_all := List.mem_filter.mpr ⟨List.mem_append_right _ (List.mem_of_getElem? (i := 225) (by decide +kernel)), by decide⟩
theorem wm_X1_53 : Cond.methodLink RX1 53 yX1_append ∈ lw_all := List.mem_filter.mpr ⟨List.mem_append_right _ (List.mem_of_getElem? (i := 226) (by decide +kernel)), by decide⟩
theorem wn_yX1_append : Cond.instanceMethod yX1_append ∈ lw_all := List.mem_filter.mpr ⟨List.mem_append_right _ (List.mem_of_getElem? (i := 227) (by decide +kernel)), by decide⟩
theorem wo_yX1_append : Cond.selects yX1_append.cls yX1_append yX1_append ∈ lw_all := List.mem_filter.mpr ⟨List.mem_append_right _ (List.mem_of_getElem? (i := 228) (by decide +kernel)), by decide⟩
theorem wk_yX1_append : Cond.code yX1_append cX1_append 5 none ∈ lw_all := List.mem_filter.mpr ⟨List.mem_append_right _ (List.mem_of_getElem? (i := 229) (by decide +kernel)), by decide⟩
theorem wm_X0_122 : Cond.methodLink RX0 122 yX1_learnCommitted ∈ lw_all := List.mem_filter.mpr ⟨List.mem_append_right _ (List.mem_of_getElem? (i := 230) (by decide +kernel)), by decide⟩
theorem wn_yX1_learnCommitted : Cond.instanceMethod yX1_learnCommitted ∈ lw_all := List.mem_filter.mpr ⟨List.mem_append_right _ (List.mem_of_getElem? (i := 231) (by decide +kernel)), by decide⟩
theorem wo_yX1_learnCommitted : Cond.selects yX1_learnCommitted.cls yX1_learnCommitted yX1_learnCommitted ∈ lw_all := List.mem_filter.mpr ⟨List.mem_append_right _ (List.mem_of_getElem? (i := 232) (by decide +kernel)), by decide⟩
theorem wk_yX1_learnCommitted : Cond.code yX1_learnCommitted cX1_learnCommitted 4 none ∈ lw_all := List.mem_filter.mpr ⟨List.mem_append_right _ (List.mem_of_getElem? (i := 233) (by decide +kernel)), by decide⟩
theorem wm_X1_57 : Cond.methodLink RX1 57 yJ9_max_7cf53 ∈ lw_all := List.mem_filter.mpr ⟨List.mem_append_right _ (List.mem_of_getElem? (i := 234) (by decide +kernel)), by decide⟩
theorem wm_X0_83 : Cond.methodLink RX0 83 yX0_commitAll ∈ lw_all := List.mem_filter.mpr ⟨List.mem_append_right _ (List.mem_of_getElem? (i := 235) (by decide +kernel)), by decide⟩
theorem wn_yX0_commitAll : Cond.instanceMethod yX0_commitAll ∈ lw_all := List.mem_filter.mpr ⟨List.mem_append_right _ (List.mem_of_getElem? (i := 236) (by decide +kernel)), by decide⟩
theorem wo_yX0_commitAll : Cond.selects yX0_commitAll.cls yX0_commitAll yX0_commitAll ∈ lw_all := List.mem_filter.mpr ⟨List.mem_append_right _ (List.mem_of_getElem? (i := 237) (by decide +kernel)), by decide⟩
theorem wk_yX0_commitAll : Cond.code yX0_commitAll cX0_commitAll 2 none ∈ lw_all := List.mem_filter.mpr ⟨List.mem_append_right _ (List.mem_of_getElem? (i := 238) (by decide +kernel)), by decide⟩
theorem wm_X0_96 : Cond.methodLink RX0 96 yX0_commit ∈ lw_all := List.mem_filter.mpr ⟨List.mem_append_right _ (List.mem_of_getElem? (i := 239) (by decide +kernel)), by decide⟩
theorem wn_yX0_commit : Cond.instanceMethod yX0_commit ∈ lw_all := List.mem_filter.mpr ⟨List.mem_append_right _ (List.mem_of_getElem? (i := 240) (by decide +kernel)), by decide⟩
theorem wo_yX0_commit : Cond.selects yX0_commit.cls yX0_commit yX0_commit ∈ lw_all := List.mem_filter.mpr ⟨List.mem_append_right _ (List.mem_of_getElem? (i := 241) (by decide +kernel)), by decide⟩
theorem wk_yX0_commit : Cond.code yX0_commit cX0_commit 3 none ∈ lw_all := List.mem_filter.mpr ⟨List.mem_append_right _ (List.mem_of_getElem? (i := 242) (by decide +kernel)), by decide⟩
theorem wm_X0_131 : Cond.methodLink RX0 131 yX1_termAt ∈ lw_all := List.mem_filter.mpr ⟨List.mem_append_right _ (List.mem_of_getElem? (i := 243) (by decide +kernel)), by decide⟩
theorem wm_X0_134 : Cond.methodLink RX0 134 yX0_hearersThatAgree ∈ lw_all := List.mem_filter.mpr ⟨List.mem_append_right _ (List.mem_of_getElem? (i := 244) (by decide +kernel)), by decide⟩
theorem wn_yX0_hearersThatAgree : Cond.instanceMethod yX0_hearersThatAgree ∈ lw_all := List.mem_filter.mpr ⟨List.mem_append_right _ (List.mem_of_getElem? (i := 245) (by decide +kernel)), by decide⟩
theorem wo_yX0_hearersThatAgree : Cond.selects yX0_hearersThatAgree.cls yX0_hearersThatAgree yX0_hearersThatAgree ∈ lw_all := List.mem_filter.mpr ⟨List.mem_append_right _ (List.mem_of_getElem? (i := 246) (by decide +kernel)), by decide⟩
theorem wk_yX0_hearersThatAgree : Cond.code yX0_hearersThatAgree cX0_hearersThatAgree 5 (some .int) ∈ lw_all := List.mem_filter.mpr ⟨List.mem_append_right _ (List.mem_of_getElem? (i := 247) (by decide +kernel)), by decide⟩
theorem wm_X0_137 : Cond.methodLink RX0 137 yX1_agreement ∈ lw_all := List.mem_filter.mpr ⟨List.mem_append_right _ (List.mem_of_getElem? (i := 248) (by decide +kernel)), by decide⟩
theorem wm_L_125 : Cond.methodLink RL 125 yX2_mean ∈ lw_all := List.mem_filter.mpr ⟨List.mem_append_right _ (List.mem_of_getElem? (i := 249) (by decide +kernel)), by decide⟩
theorem wn_yX2_mean : Cond.instanceMethod yX2_mean ∈ lw_all := List.mem_filter.mpr ⟨List.mem_append_right _ (List.mem_of_getElem? (i := 250) (by decide +kernel)), by decide⟩
theorem wo_yX2_mean : Cond.selects yX2_mean.cls yX2_mean yX2_mean ∈ lw_all := List.mem_filter.mpr ⟨List.mem_append_right _ (List.mem_of_getElem? (i := 251) (by decide +kernel)), by decide⟩
theorem wk_yX2_mean : Cond.code yX2_mean cX2_mean 3 (some .double) ∈ lw_all := List.mem_filter.mpr ⟨List.mem_append_right _ (List.mem_of_getElem? (i := 252) (by decide +kernel)), by decide⟩
theorem wm_L_130 : Cond.methodLink RL 130 yX2_digest ∈ lw_all := List.mem_filter.mpr ⟨List.mem_append_right _ (List.mem_of_getElem? (i := 253) (by decide +kernel)), by decide⟩
theorem wn_yX2_digest : Cond.instanceMethod yX2_digest ∈ lw_all := List.mem_filter.mpr ⟨List.mem_append_right _ (List.mem_of_getElem? (i := 254) (by decide +kernel)), by decide⟩
theorem wo_yX2_digest : Cond.selects yX2_digest.cls yX2_digest yX2_digest ∈ lw_all := List.mem_filter.mpr ⟨List.mem_append_right _ (List.mem_of_getElem? (i := 255) (by decide +kernel)), by decide⟩
theorem wk_yX2_digest : Cond.code yX2_digest cX2_digest 4 (some .long) ∈ lw_all := List.mem_filter.mpr ⟨List.mem_append_right _ (List.mem_of_getElem? (i := 256) (by decide +kernel)), by decide⟩
theorem wc_X2_145 : Cond.constantLong RX2 145 (1759) ∈ lw_all := List.mem_filter.mpr ⟨List.mem_append_right _ (List.mem_of_getElem? (i := 257) (by decide +kernel)), by decide⟩
theorem wc_X2_147 : Cond.constantLong RX2 147 (31) ∈ lw_all := List.mem_filter.mpr ⟨List.mem_append_right _ (List.mem_of_getElem? (i := 258) (by decide +kernel)), by decide⟩
theorem wm_X2_110 : Cond.methodLink RX2 110 yX0_ofFleet ∈ lw_all := List.mem_filter.mpr ⟨List.mem_append_right _ (List.mem_of_getElem? (i := 259) (by decide +kernel)), by decide⟩
theorem wn_yX0_ofFleet : Cond.instanceMethod yX0_ofFleet ∈ lw_all := List.mem_filter.mpr ⟨List.mem_append_right _ (List.mem_of_getElem? (i := 260) (by decide +kernel)), by decide⟩
theorem wo_yX0_ofFleet : Cond.selects yX0_ofFleet.cls yX0_ofFleet yX0_ofFleet ∈ lw_all := List.mem_filter.mpr ⟨List.mem_append_right _ (List.mem_of_getElem? (i := 261) (by decide +kernel)), by decide⟩
theorem wk_yX0_ofFleet : Cond.code yX0_ofFleet cX0_ofFleet 2 (some .int) ∈ lw_all := List.mem_filter.mpr ⟨List.mem_append_right _ (List.mem_of_getElem? (i := 262) (by decide +kernel)), by decide⟩
theorem wm_X0_153 : Cond.methodLink RX0 153 yX0_boatsUp ∈ lw_all := List.mem_filter.mpr ⟨List.mem_append_right _ (List.mem_of_getElem? (i := 263) (by decide +kernel)), by decide⟩
theorem wn_yX0_boatsUp : Cond.instanceMethod yX0_boatsUp ∈ lw_all := List.mem_filter.mpr ⟨List.mem_append_right _ (List.mem_of_getElem? (i := 264) (by decide +kernel)), by decide⟩
theorem wo_yX0_boatsUp : Cond.selects yX0_boatsUp.cls yX0_boatsUp yX0_boatsUp ∈ lw_all := List.mem_filter.mpr ⟨List.mem_append_right _ (List.mem_of_getElem? (i := 265) (by decide +kernel)), by decide⟩
theorem wk_yX0_boatsUp : Cond.code yX0_boatsUp cX0_boatsUp 3 (some .int) ∈ lw_all := List.mem_filter.mpr ⟨List.mem_append_right _ (List.mem_of_getElem? (i := 266) (by decide +kernel)), by decide⟩
theorem wm_X0_157 : Cond.methodLink RX0 157 yX0_boatsLeading ∈ lw_all := List.mem_filter.mpr ⟨List.mem_append_right _ (List.mem_of_getElem? (i := 267) (by decide +kernel)), by decide⟩
theorem wn_yX0_boatsLeading : Cond.instanceMethod yX0_boatsLeading ∈ lw_all := List.mem_filter.mpr ⟨List.mem_append_right _ (List.mem_of_getElem? (i := 268) (by decide +kernel)), by decide⟩
theorem wo_yX0_boatsLeading : Cond.selects yX0_boatsLeading.cls yX0_boatsLeading yX0_boatsLeading ∈ lw_all := List.mem_filter.mpr ⟨List.mem_append_right _ (List.mem_of_getElem? (i := 269) (by decide +kernel)), by decide⟩
theorem wk_yX0_boatsLeading : Cond.code yX0_boatsLeading cX0_boatsLeading 3 (some .int) ∈ lw_all := List.mem_filter.mpr ⟨List.mem_append_right _ (List.mem_of_getElem? (i := 270) (by decide +kernel)), by decide⟩
theorem wm_X0_160 : Cond.methodLink RX0 160 yX0_greatestTerm ∈ lw_all := List.mem_filter.mpr ⟨List.mem_append_right _ (List.mem_of_getElem? (i := 271) (by decide +kernel)), by decide⟩
theorem wn_yX0_greatestTerm : Cond.instanceMethod yX0_greatestTerm ∈ lw_all := List.mem_filter.mpr ⟨List.mem_append_right _ (List.mem_of_getElem? (i := 272) (by decide +kernel)), by decide⟩
theorem wo_yX0_greatestTerm : Cond.selects yX0_greatestTerm.cls yX0_greatestTerm yX0_greatestTerm ∈ lw_all := List.mem_filter.mpr ⟨List.mem_append_right _ (List.mem_of_getElem? (i := 273) (by decide +kernel)), by decide⟩
theorem wk_yX0_greatestTerm : Cond.code yX0_greatestTerm cX0_greatestTerm 3 (some .int) ∈ lw_all := List.mem_filter.mpr ⟨List.mem_append_right _ (List.mem_of_getElem? (i := 274) (by decide +kernel)), by decide⟩
theorem wm_X0_163 : Cond.methodLink RX0 163 yX0_mostKnown ∈ lw_all := List.mem_filter.mpr ⟨List.mem_append_right _ (List.mem_of_getElem? (i := 275) (by decide +kernel)), by decide⟩
theorem wn_yX0_mostKnown : Cond.instanceMethod yX0_mostKnown ∈ lw_all := List.mem_filter.mpr ⟨List.mem_append_right _ (List.mem_of_getElem? (i := 276) (by decide +kernel)), by decide⟩
theorem wo_yX0_mostKnown : Cond.selects yX0_mostKnown.cls yX0_mostKnown yX0_mostKnown ∈ lw_all := List.mem_filter.mpr ⟨List.mem_append_right _ (List.mem_of_getElem? (i := 277) (by decide +kernel)), by decide⟩
theorem wk_yX0_mostKnown : Cond.code yX0_mostKnown cX0_mostKnown 3 (some .int) ∈ lw_all := List.mem_filter.mpr ⟨List.mem_append_right _ (List.mem_of_getElem? (i := 278) (by decide +kernel)), by decide⟩
theorem wm_X0_166 : Cond.methodLink RX0 166 yX0_fewestKnown ∈ lw_all := List.mem_filter.mpr ⟨List.mem_append_right _ (List.mem_of_getElem? (i := 279) (by decide +kernel)), by decide⟩
theorem wn_yX0_fewestKnown : Cond.instanceMethod yX0_fewestKnown ∈ lw_all := List.mem_filter.mpr ⟨List.mem_append_right _ (List.mem_of_getElem? (i := 280) (by decide +kernel)), by decide⟩
theorem wo_yX0_fewestKnown : Cond.selects yX0_fewestKnown.cls yX0_fewestKnown yX0_fewestKnown ∈ lw_all := List.mem_filter.mpr ⟨List.mem_append_right _ (List.mem_of_getElem? (i := 281) (by decide +kernel)), by decide⟩
theorem wk_yX0_fewestKnown : Cond.code yX0_fewestKnown cX0_fewestKnown 3 (some .int) ∈ lw_all := List.mem_filter.mpr ⟨List.mem_append_right _ (List.mem_of_getElem? (i := 282) (by decide +kernel)), by decide⟩
theorem wm_X2_149 : Cond.methodLink RX2 149 yX2_digestOfBoat ∈ lw_all := List.mem_filter.mpr ⟨List.mem_append_right _ (List.mem_of_getElem? (i := 283) (by decide +kernel)), by decide⟩
theorem wn_yX2_digestOfBoat : Cond.instanceMethod yX2_digestOfBoat ∈ lw_all := List.mem_filter.mpr ⟨List.mem_append_right _ (List.mem_of_getElem? (i := 285) (by decide +kernel)), by decide⟩
theorem wk_yX2_digestOfBoat : Cond.code yX2_digestOfBoat cX2_digestOfBoat 8 (some .long) ∈ lw_all := List.mem_filter.mpr ⟨List.mem_append_right _ (List.mem_of_getElem? (i := 286) (by decide +kernel)), by decide⟩
theorem wm_X2_92 : Cond.methodLink RX2 92 yX0_ofBoat ∈ lw_all := List.mem_filter.mpr ⟨List.mem_append_right _ (List.mem_of_getElem? (i := 287) (by decide +kernel)), by decide⟩
theorem wn_yX0_ofBoat : Cond.instanceMethod yX0_ofBoat ∈ lw_all := List.mem_filter.mpr ⟨List.mem_append_right _ (List.mem_of_getElem? (i := 288) (by decide +kernel)), by decide⟩
theorem wo_yX0_ofBoat : Cond.selects yX0_ofBoat.cls yX0_ofBoat yX0_ofBoat ∈ lw_all := List.mem_filter.mpr ⟨List.mem_append_right _ (List.mem_of_getElem? (i := 289) (by decide +kernel)), by decide⟩
theorem wk_yX0_ofBoat : Cond.code yX0_ofBoat cX0_ofBoat 3 (some .int) ∈ lw_all := List.mem_filter.mpr ⟨List.mem_append_right _ (List.mem_of_getElem? (i := 290) (by decide +kernel)), by decide⟩
theorem wm_X0_144 : Cond.methodLink RX0 144 yX1_lastTerm ∈ lw_all := List.mem_filter.mpr ⟨List.mem_append_right _ (List.mem_of_getElem? (i := 291) (by decide +kernel)), by decide⟩
theorem wm_X2_96 : Cond.methodLink RX2 96 yX0_ofEntry ∈ lw_all := List.mem_filter.mpr ⟨List.mem_append_right _ (List.mem_of_getElem? (i := 292) (by decide +kernel)), by decide⟩
theorem wn_yX0_ofEntry : Cond.instanceMethod yX0_ofEntry ∈ lw_all := List.mem_filter.mpr ⟨List.mem_append_right _ (List.mem_of_getElem? (i := 293) (by decide +kernel)), by decide⟩
theorem wo_yX0_ofEntry : Cond.selects yX0_ofEntry.cls yX0_ofEntry yX0_ofEntry ∈ lw_all := List.mem_filter.mpr ⟨List.mem_append_right _ (List.mem_of_getElem? (i := 294) (by decide +kernel)), by decide⟩
theorem wk_yX0_ofEntry : Cond.code yX0_ofEntry cX0_ofEntry 4 (some .int) ∈ lw_all := List.mem_filter.mpr ⟨List.mem_append_right _ (List.mem_of_getElem? (i := 295) (by decide +kernel)), by decide⟩
theorem wm_X0_147 : Cond.methodLink RX0 147 yX1_fishAt ∈ lw_all := List.mem_filter.mpr ⟨List.mem_append_right _ (List.mem_of_getElem? (i := 296) (by decide +kernel)), by decide⟩
theorem wm_X0_150 : Cond.methodLink RX0 150 yX0_boatsThatAgree ∈ lw_all := List.mem_filter.mpr ⟨List.mem_append_right _ (List.mem_of_getElem? (i := 297) (by decide +kernel)), by decide⟩
theorem wn_yX0_boatsThatAgree : Cond.instanceMethod yX0_boatsThatAgree ∈ lw_all := List.mem_filter.mpr ⟨List.mem_append_right _ (List.mem_of_getElem? (i := 298) (by decide +kernel)), by decide⟩
theorem wo_yX0_boatsThatAgree : Cond.selects yX0_boatsThatAgree.cls yX0_boatsThatAgree yX0_boatsThatAgree ∈ lw_all := List.mem_filter.mpr ⟨List.mem_append_right _ (List.mem_of_getElem? (i := 299) (by decide +kernel)), by decide⟩
theorem wk_yX0_boatsThatAgree : Cond.code yX0_boatsThatAgree cX0_boatsThatAgree 5 (some .int) ∈ lw_all := List.mem_filter.mpr ⟨List.mem_append_right _ (List.mem_of_getElem? (i := 300) (by decide +kernel)), by decide⟩
theorem wm_L_66 : Cond.methodLink RL 66 yL_fleet ∈ lw_all := List.mem_filter.mpr ⟨List.mem_append_right _ (List.mem_of_getElem? (i := 301) (by decide +kernel)), by decide⟩
theorem ws_yL_fleet : Cond.static yL_fleet ∈ lw_all := List.mem_filter.mpr ⟨List.mem_append_right _ (List.mem_of_getElem? (i := 302) (by decide +kernel)), by decide⟩
theorem wk_yL_fleet : Cond.codeWith yL_fleet cL_fleet 4 (some .int) [(0, 9, 12, 13)] ∈ lw_all := List.mem_filter.mpr ⟨List.mem_append_right _ (List.mem_of_getElem? (i := 303) (by decide +kernel)), by decide⟩
theorem wl_L_13 : Cond.classLink RL 13 "java/lang/IllegalArgumentException" ∈ lw_all := List.mem_filter.mpr ⟨List.mem_append_right _ (List.mem_of_getElem? (i := 304) (by decide +kernel)), by decide⟩
theorem wm_L_7 : Cond.methodLink RL 7 yX2_fleet ∈ lw_all := List.mem_filter.mpr ⟨List.mem_append_right _ (List.mem_of_getElem? (i := 305) (by decide +kernel)), by decide⟩
theorem wn_yX2_fleet : Cond.instanceMethod yX2_fleet ∈ lw_all := List.mem_filter.mpr ⟨List.mem_append_right _ (List.mem_of_getElem? (i := 306) (by decide +kernel)), by decide⟩
theorem wo_yX2_fleet : Cond.selects yX2_fleet.cls yX2_fleet yX2_fleet ∈ lw_all := List.mem_filter.mpr ⟨List.mem_append_right _ (List.mem_of_getElem? (i := 307) (by decide +kernel)), by decide⟩
theorem wk_yX2_fleet : Cond.code yX2_fleet cX2_fleet 2 (some .int) ∈ lw_all := List.mem_filter.mpr ⟨List.mem_append_right _ (List.mem_of_getElem? (i := 308) (by decide +kernel)), by decide⟩
theorem wl_X2_23 : Cond.classLink RX2 23 "java/lang/IllegalArgumentException" ∈ lw_all := List.mem_filter.mpr ⟨List.mem_append_right _ (List.mem_of_getElem? (i := 309) (by decide +kernel)), by decide⟩
theorem wt_IllegalArgumentException : Cond.castable "java/lang/IllegalArgumentException" "java/lang/IllegalArgumentException" ∈ lw_env := List.mem_filter.mpr ⟨List.mem_append_right _ (List.mem_of_getElem? (i := 311) (by decide +kernel)), by decide⟩
theorem wm_X2_27 : Cond.methodLink RX2 27 (⟨"java/lang/IllegalArgumentException", "<init>", "(Ljava/lang/String;)V"⟩ : MethodName) ∈ lw_all := List.mem_filter.mpr ⟨List.mem_append_right _ (List.mem_of_getElem? (i := 351) (by decide +kernel)), by decide⟩
theorem wa_byte : Cond.arrayClass .byte ∈ lw_all := List.mem_filter.mpr ⟨List.mem_append_right _ (List.mem_of_getElem? (i := 376) (by decide +kernel)), by decide⟩
theorem wm_L_76 : Cond.methodLink RL 76 yL_setPatience ∈ lw_all := List.mem_filter.mpr ⟨List.mem_append_right _ (List.mem_of_getElem? (i := 377) (by decide +kernel)), by decide⟩
theorem ws_yL_setPatience : Cond.static yL_setPatience ∈ lw_all := List.mem_filter.mpr ⟨List.mem_append_right _ (List.mem_of_getElem? (i := 378) (by decide +kernel)), by decide⟩
theorem wk_yL_setPatience : Cond.codeWith yL_setPatience cL_setPatience 5 (some .int) [(0, 10, 13, 19), (0, 10, 17, 13)] ∈ lw_all := List.mem_filter.mpr ⟨List.mem_append_right _ (List.mem_of_getElem? (i := 379) (by decide +kernel)), by decide⟩
theorem wl_L_19 : Cond.classLink RL 19 "java/lang/IndexOutOfBoundsException" ∈ lw_all := List.mem_filter.mpr ⟨List.mem_append_right _ (List.mem_of_getElem? (i := 380) (by decide +kernel)), by decide⟩
theorem wm_L_15 : Cond.methodLink RL 15 yX2_setPatience ∈ lw_all := List.mem_filter.mpr ⟨List.mem_append_right _ (List.mem_of_getElem? (i := 381) (by decide +kernel)), by decide⟩
theorem wn_yX2_setPatience : Cond.instanceMethod yX2_setPatience ∈ lw_all := List.mem_filter.mpr ⟨List.mem_append_right _ (List.mem_of_getElem? (i := 382) (by decide +kernel)), by decide⟩
theorem wo_yX2_setPatience : Cond.selects yX2_setPatience.cls yX2_setPatience yX2_setPatience ∈ lw_all := List.mem_filter.mpr ⟨List.mem_append_right _ (List.mem_of_getElem? (i := 383) (by decide +kernel)), by decide⟩
theorem wk_yX2_setPatience : Cond.code yX2_setPatience cX2_setPatience 4 (some .int) ∈ lw_all := List.mem_filter.mpr ⟨List.mem_append_right _ (List.mem_of_getElem? (i := 384) (by decide +kernel)), by decide⟩
theorem wm_X2_30 : Cond.methodLink RX2 30 yX2_needBoat ∈ lw_all := List.mem_filter.mpr ⟨List.mem_append_right _ (List.mem_of_getElem? (i := 385) (by decide +kernel)), by decide⟩
theorem wn_yX2_needBoat : Cond.instanceMethod yX2_needBoat ∈ lw_all := List.mem_filter.mpr ⟨List.mem_append_right _ (List.mem_of_getElem? (i := 387) (by decide +kernel)), by decide⟩
theorem wk_yX2_needBoat : Cond.code yX2_needBoat cX2_needBoat 2 none ∈ lw_all := List.mem_filter.mpr ⟨List.mem_append_right _ (List.mem_of_getElem? (i := 388) (by decide +kernel)), by decide⟩
theorem wl_X2_131 : Cond.classLink RX2 131 "java/lang/IndexOutOfBoundsException" ∈ lw_all := List.mem_filter.mpr ⟨List.mem_append_right _ (List.mem_of_getElem? (i := 389) (by decide +kernel)), by decide⟩
theorem wt_IndexOutOfBoundsException : Cond.castable "java/lang/IndexOutOfBoundsException" "java/lang/IndexOutOfBoundsException" ∈ lw_env := List.mem_filter.mpr ⟨List.mem_append_right _ (List.mem_of_getElem? (i := 391) (by decide +kernel)), by decide⟩
theorem wm_X2_135 : Cond.methodLink RX2 135 (⟨"java/lang/IndexOutOfBoundsException", "<init>", "(Ljava/lang/String;)V"⟩ : MethodName) ∈ lw_all := List.mem_filter.mpr ⟨List.mem_append_right _ (List.mem_of_getElem? (i := 399) (by decide +kernel)), by decide⟩
theorem wm_L_80 : Cond.methodLink RL 80 yL_go ∈ lw_all := List.mem_filter.mpr ⟨List.mem_append_right _ (List.mem_of_getElem? (i := 406) (by decide +kernel)), by decide⟩
theorem ws_yL_go : Cond.static yL_go ∈ lw_all := List.mem_filter.mpr ⟨List.mem_append_right _ (List.mem_of_getElem? (i := 407) (by decide +kernel)), by decide⟩
theorem wk_yL_go : Cond.codeWith yL_go cL_go 5 (some .int) [(0, 10, 13, 19)] ∈ lw_all := List.mem_filter.mpr ⟨List.mem_append_right _ (List.mem_of_getElem? (i := 408) (by decide +kernel)), by decide⟩
theorem wm_L_21 : Cond.methodLink RL 21 yX2_go ∈ lw_all := List.mem_filter.mpr ⟨List.mem_append_right _ (List.mem_of_getElem? (i := 409) (by decide +kernel)), by decide⟩
theorem wn_yX2_go : Cond.instanceMethod yX2_go ∈ lw_all := List.mem_filter.mpr ⟨List.mem_append_right _ (List.mem_of_getElem? (i := 410) (by decide +kernel)), by decide⟩
theorem wo_yX2_go : Cond.selects yX2_go.cls yX2_go yX2_go ∈ lw_all := List.mem_filter.mpr ⟨List.mem_append_right _ (List.mem_of_getElem? (i := 411) (by decide +kernel)), by decide⟩
theorem wk_yX2_go : Cond.code yX2_go cX2_go 4 (some .int) ∈ lw_all := List.mem_filter.mpr ⟨List.mem_append_right _ (List.mem_of_getElem? (i := 412) (by decide +kernel)), by decide⟩
theorem wm_X2_39 : Cond.methodLink RX2 39 yX2_needBelow ∈ lw_all := List.mem_filter.mpr ⟨List.mem_append_right _ (List.mem_of_getElem? (i := 413) (by decide +kernel)), by decide⟩
theorem wn_yX2_needBelow : Cond.instanceMethod yX2_needBelow ∈ lw_all := List.mem_filter.mpr ⟨List.mem_append_right _ (List.mem_of_getElem? (i := 415) (by decide +kernel)), by decide⟩
theorem wk_yX2_needBelow : Cond.code yX2_needBelow cX2_needBelow 3 none ∈ lw_all := List.mem_filter.mpr ⟨List.mem_append_right _ (List.mem_of_getElem? (i := 416) (by decide +kernel)), by decide⟩
theorem wm_L_83 : Cond.methodLink RL 83 yL_sink ∈ lw_all := List.mem_filter.mpr ⟨List.mem_append_right _ (List.mem_of_getElem? (i := 418) (by decide +kernel)), by decide⟩
theorem ws_yL_sink : Cond.static yL_sink ∈ lw_all := List.mem_filter.mpr ⟨List.mem_append_right _ (List.mem_of_getElem? (i := 419) (by decide +kernel)), by decide⟩
theorem wk_yL_sink : Cond.codeWith yL_sink cL_sink 4 (some .int) [(0, 16, 19, 19)] ∈ lw_all := List.mem_filter.mpr ⟨List.mem_append_right _ (List.mem_of_getElem? (i := 420) (by decide +kernel)), by decide⟩
theorem wm_L_24 : Cond.methodLink RL 24 yX2_sink ∈ lw_all := List.mem_filter.mpr ⟨List.mem_append_right _ (List.mem_of_getElem? (i := 421) (by decide +kernel)), by decide⟩
theorem wn_yX2_sink : Cond.instanceMethod yX2_sink ∈ lw_all := List.mem_filter.mpr ⟨List.mem_append_right _ (List.mem_of_getElem? (i := 422) (by decide +kernel)), by decide⟩
theorem wo_yX2_sink : Cond.selects yX2_sink.cls yX2_sink yX2_sink ∈ lw_all := List.mem_filter.mpr ⟨List.mem_append_right _ (List.mem_of_getElem? (i := 423) (by decide +kernel)), by decide⟩
theorem wk_yX2_sink : Cond.code yX2_sink cX2_sink 2 (some .boolean) ∈ lw_all := List.mem_filter.mpr ⟨List.mem_append_right _ (List.mem_of_getElem? (i := 424) (by decide +kernel)), by decide⟩
theorem wm_X2_50 : Cond.methodLink RX2 50 yX0_raise ∈ lw_all := List.mem_filter.mpr ⟨List.mem_append_right _ (List.mem_of_getElem? (i := 425) (by decide +kernel)), by decide⟩
theorem wn_yX0_raise : Cond.instanceMethod yX0_raise ∈ lw_all := List.mem_filter.mpr ⟨List.mem_append_right _ (List.mem_of_getElem? (i := 426) (by decide +kernel)), by decide⟩
theorem wo_yX0_raise : Cond.selects yX0_raise.cls yX0_raise yX0_raise ∈ lw_all := List.mem_filter.mpr ⟨List.mem_append_right _ (List.mem_of_getElem? (i := 427) (by decide +kernel)), by decide⟩
theorem wk_yX0_raise : Cond.code yX0_raise cX0_raise 2 none ∈ lw_all := List.mem_filter.mpr ⟨List.mem_append_right _ (List.mem_of_getElem? (i := 428) (by decide +kernel)), by decide⟩
theorem wm_L_86 : Cond.methodLink RL 86 yL_write ∈ lw_all := List.mem_filter.mpr ⟨List.mem_append_right _ (List.mem_of_getElem? (i := 429) (by decide +kernel)), by decide⟩
theorem ws_yL_write : Cond.static yL_write ∈ lw_all := List.mem_filter.mpr ⟨List.mem_append_right _ (List.mem_of_getElem? (i := 430) (by decide +kernel)), by decide⟩
theorem wk_yL_write : Cond.codeWith yL_write cL_write 5 (some .int) [(0, 10, 13, 19), (0, 10, 17, 13), (0, 10, 21, 31)] ∈ lw_all := List.mem_filter.mpr ⟨List.mem_append_right _ (List.mem_of_getElem? (i := 431) (by decide +kernel)), by decide⟩
theorem wl_L_31 : Cond.classLink RL 31 "java/lang/IllegalStateException" ∈ lw_all := List.mem_filter.mpr ⟨List.mem_append_right _ (List.mem_of_getElem? (i := 432) (by decide +kernel)), by decide⟩
theorem wm_L_28 : Cond.methodLink RL 28 yX2_write ∈ lw_all := List.mem_filter.mpr ⟨List.mem_append_right _ (List.mem_of_getElem? (i := 433) (by decide +kernel)), by decide⟩
theorem wn_yX2_write : Cond.instanceMethod yX2_write ∈ lw_all := List.mem_filter.mpr ⟨List.mem_append_right _ (List.mem_of_getElem? (i := 434) (by decide +kernel)), by decide⟩
theorem wo_yX2_write : Cond.selects yX2_write.cls yX2_write yX2_write ∈ lw_all := List.mem_filter.mpr ⟨List.mem_append_right _ (List.mem_of_getElem? (i := 435) (by decide +kernel)), by decide⟩
theorem wk_yX2_write : Cond.code yX2_write cX2_write 3 (some .int) ∈ lw_all := List.mem_filter.mpr ⟨List.mem_append_right _ (List.mem_of_getElem? (i := 436) (by decide +kernel)), by decide⟩
theorem wl_X2_59 : Cond.classLink RX2 59 "java/lang/IllegalStateException" ∈ lw_all := List.mem_filter.mpr ⟨List.mem_append_right _ (List.mem_of_getElem? (i := 438) (by decide +kernel)), by decide⟩
theorem wt_IllegalStateException : Cond.castable "java/lang/IllegalStateException" "java/lang/IllegalStateException" ∈ lw_env := List.mem_filter.mpr ⟨List.mem_append_right _ (List.mem_of_getElem? (i := 440) (by decide +kernel)), by decide⟩
theorem wm_X2_63 : Cond.methodLink RX2 63 (⟨"java/lang/IllegalStateException", "<init>", "(Ljava/lang/String;)V"⟩ : MethodName) ∈ lw_all := List.mem_filter.mpr ⟨List.mem_append_right _ (List.mem_of_getElem? (i := 448) (by decide +kernel)), by decide⟩
theorem wm_X2_78 : Cond.methodLink RX2 78 yX1_append ∈ lw_all := List.mem_filter.mpr ⟨List.mem_append_right _ (List.mem_of_getElem? (i := 455) (by decide +kernel)), by decide⟩
theorem wm_L_89 : Cond.methodLink RL 89 yL_pass ∈ lw_all := List.mem_filter.mpr ⟨List.mem_append_right _ (List.mem_of_getElem? (i := 456) (by decide +kernel)), by decide⟩
theorem ws_yL_pass : Cond.static yL_pass ∈ lw_all := List.mem_filter.mpr ⟨List.mem_append_right _ (List.mem_of_getElem? (i := 457) (by decide +kernel)), by decide⟩
theorem wk_yL_pass : Cond.codeWith yL_pass cL_pass 4 (some .int) [(0, 9, 12, 13)] ∈ lw_all := List.mem_filter.mpr ⟨List.mem_append_right _ (List.mem_of_getElem? (i := 458) (by decide +kernel)), by decide⟩
theorem wm_L_33 : Cond.methodLink RL 33 yX2_pass ∈ lw_all := List.mem_filter.mpr ⟨List.mem_append_right _ (List.mem_of_getElem? (i := 459) (by decide +kernel)), by decide⟩
theorem wn_yX2_pass : Cond.instanceMethod yX2_pass ∈ lw_all := List.mem_filter.mpr ⟨List.mem_append_right _ (List.mem_of_getElem? (i := 460) (by decide +kernel)), by decide⟩
theorem wo_yX2_pass : Cond.selects yX2_pass.cls yX2_pass yX2_pass ∈ lw_all := List.mem_filter.mpr ⟨List.mem_append_right _ (List.mem_of_getElem? (i := 461) (by decide +kernel)), by decide⟩
theorem wk_yX2_pass : Cond.code yX2_pass cX2_pass 3 (some .int) ∈ lw_all := List.mem_filter.mpr ⟨List.mem_append_right _ (List.mem_of_getElem? (i := 462) (by decide +kernel)), by decide⟩
theorem wm_X2_82 : Cond.methodLink RX2 82 yX2_needHours ∈ lw_all := List.mem_filter.mpr ⟨List.mem_append_right _ (List.mem_of_getElem? (i := 463) (by decide +kernel)), by decide⟩
theorem wn_yX2_needHours : Cond.instanceMethod yX2_needHours ∈ lw_all := List.mem_filter.mpr ⟨List.mem_append_right _ (List.mem_of_getElem? (i := 465) (by decide +kernel)), by decide⟩
theorem wk_yX2_needHours : Cond.code yX2_needHours cX2_needHours 3 none ∈ lw_all := List.mem_filter.mpr ⟨List.mem_append_right _ (List.mem_of_getElem? (i := 466) (by decide +kernel)), by decide⟩
theorem wm_L_92 : Cond.methodLink RL 92 yL_told ∈ lw_all := List.mem_filter.mpr ⟨List.mem_append_right _ (List.mem_of_getElem? (i := 468) (by decide +kernel)), by decide⟩
theorem ws_yL_told : Cond.static yL_told ∈ lw_all := List.mem_filter.mpr ⟨List.mem_append_right _ (List.mem_of_getElem? (i := 469) (by decide +kernel)), by decide⟩
theorem wk_yL_told : Cond.codeWith yL_told cL_told 5 (some .int) [(0, 10, 13, 19)] ∈ lw_all := List.mem_filter.mpr ⟨List.mem_append_right _ (List.mem_of_getElem? (i := 470) (by decide +kernel)), by decide⟩
theorem wm_L_36 : Cond.methodLink RL 36 yX2_told ∈ lw_all := List.mem_filter.mpr ⟨List.mem_append_right _ (List.mem_of_getElem? (i := 471) (by decide +kernel)), by decide⟩
theorem wn_yX2_told : Cond.instanceMethod yX2_told ∈ lw_all := List.mem_filter.mpr ⟨List.mem_append_right _ (List.mem_of_getElem? (i := 472) (by decide +kernel)), by decide⟩
theorem wo_yX2_told : Cond.selects yX2_told.cls yX2_told yX2_told ∈ lw_all := List.mem_filter.mpr ⟨List.mem_append_right _ (List.mem_of_getElem? (i := 473) (by decide +kernel)), by decide⟩
theorem wk_yX2_told : Cond.code yX2_told cX2_told 3 (some .int) ∈ lw_all := List.mem_filter.mpr ⟨List.mem_append_right _ (List.mem_of_getElem? (i := 474) (by decide +kernel)), by decide⟩
theorem wm_L_95 : Cond.methodLink RL 95 yL_entry ∈ lw_all := List.mem_filter.mpr ⟨List.mem_append_right _ (List.mem_of_getElem? (i := 475) (by decide +kernel)), by decide⟩
theorem ws_yL_entry : Cond.static yL_entry ∈ lw_all := List.mem_filter.mpr ⟨List.mem_append_right _ (List.mem_of_getElem? (i := 476) (by decide +kernel)), by decide⟩
theorem wk_yL_entry : Cond.codeWith yL_entry cL_entry 6 (some .int) [(0, 12, 15, 19)] ∈ lw_all := List.mem_filter.mpr ⟨List.mem_append_right _ (List.mem_of_getElem? (i := 477) (by decide +kernel)), by decide⟩
theorem wm_L_39 : Cond.methodLink RL 39 yX2_entry ∈ lw_all := List.mem_filter.mpr ⟨List.mem_append_right _ (List.mem_of_getElem? (i := 478) (by decide +kernel)), by decide⟩
theorem wn_yX2_entry : Cond.instanceMethod yX2_entry ∈ lw_all := List.mem_filter.mpr ⟨List.mem_append_right _ (List.mem_of_getElem? (i := 479) (by decide +kernel)), by decide⟩
theorem wo_yX2_entry : Cond.selects yX2_entry.cls yX2_entry yX2_entry ∈ lw_all := List.mem_filter.mpr ⟨List.mem_append_right _ (List.mem_of_getElem? (i := 480) (by decide +kernel)), by decide⟩
theorem wk_yX2_entry : Cond.code yX2_entry cX2_entry 4 (some .int) ∈ lw_all := List.mem_filter.mpr ⟨List.mem_append_right _ (List.mem_of_getElem? (i := 481) (by decide +kernel)), by decide⟩
theorem wm_L_99 : Cond.methodLink RL 99 yL_agree ∈ lw_all := List.mem_filter.mpr ⟨List.mem_append_right _ (List.mem_of_getElem? (i := 482) (by decide +kernel)), by decide⟩
theorem ws_yL_agree : Cond.static yL_agree ∈ lw_all := List.mem_filter.mpr ⟨List.mem_append_right _ (List.mem_of_getElem? (i := 483) (by decide +kernel)), by decide⟩
theorem wk_yL_agree : Cond.codeWith yL_agree cL_agree 5 (some .int) [(0, 10, 13, 19)] ∈ lw_all := List.mem_filter.mpr ⟨List.mem_append_right _ (List.mem_of_getElem? (i := 484) (by decide +kernel)), by decide⟩
theorem wm_L_43 : Cond.methodLink RL 43 yX2_agree ∈ lw_all := List.mem_filter.mpr ⟨List.mem_append_right _ (List.mem_of_getElem? (i := 485) (by decide +kernel)), by decide⟩
theorem wn_yX2_agree : Cond.instanceMethod yX2_agree ∈ lw_all := List.mem_filter.mpr ⟨List.mem_append_right _ (List.mem_of_getElem? (i := 486) (by decide +kernel)), by decide⟩
theorem wo_yX2_agree : Cond.selects yX2_agree.cls yX2_agree yX2_agree ∈ lw_all := List.mem_filter.mpr ⟨List.mem_append_right _ (List.mem_of_getElem? (i := 487) (by decide +kernel)), by decide⟩
theorem wk_yX2_agree : Cond.code yX2_agree cX2_agree 3 (some .int) ∈ lw_all := List.mem_filter.mpr ⟨List.mem_append_right _ (List.mem_of_getElem? (i := 488) (by decide +kernel)), by decide⟩
theorem wm_X2_100 : Cond.methodLink RX2 100 yX1_agreement ∈ lw_all := List.mem_filter.mpr ⟨List.mem_append_right _ (List.mem_of_getElem? (i := 489) (by decide +kernel)), by decide⟩
theorem wm_L_102 : Cond.methodLink RL 102 yL_newer ∈ lw_all := List.mem_filter.mpr ⟨List.mem_append_right _ (List.mem_of_getElem? (i := 490) (by decide +kernel)), by decide⟩
theorem ws_yL_newer : Cond.static yL_newer ∈ lw_all := List.mem_filter.mpr ⟨List.mem_append_right _ (List.mem_of_getElem? (i := 491) (by decide +kernel)), by decide⟩
theorem wk_yL_newer : Cond.codeWith yL_newer cL_newer 5 (some .int) [(0, 17, 20, 19)] ∈ lw_all := List.mem_filter.mpr ⟨List.mem_append_right _ (List.mem_of_getElem? (i := 492) (by decide +kernel)), by decide⟩
theorem wm_L_46 : Cond.methodLink RL 46 yX2_newer ∈ lw_all := List.mem_filter.mpr ⟨List.mem_append_right _ (List.mem_of_getElem? (i := 493) (by decide +kernel)), by decide⟩
theorem wn_yX2_newer : Cond.instanceMethod yX2_newer ∈ lw_all := List.mem_filter.mpr ⟨List.mem_append_right _ (List.mem_of_getElem? (i := 494) (by decide +kernel)), by decide⟩
theorem wo_yX2_newer : Cond.selects yX2_newer.cls yX2_newer yX2_newer ∈ lw_all := List.mem_filter.mpr ⟨List.mem_append_right _ (List.mem_of_getElem? (i := 495) (by decide +kernel)), by decide⟩
theorem wk_yX2_newer : Cond.code yX2_newer cX2_newer 3 (some .boolean) ∈ lw_all := List.mem_filter.mpr ⟨List.mem_append_right _ (List.mem_of_getElem? (i := 496) (by decide +kernel)), by decide⟩
theorem wm_X2_103 : Cond.methodLink RX2 103 yX1_asNew ∈ lw_all := List.mem_filter.mpr ⟨List.mem_append_right _ (List.mem_of_getElem? (i := 497) (by decide +kernel)), by decide⟩
theorem wm_L_109 : Cond.methodLink RL 109 yL_count ∈ lw_all := List.mem_filter.mpr ⟨List.mem_append_right _ (List.mem_of_getElem? (i := 498) (by decide +kernel)), by decide⟩
theorem ws_yL_count : Cond.static yL_count ∈ lw_all := List.mem_filter.mpr ⟨List.mem_append_right _ (List.mem_of_getElem? (i := 499) (by decide +kernel)), by decide⟩
theorem wk_yL_count : Cond.codeWith yL_count cL_count 4 (some .int) [(0, 9, 12, 19)] ∈ lw_all := List.mem_filter.mpr ⟨List.mem_append_right _ (List.mem_of_getElem? (i := 500) (by decide +kernel)), by decide⟩
theorem wm_L_50 : Cond.methodLink RL 50 yX2_count ∈ lw_all := List.mem_filter.mpr ⟨List.mem_append_right _ (List.mem_of_getElem? (i := 501) (by decide +kernel)), by decide⟩
theorem wn_yX2_count : Cond.instanceMethod yX2_count ∈ lw_all := List.mem_filter.mpr ⟨List.mem_append_right _ (List.mem_of_getElem? (i := 502) (by decide +kernel)), by decide⟩
theorem wo_yX2_count : Cond.selects yX2_count.cls yX2_count yX2_count ∈ lw_all := List.mem_filter.mpr ⟨List.mem_append_right _ (List.mem_of_getElem? (i := 503) (by decide +kernel)), by decide⟩
theorem wk_yX2_count : Cond.code yX2_count cX2_count 2 (some .int) ∈ lw_all := List.mem_filter.mpr ⟨List.mem_append_right _ (List.mem_of_getElem? (i := 504) (by decide +kernel)), by decide⟩
theorem wm_L_112 : Cond.methodLink RL 112 yL_harbour ∈ lw_all := List.mem_filter.mpr ⟨List.mem_append_right _ (List.mem_of_getElem? (i := 505) (by decide +kernel)), by decide⟩
theorem ws_yL_harbour : Cond.static yL_harbour ∈ lw_all := List.mem_filter.mpr ⟨List.mem_append_right _ (List.mem_of_getElem? (i := 506) (by decide +kernel)), by decide⟩
theorem wk_yL_harbour : Cond.codeWith yL_harbour cL_harbour 5 (some .int) [(0, 10, 13, 19)] ∈ lw_all := List.mem_filter.mpr ⟨List.mem_append_right _ (List.mem_of_getElem? (i := 507) (by decide +kernel)), by decide⟩
theorem wm_L_53 : Cond.methodLink RL 53 yX2_harbour ∈ lw_all := List.mem_filter.mpr ⟨List.mem_append_right _ (List.mem_of_getElem? (i := 508) (by decide +kernel)), by decide⟩
theorem wn_yX2_harbour : Cond.instanceMethod yX2_harbour ∈ lw_all := List.mem_filter.mpr ⟨List.mem_append_right _ (List.mem_of_getElem? (i := 509) (by decide +kernel)), by decide⟩
theorem wo_yX2_harbour : Cond.selects yX2_harbour.cls yX2_harbour yX2_harbour ∈ lw_all := List.mem_filter.mpr ⟨List.mem_append_right _ (List.mem_of_getElem? (i := 510) (by decide +kernel)), by decide⟩
theorem wk_yX2_harbour : Cond.code yX2_harbour cX2_harbour 4 (some .int) ∈ lw_all := List.mem_filter.mpr ⟨List.mem_append_right _ (List.mem_of_getElem? (i := 511) (by decide +kernel)), by decide⟩
theorem wm_X2_114 : Cond.methodLink RX2 114 yX0_newestIn ∈ lw_all := List.mem_filter.mpr ⟨List.mem_append_right _ (List.mem_of_getElem? (i := 512) (by decide +kernel)), by decide⟩
theorem wn_yX0_newestIn : Cond.instanceMethod yX0_newestIn ∈ lw_all := List.mem_filter.mpr ⟨List.mem_append_right _ (List.mem_of_getElem? (i := 513) (by decide +kernel)), by decide⟩
theorem wo_yX0_newestIn : Cond.selects yX0_newestIn.cls yX0_newestIn yX0_newestIn ∈ lw_all := List.mem_filter.mpr ⟨List.mem_append_right _ (List.mem_of_getElem? (i := 514) (by decide +kernel)), by decide⟩
theorem wk_yX0_newestIn : Cond.code yX0_newestIn cX0_newestIn 4 (some .int) ∈ lw_all := List.mem_filter.mpr ⟨List.mem_append_right _ (List.mem_of_getElem? (i := 515) (by decide +kernel)), by decide⟩
theorem wm_X2_117 : Cond.methodLink RX2 117 yX0_upIn ∈ lw_all := List.mem_filter.mpr ⟨List.mem_append_right _ (List.mem_of_getElem? (i := 516) (by decide +kernel)), by decide⟩
theorem wm_X2_120 : Cond.methodLink RX2 120 yX0_isMoreThanHalf ∈ lw_all := List.mem_filter.mpr ⟨List.mem_append_right _ (List.mem_of_getElem? (i := 517) (by decide +kernel)), by decide⟩
theorem wm_L_119 : Cond.methodLink RL 119 yL_foresee ∈ lw_all := List.mem_filter.mpr ⟨List.mem_append_right _ (List.mem_of_getElem? (i := 518) (by decide +kernel)), by decide⟩
theorem ws_yL_foresee : Cond.static yL_foresee ∈ lw_all := List.mem_filter.mpr ⟨List.mem_append_right _ (List.mem_of_getElem? (i := 519) (by decide +kernel)), by decide⟩
theorem wk_yL_foresee : Cond.codeWith yL_foresee cL_foresee 5 (some .int) [(0, 10, 13, 13), (0, 10, 17, 19)] ∈ lw_all := List.mem_filter.mpr ⟨List.mem_append_right _ (List.mem_of_getElem? (i := 520) (by decide +kernel)), by decide⟩
theorem wm_L_56 : Cond.methodLink RL 56 yX2_foresee ∈ lw_all := List.mem_filter.mpr ⟨List.mem_append_right _ (List.mem_of_getElem? (i := 521) (by decide +kernel)), by decide⟩
theorem wn_yX2_foresee : Cond.instanceMethod yX2_foresee ∈ lw_all := List.mem_filter.mpr ⟨List.mem_append_right _ (List.mem_of_getElem? (i := 522) (by decide +kernel)), by decide⟩
theorem wo_yX2_foresee : Cond.selects yX2_foresee.cls yX2_foresee yX2_foresee ∈ lw_all := List.mem_filter.mpr ⟨List.mem_append_right _ (List.mem_of_getElem? (i := 523) (by decide +kernel)), by decide⟩
theorem wk_yX2_foresee : Cond.code yX2_foresee cX2_foresee 3 (some .int) ∈ lw_all := List.mem_filter.mpr ⟨List.mem_append_right _ (List.mem_of_getElem? (i := 524) (by decide +kernel)), by decide⟩
theorem wm_L_122 : Cond.methodLink RL 122 yL_advise ∈ lw_all := List.mem_filter.mpr ⟨List.mem_append_right _ (List.mem_of_getElem? (i := 526) (by decide +kernel)), by decide⟩
theorem ws_yL_advise : Cond.static yL_advise ∈ lw_all := List.mem_filter.mpr ⟨List.mem_append_right _ (List.mem_of_getElem? (i := 527) (by decide +kernel)), by decide⟩
theorem wk_yL_advise : Cond.codeWith yL_advise cL_advise 5 (some .int) [(0, 10, 13, 19), (0, 10, 17, 13), (0, 10, 21, 31)] ∈ lw_all := List.mem_filter.mpr ⟨List.mem_append_right _ (List.mem_of_getElem? (i := 528) (by decide +kernel)), by decide⟩
theorem wm_L_59 : Cond.methodLink RL 59 yX2_advise ∈ lw_all := List.mem_filter.mpr ⟨List.mem_append_right _ (List.mem_of_getElem? (i := 529) (by decide +kernel)), by decide⟩
theorem wn_yX2_advise : Cond.instanceMethod yX2_advise ∈ lw_all := List.mem_filter.mpr ⟨List.mem_append_right _ (List.mem_of_getElem? (i := 530) (by decide +kernel)), by decide⟩
theorem wo_yX2_advise : Cond.selects yX2_advise.cls yX2_advise yX2_advise ∈ lw_all := List.mem_filter.mpr ⟨List.mem_append_right _ (List.mem_of_getElem? (i := 531) (by decide +kernel)), by decide⟩
theorem wk_yX2_advise : Cond.code yX2_advise cX2_advise 7 (some .int) ∈ lw_all := List.mem_filter.mpr ⟨List.mem_append_right _ (List.mem_of_getElem? (i := 532) (by decide +kernel)), by decide⟩
theorem wm_X2_138 : Cond.methodLink RX2 138 yX0_mostKnown ∈ lw_all := List.mem_filter.mpr ⟨List.mem_append_right _ (List.mem_of_getElem? (i := 534) (by decide +kernel)), by decide⟩
theorem wl_L_63 : Cond.classLink RL 63 RX4 ∈ lw_all := List.mem_filter.mpr ⟨List.mem_append_right _ (List.mem_of_getElem? (i := 535) (by decide +kernel)), by decide⟩
theorem wz_X4 : Cond.instantiable RX4 3 ∈ lw_all := List.mem_filter.mpr ⟨List.mem_append_right _ (List.mem_of_getElem? (i := 536) (by decide +kernel)), by decide⟩
theorem wm_L_65 : Cond.methodLink RL 65 yX4_init ∈ lw_all := List.mem_filter.mpr ⟨List.mem_append_right _ (List.mem_of_getElem? (i := 537) (by decide +kernel)), by decide⟩
theorem wn_yX4_init : Cond.instanceMethod yX4_init ∈ lw_all := List.mem_filter.mpr ⟨List.mem_append_right _ (List.mem_of_getElem? (i := 538) (by decide +kernel)), by decide⟩
theorem wk_yX4_init : Cond.code yX4_init cX4_init 1 none ∈ lw_all := List.mem_filter.mpr ⟨List.mem_append_right _ (List.mem_of_getElem? (i := 539) (by decide +kernel)), by decide⟩
theorem wm_X4_1 : Cond.methodLink RX4 1 objectInit ∈ lw_all := List.mem_filter.mpr ⟨List.mem_append_right _ (List.mem_of_getElem? (i := 540) (by decide +kernel)), by decide⟩
theorem wl_X4_7 : Cond.classLink RX4 7 RX3 ∈ lw_all := List.mem_filter.mpr ⟨List.mem_append_right _ (List.mem_of_getElem? (i := 541) (by decide +kernel)), by decide⟩
theorem wz_X3 : Cond.instantiable RX3 16 ∈ lw_all := List.mem_filter.mpr ⟨List.mem_append_right _ (List.mem_of_getElem? (i := 542) (by decide +kernel)), by decide⟩
theorem wm_X4_9 : Cond.methodLink RX4 9 yX3_init ∈ lw_all := List.mem_filter.mpr ⟨List.mem_append_right _ (List.mem_of_getElem? (i := 543) (by decide +kernel)), by decide⟩
theorem wn_yX3_init : Cond.instanceMethod yX3_init ∈ lw_all := List.mem_filter.mpr ⟨List.mem_append_right _ (List.mem_of_getElem? (i := 544) (by decide +kernel)), by decide⟩
theorem wk_yX3_init : Cond.code yX3_init cX3_init 1 none ∈ lw_all := List.mem_filter.mpr ⟨List.mem_append_right _ (List.mem_of_getElem? (i := 545) (by decide +kernel)), by decide⟩
theorem wm_X3_3 : Cond.methodLink RX3 3 objectInit ∈ lw_all := List.mem_filter.mpr ⟨List.mem_append_right _ (List.mem_of_getElem? (i := 546) (by decide +kernel)), by decide⟩
theorem wm_X3_49 : Cond.methodLink RX3 49 yX3_begin ∈ lw_all := List.mem_filter.mpr ⟨List.mem_append_right _ (List.mem_of_getElem? (i := 547) (by decide +kernel)), by decide⟩
theorem wn_yX3_begin : Cond.instanceMethod yX3_begin ∈ lw_all := List.mem_filter.mpr ⟨List.mem_append_right _ (List.mem_of_getElem? (i := 548) (by decide +kernel)), by decide⟩
theorem wo_yX3_begin : Cond.selects yX3_begin.cls yX3_begin yX3_begin ∈ lw_all := List.mem_filter.mpr ⟨List.mem_append_right _ (List.mem_of_getElem? (i := 549) (by decide +kernel)), by decide⟩
theorem wk_yX3_begin : Cond.code yX3_begin cX3_begin 3 none ∈ lw_all := List.mem_filter.mpr ⟨List.mem_append_right _ (List.mem_of_getElem? (i := 550) (by decide +kernel)), by decide⟩
theorem wf_X3_9 : Cond.fieldLink RX3 9 (TX3 0).1 (TX3 0).2.1 (TX3 0).2.2.1 ∈ lw_all := List.mem_filter.mpr ⟨List.mem_append_right _ (List.mem_of_getElem? (i := 551) (by decide +kernel)), by decide⟩
theorem wf_X4_23 : Cond.fieldLinkNest RX4 23 (TX3 0).1 (TX3 0).2.1 (TX3 0).2.2.1 "FleetTermsModel" ∈ lw_env := List.mem_filter.mpr ⟨List.mem_append_right _ (List.mem_of_getElem? (i := 552) (by decide +kernel)), by decide⟩
theorem wf_X3_53 : Cond.fieldLink RX3 53 (TX3 1).1 (TX3 1).2.1 (TX3 1).2.2.1 ∈ lw_all := List.mem_filter.mpr ⟨List.mem_append_right _ (List.mem_of_getElem? (i := 553) (by decide +kernel)), by decide⟩
theorem wf_X3_56 : Cond.fieldLink RX3 56 (TX3 2).1 (TX3 2).2.1 (TX3 2).2.2.1 ∈ lw_all := List.mem_filter.mpr ⟨List.mem_append_right _ (List.mem_of_getElem? (i := 554) (by decide +kernel)), by decide⟩
theorem wf_X3_59 : Cond.fieldLink RX3 59 (TX3 3).1 (TX3 3).2.1 (TX3 3).2.2.1 ∈ lw_all := List.mem_filter.mpr ⟨List.mem_append_right _ (List.mem_of_getElem? (i := 555) (by decide +kernel)), by decide⟩
theorem wf_X4_75 : Cond.fieldLinkNest RX4 75 (TX3 3).1 (TX3 3).2.1 (TX3 3).2.2.1 "FleetTermsModel" ∈ lw_env := List.mem_filter.mpr ⟨List.mem_append_right _ (List.mem_of_getElem? (i := 556) (by decide +kernel)), by decide⟩
theorem wf_X3_62 : Cond.fieldLink RX3 62 (TX3 4).1 (TX3 4).2.1 (TX3 4).2.2.1 ∈ lw_all := List.mem_filter.mpr ⟨List.mem_append_right _ (List.mem_of_getElem? (i := 557) (by decide +kernel)), by decide⟩
theorem wf_X3_15 : Cond.fieldLink RX3 15 (TX3 5).1 (TX3 5).2.1 (TX3 5).2.2.1 ∈ lw_all := List.mem_filter.mpr ⟨List.mem_append_right _ (List.mem_of_getElem? (i := 558) (by decide +kernel)), by decide⟩
theorem wf_X4_42 : Cond.fieldLinkNest RX4 42 (TX3 5).1 (TX3 5).2.1 (TX3 5).2.2.1 "FleetTermsModel" ∈ lw_env := List.mem_filter.mpr ⟨List.mem_append_right _ (List.mem_of_getElem? (i := 559) (by decide +kernel)), by decide⟩
theorem wf_X3_19 : Cond.fieldLink RX3 19 (TX3 6).1 (TX3 6).2.1 (TX3 6).2.2.1 ∈ lw_all := List.mem_filter.mpr ⟨List.mem_append_right _ (List.mem_of_getElem? (i := 560) (by decide +kernel)), by decide⟩
theorem wf_X4_55 : Cond.fieldLinkNest RX4 55 (TX3 6).1 (TX3 6).2.1 (TX3 6).2.2.1 "FleetTermsModel" ∈ lw_env := List.mem_filter.mpr ⟨List.mem_append_right _ (List.mem_of_getElem? (i := 561) (by decide +kernel)), by decide⟩
theorem wf_X3_22 : Cond.fieldLink RX3 22 (TX3 7).1 (TX3 7).2.1 (TX3 7).2.2.1 ∈ lw_all := List.mem_filter.mpr ⟨List.mem_append_right _ (List.mem_of_getElem? (i := 562) (by decide +kernel)), by decide⟩
theorem wf_X4_68 : Cond.fieldLinkNest RX4 68 (TX3 7).1 (TX3 7).2.1 (TX3 7).2.2.1 "FleetTermsModel" ∈ lw_env := List.mem_filter.mpr ⟨List.mem_append_right _ (List.mem_of_getElem? (i := 563) (by decide +kernel)), by decide⟩
theorem wf_X3_25 : Cond.fieldLink RX3 25 (TX3 8).1 (TX3 8).2.1 (TX3 8).2.2.1 ∈ lw_all := List.mem_filter.mpr ⟨List.mem_append_right _ (List.mem_of_getElem? (i := 564) (by decide +kernel)), by decide⟩
theorem wf_X4_81 : Cond.fieldLinkNest RX4 81 (TX3 8).1 (TX3 8).2.1 (TX3 8).2.2.1 "FleetTermsModel" ∈ lw_env := List.mem_filter.mpr ⟨List.mem_append_right _ (List.mem_of_getElem? (i := 565) (by decide +kernel)), by decide⟩
theorem wf_X3_28 : Cond.fieldLink RX3 28 (TX3 9).1 (TX3 9).2.1 (TX3 9).2.2.1 ∈ lw_all := List.mem_filter.mpr ⟨List.mem_append_right _ (List.mem_of_getElem? (i := 566) (by decide +kernel)), by decide⟩
theorem wf_X4_52 : Cond.fieldLinkNest RX4 52 (TX3 9).1 (TX3 9).2.1 (TX3 9).2.2.1 "FleetTermsModel" ∈ lw_env := List.mem_filter.mpr ⟨List.mem_append_right _ (List.mem_of_getElem? (i := 567) (by decide +kernel)), by decide⟩
theorem wf_X3_31 : Cond.fieldLink RX3 31 (TX3 10).1 (TX3 10).2.1 (TX3 10).2.2.1 ∈ lw_all := List.mem_filter.mpr ⟨List.mem_append_right _ (List.mem_of_getElem? (i := 568) (by decide +kernel)), by decide⟩
theorem wf_X4_46 : Cond.fieldLinkNest RX4 46 (TX3 10).1 (TX3 10).2.1 (TX3 10).2.2.1 "FleetTermsModel" ∈ lw_env := List.mem_filter.mpr ⟨List.mem_append_right _ (List.mem_of_getElem? (i := 569) (by decide +kernel)), by decide⟩
theorem wf_X3_34 : Cond.fieldLink RX3 34 (TX3 11).1 (TX3 11).2.1 (TX3 11).2.2.1 ∈ lw_all := List.mem_filter.mpr ⟨List.mem_append_right _ (List.mem_of_getElem? (i := 570) (by decide +kernel)), by decide⟩
theorem wf_X4_49 : Cond.fieldLinkNest RX4 49 (TX3 11).1 (TX3 11).2.1 (TX3 11).2.2.1 "FleetTermsModel" ∈ lw_env := List.mem_filter.mpr ⟨List.mem_append_right _ (List.mem_of_getElem? (i := 571) (by decide +kernel)), by decide⟩
theorem wf_X3_37 : Cond.fieldLink RX3 37 (TX3 12).1 (TX3 12).2.1 (TX3 12).2.2.1 ∈ lw_all := List.mem_filter.mpr ⟨List.mem_append_right _ (List.mem_of_getElem? (i := 572) (by decide +kernel)), by decide⟩
theorem wf_X4_65 : Cond.fieldLinkNest RX4 65 (TX3 12).1 (TX3 12).2.1 (TX3 12).2.2.1 "FleetTermsModel" ∈ lw_env := List.mem_filter.mpr ⟨List.mem_append_right _ (List.mem_of_getElem? (i := 573) (by decide +kernel)), by decide⟩
theorem wf_X3_40 : Cond.fieldLink RX3 40 (TX3 13).1 (TX3 13).2.1 (TX3 13).2.2.1 ∈ lw_all := List.mem_filter.mpr ⟨List.mem_append_right _ (List.mem_of_getElem? (i := 574) (by decide +kernel)), by decide⟩
theorem wf_X4_58 : Cond.fieldLinkNest RX4 58 (TX3 13).1 (TX3 13).2.1 (TX3 13).2.2.1 "FleetTermsModel" ∈ lw_env := List.mem_filter.mpr ⟨List.mem_append_right _ (List.mem_of_getElem? (i := 575) (by decide +kernel)), by decide⟩
theorem wf_X3_43 : Cond.fieldLink RX3 43 (TX3 14).1 (TX3 14).2.1 (TX3 14).2.2.1 ∈ lw_all := List.mem_filter.mpr ⟨List.mem_append_right _ (List.mem_of_getElem? (i := 576) (by decide +kernel)), by decide⟩
theorem wf_X4_91 : Cond.fieldLinkNest RX4 91 (TX3 14).1 (TX3 14).2.1 (TX3 14).2.2.1 "FleetTermsModel" ∈ lw_env := List.mem_filter.mpr ⟨List.mem_append_right _ (List.mem_of_getElem? (i := 577) (by decide +kernel)), by decide⟩
theorem wf_X3_46 : Cond.fieldLink RX3 46 (TX3 15).1 (TX3 15).2.1 (TX3 15).2.2.1 ∈ lw_all := List.mem_filter.mpr ⟨List.mem_append_right _ (List.mem_of_getElem? (i := 578) (by decide +kernel)), by decide⟩
theorem wf_X4_94 : Cond.fieldLinkNest RX4 94 (TX3 15).1 (TX3 15).2.1 (TX3 15).2.2.1 "FleetTermsModel" ∈ lw_env := List.mem_filter.mpr ⟨List.mem_append_right _ (List.mem_of_getElem? (i := 579) (by decide +kernel)), by decide⟩
theorem wf_X4_19 : Cond.fieldLink RX4 19 (TX4 0).1 (TX4 0).2.1 (TX4 0).2.2.1 ∈ lw_all := List.mem_filter.mpr ⟨List.mem_append_right _ (List.mem_of_getElem? (i := 613) (by decide +kernel)), by decide⟩
theorem wf_X4_10 : Cond.fieldLink RX4 10 (TX4 1).1 (TX4 1).2.1 (TX4 1).2.2.1 ∈ lw_all := List.mem_filter.mpr ⟨List.mem_append_right _ (List.mem_of_getElem? (i := 614) (by decide +kernel)), by decide⟩
theorem wf_X4_16 : Cond.fieldLink RX4 16 (TX4 2).1 (TX4 2).2.1 (TX4 2).2.2.1 ∈ lw_all := List.mem_filter.mpr ⟨List.mem_append_right _ (List.mem_of_getElem? (i := 615) (by decide +kernel)), by decide⟩
theorem wm_L_72 : Cond.methodLink RL 72 yX4_thrown ∈ lw_all := List.mem_filter.mpr ⟨List.mem_append_right _ (List.mem_of_getElem? (i := 623) (by decide +kernel)), by decide⟩
theorem wn_yX4_thrown : Cond.instanceMethod yX4_thrown ∈ lw_all := List.mem_filter.mpr ⟨List.mem_append_right _ (List.mem_of_getElem? (i := 624) (by decide +kernel)), by decide⟩
theorem wo_yX4_thrown : Cond.selects yX4_thrown.cls yX4_thrown yX4_thrown ∈ lw_all := List.mem_filter.mpr ⟨List.mem_append_right _ (List.mem_of_getElem? (i := 625) (by decide +kernel)), by decide⟩
theorem wk_yX4_thrown : Cond.code yX4_thrown cX4_thrown 1 (some .int) ∈ lw_all := List.mem_filter.mpr ⟨List.mem_append_right _ (List.mem_of_getElem? (i := 626) (by decide +kernel)), by decide⟩
theorem wm_L_71 : Cond.methodLink RL 71 yX4_fleet ∈ lw_all := List.mem_filter.mpr ⟨List.mem_append_right _ (List.mem_of_getElem? (i := 627) (by decide +kernel)), by decide⟩
theorem wn_yX4_fleet : Cond.instanceMethod yX4_fleet ∈ lw_all := List.mem_filter.mpr ⟨List.mem_append_right _ (List.mem_of_getElem? (i := 628) (by decide +kernel)), by decide⟩
theorem wo_yX4_fleet : Cond.selects yX4_fleet.cls yX4_fleet yX4_fleet ∈ lw_all := List.mem_filter.mpr ⟨List.mem_append_right _ (List.mem_of_getElem? (i := 629) (by decide +kernel)), by decide⟩
theorem wk_yX4_fleet : Cond.code yX4_fleet cX4_fleet 2 (some .int) ∈ lw_all := List.mem_filter.mpr ⟨List.mem_append_right _ (List.mem_of_getElem? (i := 630) (by decide +kernel)), by decide⟩
theorem wm_X4_26 : Cond.methodLink RX4 26 yX4_isIn ∈ lw_all := List.mem_filter.mpr ⟨List.mem_append_right _ (List.mem_of_getElem? (i := 631) (by decide +kernel)), by decide⟩
theorem ws_yX4_isIn : Cond.static yX4_isIn ∈ lw_all := List.mem_filter.mpr ⟨List.mem_append_right _ (List.mem_of_getElem? (i := 632) (by decide +kernel)), by decide⟩
theorem wk_yX4_isIn : Cond.code yX4_isIn cX4_isIn 3 (some .boolean) ∈ lw_all := List.mem_filter.mpr ⟨List.mem_append_right _ (List.mem_of_getElem? (i := 633) (by decide +kernel)), by decide⟩
theorem wm_X4_30 : Cond.methodLink RX4 30 yX4_no ∈ lw_all := List.mem_filter.mpr ⟨List.mem_append_right _ (List.mem_of_getElem? (i := 634) (by decide +kernel)), by decide⟩
theorem wn_yX4_no : Cond.instanceMethod yX4_no ∈ lw_all := List.mem_filter.mpr ⟨List.mem_append_right _ (List.mem_of_getElem? (i := 636) (by decide +kernel)), by decide⟩
theorem wk_yX4_no : Cond.code yX4_no cX4_no 2 (some .int) ∈ lw_all := List.mem_filter.mpr ⟨List.mem_append_right _ (List.mem_of_getElem? (i := 637) (by decide +kernel)), by decide⟩
theorem wm_X4_34 : Cond.methodLink RX4 34 yX3_begin ∈ lw_all := List.mem_filter.mpr ⟨List.mem_append_right _ (List.mem_of_getElem? (i := 638) (by decide +kernel)), by decide⟩
theorem wm_L_79 : Cond.methodLink RL 79 yX4_setPatience ∈ lw_all := List.mem_filter.mpr ⟨List.mem_append_right _ (List.mem_of_getElem? (i := 639) (by decide +kernel)), by decide⟩
theorem wn_yX4_setPatience : Cond.instanceMethod yX4_setPatience ∈ lw_all := List.mem_filter.mpr ⟨List.mem_append_right _ (List.mem_of_getElem? (i := 640) (by decide +kernel)), by decide⟩
theorem wo_yX4_setPatience : Cond.selects yX4_setPatience.cls yX4_setPatience yX4_setPatience ∈ lw_all := List.mem_filter.mpr ⟨List.mem_append_right _ (List.mem_of_getElem? (i := 641) (by decide +kernel)), by decide⟩
theorem wk_yX4_setPatience : Cond.code yX4_setPatience cX4_setPatience 4 (some .int) ∈ lw_all := List.mem_filter.mpr ⟨List.mem_append_right _ (List.mem_of_getElem? (i := 642) (by decide +kernel)), by decide⟩
theorem wm_X4_38 : Cond.methodLink RX4 38 yX4_isBoat ∈ lw_all := List.mem_filter.mpr ⟨List.mem_append_right _ (List.mem_of_getElem? (i := 643) (by decide +kernel)), by decide⟩
theorem wn_yX4_isBoat : Cond.instanceMethod yX4_isBoat ∈ lw_all := List.mem_filter.mpr ⟨List.mem_append_right _ (List.mem_of_getElem? (i := 645) (by decide +kernel)), by decide⟩
theorem wk_yX4_isBoat : Cond.code yX4_isBoat cX4_isBoat 2 (some .boolean) ∈ lw_all := List.mem_filter.mpr ⟨List.mem_append_right _ (List.mem_of_getElem? (i := 646) (by decide +kernel)), by decide⟩
theorem wm_L_82 : Cond.methodLink RL 82 yX4_go ∈ lw_all := List.mem_filter.mpr ⟨List.mem_append_right _ (List.mem_of_getElem? (i := 647) (by decide +kernel)), by decide⟩
theorem wn_yX4_go : Cond.instanceMethod yX4_go ∈ lw_all := List.mem_filter.mpr ⟨List.mem_append_right _ (List.mem_of_getElem? (i := 648) (by decide +kernel)), by decide⟩
theorem wo_yX4_go : Cond.selects yX4_go.cls yX4_go yX4_go ∈ lw_all := List.mem_filter.mpr ⟨List.mem_append_right _ (List.mem_of_getElem? (i := 649) (by decide +kernel)), by decide⟩
theorem wk_yX4_go : Cond.code yX4_go cX4_go 4 (some .int) ∈ lw_all := List.mem_filter.mpr ⟨List.mem_append_right _ (List.mem_of_getElem? (i := 650) (by decide +kernel)), by decide⟩
theorem wm_L_85 : Cond.methodLink RL 85 yX4_sink ∈ lw_all := List.mem_filter.mpr ⟨List.mem_append_right _ (List.mem_of_getElem? (i := 651) (by decide +kernel)), by decide⟩
theorem wn_yX4_sink : Cond.instanceMethod yX4_sink ∈ lw_all := List.mem_filter.mpr ⟨List.mem_append_right _ (List.mem_of_getElem? (i := 652) (by decide +kernel)), by decide⟩
theorem wo_yX4_sink : Cond.selects yX4_sink.cls yX4_sink yX4_sink ∈ lw_all := List.mem_filter.mpr ⟨List.mem_append_right _ (List.mem_of_getElem? (i := 653) (by decide +kernel)), by decide⟩
theorem wk_yX4_sink : Cond.code yX4_sink cX4_sink 2 (some .boolean) ∈ lw_all := List.mem_filter.mpr ⟨List.mem_append_right _ (List.mem_of_getElem? (i := 654) (by decide +kernel)), by decide⟩
theorem wm_L_88 : Cond.methodLink RL 88 yX4_write ∈ lw_all := List.mem_filter.mpr ⟨List.mem_append_right _ (List.mem_of_getElem? (i := 655) (by decide +kernel)), by decide⟩
theorem wn_yX4_write : Cond.instanceMethod yX4_write ∈ lw_all := List.mem_filter.mpr ⟨List.mem_append_right _ (List.mem_of_getElem? (i := 656) (by decide +kernel)), by decide⟩
theorem wo_yX4_write : Cond.selects yX4_write.cls yX4_write yX4_write ∈ lw_all := List.mem_filter.mpr ⟨List.mem_append_right _ (List.mem_of_getElem? (i := 657) (by decide +kernel)), by decide⟩
theorem wk_yX4_write : Cond.code yX4_write cX4_write 3 (some .int) ∈ lw_all := List.mem_filter.mpr ⟨List.mem_append_right _ (List.mem_of_getElem? (i := 658) (by decide +kernel)), by decide⟩
theorem wm_X4_61 : Cond.methodLink RX4 61 yX3_isUp ∈ lw_all := List.mem_filter.mpr ⟨List.mem_append_right _ (List.mem_of_getElem? (i := 659) (by decide +kernel)), by decide⟩
theorem wn_yX3_isUp : Cond.instanceMethod yX3_isUp ∈ lw_all := List.mem_filter.mpr ⟨List.mem_append_right _ (List.mem_of_getElem? (i := 660) (by decide +kernel)), by decide⟩
theorem wo_yX3_isUp : Cond.selects yX3_isUp.cls yX3_isUp yX3_isUp ∈ lw_all := List.mem_filter.mpr ⟨List.mem_append_right _ (List.mem_of_getElem? (i := 661) (by decide +kernel)), by decide⟩
theorem wk_yX3_isUp : Cond.code yX3_isUp cX3_isUp 3 (some .boolean) ∈ lw_all := List.mem_filter.mpr ⟨List.mem_append_right _ (List.mem_of_getElem? (i := 662) (by decide +kernel)), by decide⟩
theorem wm_X4_71 : Cond.methodLink RX4 71 yX3_add ∈ lw_all := List.mem_filter.mpr ⟨List.mem_append_right _ (List.mem_of_getElem? (i := 663) (by decide +kernel)), by decide⟩
theorem wn_yX3_add : Cond.instanceMethod yX3_add ∈ lw_all := List.mem_filter.mpr ⟨List.mem_append_right _ (List.mem_of_getElem? (i := 664) (by decide +kernel)), by decide⟩
theorem wo_yX3_add : Cond.selects yX3_add.cls yX3_add yX3_add ∈ lw_all := List.mem_filter.mpr ⟨List.mem_append_right _ (List.mem_of_getElem? (i := 665) (by decide +kernel)), by decide⟩
theorem wk_yX3_add : Cond.code yX3_add cX3_add 4 none ∈ lw_all := List.mem_filter.mpr ⟨List.mem_append_right _ (List.mem_of_getElem? (i := 666) (by decide +kernel)), by decide⟩
theorem wm_L_91 : Cond.methodLink RL 91 yX4_pass ∈ lw_all := List.mem_filter.mpr ⟨List.mem_append_right _ (List.mem_of_getElem? (i := 667) (by decide +kernel)), by decide⟩
theorem wn_yX4_pass : Cond.instanceMethod yX4_pass ∈ lw_all := List.mem_filter.mpr ⟨List.mem_append_right _ (List.mem_of_getElem? (i := 668) (by decide +kernel)), by decide⟩
theorem wo_yX4_pass : Cond.selects yX4_pass.cls yX4_pass yX4_pass ∈ lw_all := List.mem_filter.mpr ⟨List.mem_append_right _ (List.mem_of_getElem? (i := 669) (by decide +kernel)), by decide⟩
theorem wk_yX4_pass : Cond.code yX4_pass cX4_pass 3 (some .int) ∈ lw_all := List.mem_filter.mpr ⟨List.mem_append_right _ (List.mem_of_getElem? (i := 670) (by decide +kernel)), by decide⟩
theorem wm_X4_78 : Cond.methodLink RX4 78 yX3_passOn ∈ lw_all := List.mem_filter.mpr ⟨List.mem_append_right _ (List.mem_of_getElem? (i := 671) (by decide +kernel)), by decide⟩
theorem wn_yX3_passOn : Cond.instanceMethod yX3_passOn ∈ lw_all := List.mem_filter.mpr ⟨List.mem_append_right _ (List.mem_of_getElem? (i := 672) (by decide +kernel)), by decide⟩
theorem wo_yX3_passOn : Cond.selects yX3_passOn.cls yX3_passOn yX3_passOn ∈ lw_all := List.mem_filter.mpr ⟨List.mem_append_right _ (List.mem_of_getElem? (i := 673) (by decide +kernel)), by decide⟩
theorem wk_yX3_passOn : Cond.code yX3_passOn cX3_passOn 3 none ∈ lw_all := List.mem_filter.mpr ⟨List.mem_append_right _ (List.mem_of_getElem? (i := 674) (by decide +kernel)), by decide⟩
theorem wm_X3_125 : Cond.methodLink RX3 125 yX3_pass ∈ lw_all := List.mem_filter.mpr ⟨List.mem_append_right _ (List.mem_of_getElem? (i := 675) (by decide +kernel)), by decide⟩
theorem wn_yX3_pass : Cond.instanceMethod yX3_pass ∈ lw_all := List.mem_filter.mpr ⟨List.mem_append_right _ (List.mem_of_getElem? (i := 676) (by decide +kernel)), by decide⟩
theorem wo_yX3_pass : Cond.selects yX3_pass.cls yX3_pass yX3_pass ∈ lw_all := List.mem_filter.mpr ⟨List.mem_append_right _ (List.mem_of_getElem? (i := 677) (by decide +kernel)), by decide⟩
theorem wk_yX3_pass : Cond.code yX3_pass cX3_pass 2 none ∈ lw_all := List.mem_filter.mpr ⟨List.mem_append_right _ (List.mem_of_getElem? (i := 678) (by decide +kernel)), by decide⟩
theorem wm_X3_113 : Cond.methodLink RX3 113 yX3_stand ∈ lw_all := List.mem_filter.mpr ⟨List.mem_append_right _ (List.mem_of_getElem? (i := 679) (by decide +kernel)), by decide⟩
theorem wn_yX3_stand : Cond.instanceMethod yX3_stand ∈ lw_all := List.mem_filter.mpr ⟨List.mem_append_right _ (List.mem_of_getElem? (i := 681) (by decide +kernel)), by decide⟩
theorem wk_yX3_stand : Cond.code yX3_stand cX3_stand 4 none ∈ lw_all := List.mem_filter.mpr ⟨List.mem_append_right _ (List.mem_of_getElem? (i := 682) (by decide +kernel)), by decide⟩
theorem wm_X3_79 : Cond.methodLink RX3 79 yX3_hear ∈ lw_all := List.mem_filter.mpr ⟨List.mem_append_right _ (List.mem_of_getElem? (i := 683) (by decide +kernel)), by decide⟩
theorem wn_yX3_hear : Cond.instanceMethod yX3_hear ∈ lw_all := List.mem_filter.mpr ⟨List.mem_append_right _ (List.mem_of_getElem? (i := 684) (by decide +kernel)), by decide⟩
theorem wo_yX3_hear : Cond.selects yX3_hear.cls yX3_hear yX3_hear ∈ lw_all := List.mem_filter.mpr ⟨List.mem_append_right _ (List.mem_of_getElem? (i := 685) (by decide +kernel)), by decide⟩
theorem wk_yX3_hear : Cond.code yX3_hear cX3_hear 3 (some .boolean) ∈ lw_all := List.mem_filter.mpr ⟨List.mem_append_right _ (List.mem_of_getElem? (i := 686) (by decide +kernel)), by decide⟩
theorem wm_X3_83 : Cond.methodLink RX3 83 yX3_hearOf ∈ lw_all := List.mem_filter.mpr ⟨List.mem_append_right _ (List.mem_of_getElem? (i := 687) (by decide +kernel)), by decide⟩
theorem wn_yX3_hearOf : Cond.instanceMethod yX3_hearOf ∈ lw_all := List.mem_filter.mpr ⟨List.mem_append_right _ (List.mem_of_getElem? (i := 689) (by decide +kernel)), by decide⟩
theorem wk_yX3_hearOf : Cond.code yX3_hearOf cX3_hearOf 3 none ∈ lw_all := List.mem_filter.mpr ⟨List.mem_append_right _ (List.mem_of_getElem? (i := 690) (by decide +kernel)), by decide⟩
theorem wm_X3_87 : Cond.methodLink RX3 87 yX3_isAsNew ∈ lw_all := List.mem_filter.mpr ⟨List.mem_append_right _ (List.mem_of_getElem? (i := 691) (by decide +kernel)), by decide⟩
theorem wn_yX3_isAsNew : Cond.instanceMethod yX3_isAsNew ∈ lw_all := List.mem_filter.mpr ⟨List.mem_append_right _ (List.mem_of_getElem? (i := 692) (by decide +kernel)), by decide⟩
theorem wo_yX3_isAsNew : Cond.selects yX3_isAsNew.cls yX3_isAsNew yX3_isAsNew ∈ lw_all := List.mem_filter.mpr ⟨List.mem_append_right _ (List.mem_of_getElem? (i := 693) (by decide +kernel)), by decide⟩
theorem wk_yX3_isAsNew : Cond.code yX3_isAsNew cX3_isAsNew 3 (some .boolean) ∈ lw_all := List.mem_filter.mpr ⟨List.mem_append_right _ (List.mem_of_getElem? (i := 694) (by decide +kernel)), by decide⟩
theorem wm_X3_75 : Cond.methodLink RX3 75 yX3_lastTerm ∈ lw_all := List.mem_filter.mpr ⟨List.mem_append_right _ (List.mem_of_getElem? (i := 695) (by decide +kernel)), by decide⟩
theorem wn_yX3_lastTerm : Cond.instanceMethod yX3_lastTerm ∈ lw_all := List.mem_filter.mpr ⟨List.mem_append_right _ (List.mem_of_getElem? (i := 696) (by decide +kernel)), by decide⟩
theorem wo_yX3_lastTerm : Cond.selects yX3_lastTerm.cls yX3_lastTerm yX3_lastTerm ∈ lw_all := List.mem_filter.mpr ⟨List.mem_append_right _ (List.mem_of_getElem? (i := 697) (by decide +kernel)), by decide⟩
theorem wk_yX3_lastTerm : Cond.code yX3_lastTerm cX3_lastTerm 2 (some .int) ∈ lw_all := List.mem_filter.mpr ⟨List.mem_append_right _ (List.mem_of_getElem? (i := 698) (by decide +kernel)), by decide⟩
theorem wm_X3_90 : Cond.methodLink RX3 90 yX3_isMore ∈ lw_all := List.mem_filter.mpr ⟨List.mem_append_right _ (List.mem_of_getElem? (i := 699) (by decide +kernel)), by decide⟩
theorem wn_yX3_isMore : Cond.instanceMethod yX3_isMore ∈ lw_all := List.mem_filter.mpr ⟨List.mem_append_right _ (List.mem_of_getElem? (i := 700) (by decide +kernel)), by decide⟩
theorem wo_yX3_isMore : Cond.selects yX3_isMore.cls yX3_isMore yX3_isMore ∈ lw_all := List.mem_filter.mpr ⟨List.mem_append_right _ (List.mem_of_getElem? (i := 701) (by decide +kernel)), by decide⟩
theorem wk_yX3_isMore : Cond.code yX3_isMore cX3_isMore 2 (some .boolean) ∈ lw_all := List.mem_filter.mpr ⟨List.mem_append_right _ (List.mem_of_getElem? (i := 702) (by decide +kernel)), by decide⟩
theorem wm_X3_116 : Cond.methodLink RX3 116 yX3_isUp ∈ lw_all := List.mem_filter.mpr ⟨List.mem_append_right _ (List.mem_of_getElem? (i := 703) (by decide +kernel)), by decide⟩
theorem wm_X3_119 : Cond.methodLink RX3 119 yX3_tell ∈ lw_all := List.mem_filter.mpr ⟨List.mem_append_right _ (List.mem_of_getElem? (i := 704) (by decide +kernel)), by decide⟩
theorem wn_yX3_tell : Cond.instanceMethod yX3_tell ∈ lw_all := List.mem_filter.mpr ⟨List.mem_append_right _ (List.mem_of_getElem? (i := 706) (by decide +kernel)), by decide⟩
theorem wk_yX3_tell : Cond.code yX3_tell cX3_tell 3 none ∈ lw_all := List.mem_filter.mpr ⟨List.mem_append_right _ (List.mem_of_getElem? (i := 707) (by decide +kernel)), by decide⟩
theorem wm_X3_110 : Cond.methodLink RX3 110 yX3_takeFrom ∈ lw_all := List.mem_filter.mpr ⟨List.mem_append_right _ (List.mem_of_getElem? (i := 708) (by decide +kernel)), by decide⟩
theorem wn_yX3_takeFrom : Cond.instanceMethod yX3_takeFrom ∈ lw_all := List.mem_filter.mpr ⟨List.mem_append_right _ (List.mem_of_getElem? (i := 710) (by decide +kernel)), by decide⟩
theorem wk_yX3_takeFrom : Cond.code yX3_takeFrom cX3_takeFrom 4 none ∈ lw_all := List.mem_filter.mpr ⟨List.mem_append_right _ (List.mem_of_getElem? (i := 711) (by decide +kernel)), by decide⟩
theorem wm_X3_94 : Cond.methodLink RX3 94 yX3_agree ∈ lw_all := List.mem_filter.mpr ⟨List.mem_append_right _ (List.mem_of_getElem? (i := 712) (by decide +kernel)), by decide⟩
theorem wn_yX3_agree : Cond.instanceMethod yX3_agree ∈ lw_all := List.mem_filter.mpr ⟨List.mem_append_right _ (List.mem_of_getElem? (i := 713) (by decide +kernel)), by decide⟩
theorem wo_yX3_agree : Cond.selects yX3_agree.cls yX3_agree yX3_agree ∈ lw_all := List.mem_filter.mpr ⟨List.mem_append_right _ (List.mem_of_getElem? (i := 714) (by decide +kernel)), by decide⟩
theorem wk_yX3_agree : Cond.code yX3_agree cX3_agree 4 (some .int) ∈ lw_all := List.mem_filter.mpr ⟨List.mem_append_right _ (List.mem_of_getElem? (i := 715) (by decide +kernel)), by decide⟩
theorem wm_X3_98 : Cond.methodLink RX3 98 yX3_add ∈ lw_all := List.mem_filter.mpr ⟨List.mem_append_right _ (List.mem_of_getElem? (i := 716) (by decide +kernel)), by decide⟩
theorem wm_X3_102 : Cond.methodLink RX3 102 yJ9_min_7cf53 ∈ lw_all := List.mem_filter.mpr ⟨List.mem_append_right _ (List.mem_of_getElem? (i := 717) (by decide +kernel)), by decide⟩
theorem wm_X3_107 : Cond.methodLink RX3 107 yJ9_max_7cf53 ∈ lw_all := List.mem_filter.mpr ⟨List.mem_append_right _ (List.mem_of_getElem? (i := 718) (by decide +kernel)), by decide⟩
theorem wm_X3_122 : Cond.methodLink RX3 122 yX3_commit ∈ lw_all := List.mem_filter.mpr ⟨List.mem_append_right _ (List.mem_of_getElem? (i := 719) (by decide +kernel)), by decide⟩
theorem wn_yX3_commit : Cond.instanceMethod yX3_commit ∈ lw_all := List.mem_filter.mpr ⟨List.mem_append_right _ (List.mem_of_getElem? (i := 721) (by decide +kernel)), by decide⟩
theorem wk_yX3_commit : Cond.code yX3_commit cX3_commit 5 none ∈ lw_all := List.mem_filter.mpr ⟨List.mem_append_right _ (List.mem_of_getElem? (i := 722) (by decide +kernel)), by decide⟩
theorem wm_L_94 : Cond.methodLink RL 94 yX4_told ∈ lw_all := List.mem_filter.mpr ⟨List.mem_append_right _ (List.mem_of_getElem? (i := 723) (by decide +kernel)), by decide⟩
theorem wn_yX4_told : Cond.instanceMethod yX4_told ∈ lw_all := List.mem_filter.mpr ⟨List.mem_append_right _ (List.mem_of_getElem? (i := 724) (by decide +kernel)), by decide⟩
theorem wo_yX4_told : Cond.selects yX4_told.cls yX4_told yX4_told ∈ lw_all := List.mem_filter.mpr ⟨List.mem_append_right _ (List.mem_of_getElem? (i := 725) (by decide +kernel)), by decide⟩
theorem wk_yX4_told : Cond.code yX4_told cX4_told 3 (some .int) ∈ lw_all := List.mem_filter.mpr ⟨List.mem_append_right _ (List.mem_of_getElem? (i := 726) (by decide +kernel)), by decide⟩
theorem wm_X4_87 : Cond.methodLink RX4 87 yX4_boatTold ∈ lw_all := List.mem_filter.mpr ⟨List.mem_append_right _ (List.mem_of_getElem? (i := 727) (by decide +kernel)), by decide⟩
theorem wn_yX4_boatTold : Cond.instanceMethod yX4_boatTold ∈ lw_all := List.mem_filter.mpr ⟨List.mem_append_right _ (List.mem_of_getElem? (i := 729) (by decide +kernel)), by decide⟩
theorem wk_yX4_boatTold : Cond.code yX4_boatTold cX4_boatTold 3 (some .int) ∈ lw_all := List.mem_filter.mpr ⟨List.mem_append_right _ (List.mem_of_getElem? (i := 730) (by decide +kernel)), by decide⟩
theorem wm_X4_84 : Cond.methodLink RX4 84 yX3_lastTerm ∈ lw_all := List.mem_filter.mpr ⟨List.mem_append_right _ (List.mem_of_getElem? (i := 731) (by decide +kernel)), by decide⟩
theorem wm_L_98 : Cond.methodLink RL 98 yX4_entry ∈ lw_all := List.mem_filter.mpr ⟨List.mem_append_right _ (List.mem_of_getElem? (i := 732) (by decide +kernel)), by decide⟩
theorem wn_yX4_entry : Cond.instanceMethod yX4_entry ∈ lw_all := List.mem_filter.mpr ⟨List.mem_append_right _ (List.mem_of_getElem? (i := 733) (by decide +kernel)), by decide⟩
theorem wo_yX4_entry : Cond.selects yX4_entry.cls yX4_entry yX4_entry ∈ lw_all := List.mem_filter.mpr ⟨List.mem_append_right _ (List.mem_of_getElem? (i := 734) (by decide +kernel)), by decide⟩
theorem wk_yX4_entry : Cond.code yX4_entry cX4_entry 4 (some .int) ∈ lw_all := List.mem_filter.mpr ⟨List.mem_append_right _ (List.mem_of_getElem? (i := 735) (by decide +kernel)), by decide⟩
theorem wm_X4_100 : Cond.methodLink RX4 100 yX4_entryTold ∈ lw_all := List.mem_filter.mpr ⟨List.mem_append_right _ (List.mem_of_getElem? (i := 736) (by decide +kernel)), by decide⟩
theorem wn_yX4_entryTold : Cond.instanceMethod yX4_entryTold ∈ lw_all := List.mem_filter.mpr ⟨List.mem_append_right _ (List.mem_of_getElem? (i := 738) (by decide +kernel)), by decide⟩
theorem wk_yX4_entryTold : Cond.code yX4_entryTold cX4_entryTold 6 (some .int) ∈ lw_all := List.mem_filter.mpr ⟨List.mem_append_right _ (List.mem_of_getElem? (i := 739) (by decide +kernel)), by decide⟩
theorem wm_X4_97 : Cond.methodLink RX4 97 yX3_agree ∈ lw_all := List.mem_filter.mpr ⟨List.mem_append_right _ (List.mem_of_getElem? (i := 740) (by decide +kernel)), by decide⟩
theorem wm_L_101 : Cond.methodLink RL 101 yX4_agree ∈ lw_all := List.mem_filter.mpr ⟨List.mem_append_right _ (List.mem_of_getElem? (i := 741) (by decide +kernel)), by decide⟩
theorem wn_yX4_agree : Cond.instanceMethod yX4_agree ∈ lw_all := List.mem_filter.mpr ⟨List.mem_append_right _ (List.mem_of_getElem? (i := 742) (by decide +kernel)), by decide⟩
theorem wo_yX4_agree : Cond.selects yX4_agree.cls yX4_agree yX4_agree ∈ lw_all := List.mem_filter.mpr ⟨List.mem_append_right _ (List.mem_of_getElem? (i := 743) (by decide +kernel)), by decide⟩
theorem wk_yX4_agree : Cond.code yX4_agree cX4_agree 3 (some .int) ∈ lw_all := List.mem_filter.mpr ⟨List.mem_append_right _ (List.mem_of_getElem? (i := 744) (by decide +kernel)), by decide⟩
theorem wm_L_104 : Cond.methodLink RL 104 yX4_newer ∈ lw_all := List.mem_filter.mpr ⟨List.mem_append_right _ (List.mem_of_getElem? (i := 745) (by decide +kernel)), by decide⟩
theorem wn_yX4_newer : Cond.instanceMethod yX4_newer ∈ lw_all := List.mem_filter.mpr ⟨List.mem_append_right _ (List.mem_of_getElem? (i := 746) (by decide +kernel)), by decide⟩
theorem wo_yX4_newer : Cond.selects yX4_newer.cls yX4_newer yX4_newer ∈ lw_all := List.mem_filter.mpr ⟨List.mem_append_right _ (List.mem_of_getElem? (i := 747) (by decide +kernel)), by decide⟩
theorem wk_yX4_newer : Cond.code yX4_newer cX4_newer 3 (some .boolean) ∈ lw_all := List.mem_filter.mpr ⟨List.mem_append_right _ (List.mem_of_getElem? (i := 748) (by decide +kernel)), by decide⟩
theorem wm_X4_104 : Cond.methodLink RX4 104 yX3_isAsNew ∈ lw_all := List.mem_filter.mpr ⟨List.mem_append_right _ (List.mem_of_getElem? (i := 749) (by decide +kernel)), by decide⟩
theorem wm_L_108 : Cond.methodLink RL 108 yX4_leader ∈ lw_all := List.mem_filter.mpr ⟨List.mem_append_right _ (List.mem_of_getElem? (i := 750) (by decide +kernel)), by decide⟩
theorem wn_yX4_leader : Cond.instanceMethod yX4_leader ∈ lw_all := List.mem_filter.mpr ⟨List.mem_append_right _ (List.mem_of_getElem? (i := 751) (by decide +kernel)), by decide⟩
theorem wo_yX4_leader : Cond.selects yX4_leader.cls yX4_leader yX4_leader ∈ lw_all := List.mem_filter.mpr ⟨List.mem_append_right _ (List.mem_of_getElem? (i := 752) (by decide +kernel)), by decide⟩
theorem wk_yX4_leader : Cond.code yX4_leader cX4_leader 3 (some .int) ∈ lw_all := List.mem_filter.mpr ⟨List.mem_append_right _ (List.mem_of_getElem? (i := 753) (by decide +kernel)), by decide⟩
theorem wm_L_111 : Cond.methodLink RL 111 yX4_count ∈ lw_all := List.mem_filter.mpr ⟨List.mem_append_right _ (List.mem_of_getElem? (i := 754) (by decide +kernel)), by decide⟩
theorem wn_yX4_count : Cond.instanceMethod yX4_count ∈ lw_all := List.mem_filter.mpr ⟨List.mem_append_right _ (List.mem_of_getElem? (i := 755) (by decide +kernel)), by decide⟩
theorem wo_yX4_count : Cond.selects yX4_count.cls yX4_count yX4_count ∈ lw_all := List.mem_filter.mpr ⟨List.mem_append_right _ (List.mem_of_getElem? (i := 756) (by decide +kernel)), by decide⟩
theorem wk_yX4_count : Cond.code yX4_count cX4_count 2 (some .int) ∈ lw_all := List.mem_filter.mpr ⟨List.mem_append_right _ (List.mem_of_getElem? (i := 757) (by decide +kernel)), by decide⟩
theorem wm_X4_107 : Cond.methodLink RX4 107 yX3_counted ∈ lw_all := List.mem_filter.mpr ⟨List.mem_append_right _ (List.mem_of_getElem? (i := 758) (by decide +kernel)), by decide⟩
theorem wn_yX3_counted : Cond.instanceMethod yX3_counted ∈ lw_all := List.mem_filter.mpr ⟨List.mem_append_right _ (List.mem_of_getElem? (i := 759) (by decide +kernel)), by decide⟩
theorem wo_yX3_counted : Cond.selects yX3_counted.cls yX3_counted yX3_counted ∈ lw_all := List.mem_filter.mpr ⟨List.mem_append_right _ (List.mem_of_getElem? (i := 760) (by decide +kernel)), by decide⟩
theorem wk_yX3_counted : Cond.code yX3_counted cX3_counted 8 (some .int) ∈ lw_all := List.mem_filter.mpr ⟨List.mem_append_right _ (List.mem_of_getElem? (i := 761) (by decide +kernel)), by decide⟩
theorem wm_L_114 : Cond.methodLink RL 114 yX4_harbour ∈ lw_all := List.mem_filter.mpr ⟨List.mem_append_right _ (List.mem_of_getElem? (i := 762) (by decide +kernel)), by decide⟩
theorem wn_yX4_harbour : Cond.instanceMethod yX4_harbour ∈ lw_all := List.mem_filter.mpr ⟨List.mem_append_right _ (List.mem_of_getElem? (i := 763) (by decide +kernel)), by decide⟩
theorem wo_yX4_harbour : Cond.selects yX4_harbour.cls yX4_harbour yX4_harbour ∈ lw_all := List.mem_filter.mpr ⟨List.mem_append_right _ (List.mem_of_getElem? (i := 764) (by decide +kernel)), by decide⟩
theorem wk_yX4_harbour : Cond.code yX4_harbour cX4_harbour 3 (some .int) ∈ lw_all := List.mem_filter.mpr ⟨List.mem_append_right _ (List.mem_of_getElem? (i := 765) (by decide +kernel)), by decide⟩
theorem wm_X4_113 : Cond.methodLink RX4 113 yX4_harbourTold ∈ lw_all := List.mem_filter.mpr ⟨List.mem_append_right _ (List.mem_of_getElem? (i := 766) (by decide +kernel)), by decide⟩
theorem wn_yX4_harbourTold : Cond.instanceMethod yX4_harbourTold ∈ lw_all := List.mem_filter.mpr ⟨List.mem_append_right _ (List.mem_of_getElem? (i := 768) (by decide +kernel)), by decide⟩
theorem wk_yX4_harbourTold : Cond.code yX4_harbourTold cX4_harbourTold 6 (some .int) ∈ lw_all := List.mem_filter.mpr ⟨List.mem_append_right _ (List.mem_of_getElem? (i := 769) (by decide +kernel)), by decide⟩
theorem wm_X4_110 : Cond.methodLink RX4 110 yX3_isMore ∈ lw_all := List.mem_filter.mpr ⟨List.mem_append_right _ (List.mem_of_getElem? (i := 770) (by decide +kernel)), by decide⟩
theorem wm_L_118 : Cond.methodLink RL 118 yX4_until ∈ lw_all := List.mem_filter.mpr ⟨List.mem_append_right _ (List.mem_of_getElem? (i := 771) (by decide +kernel)), by decide⟩
theorem wn_yX4_until : Cond.instanceMethod yX4_until ∈ lw_all := List.mem_filter.mpr ⟨List.mem_append_right _ (List.mem_of_getElem? (i := 772) (by decide +kernel)), by decide⟩
theorem wo_yX4_until : Cond.selects yX4_until.cls yX4_until yX4_until ∈ lw_all := List.mem_filter.mpr ⟨List.mem_append_right _ (List.mem_of_getElem? (i := 773) (by decide +kernel)), by decide⟩
theorem wk_yX4_until : Cond.code yX4_until cX4_until 2 (some .int) ∈ lw_all := List.mem_filter.mpr ⟨List.mem_append_right _ (List.mem_of_getElem? (i := 774) (by decide +kernel)), by decide⟩
theorem wm_X4_116 : Cond.methodLink RX4 116 yX3_become ∈ lw_all := List.mem_filter.mpr ⟨List.mem_append_right _ (List.mem_of_getElem? (i := 775) (by decide +kernel)), by decide⟩
theorem wn_yX3_become : Cond.instanceMethod yX3_become ∈ lw_all := List.mem_filter.mpr ⟨List.mem_append_right _ (List.mem_of_getElem? (i := 776) (by decide +kernel)), by decide⟩
theorem wo_yX3_become : Cond.selects yX3_become.cls yX3_become yX3_become ∈ lw_all := List.mem_filter.mpr ⟨List.mem_append_right _ (List.mem_of_getElem? (i := 777) (by decide +kernel)), by decide⟩
theorem wk_yX3_become : Cond.code yX3_become cX3_become 2 none ∈ lw_all := List.mem_filter.mpr ⟨List.mem_append_right _ (List.mem_of_getElem? (i := 778) (by decide +kernel)), by decide⟩
theorem wm_X3_71 : Cond.methodLink RX3 71 yX3_copy ∈ lw_all := List.mem_filter.mpr ⟨List.mem_append_right _ (List.mem_of_getElem? (i := 779) (by decide +kernel)), by decide⟩
theorem ws_yX3_copy : Cond.static yX3_copy ∈ lw_all := List.mem_filter.mpr ⟨List.mem_append_right _ (List.mem_of_getElem? (i := 780) (by decide +kernel)), by decide⟩
theorem wk_yX3_copy : Cond.code yX3_copy cX3_copy 2 none ∈ lw_all := List.mem_filter.mpr ⟨List.mem_append_right _ (List.mem_of_getElem? (i := 781) (by decide +kernel)), by decide⟩
theorem wm_X3_65 : Cond.methodLink RX3 65 arraycopyName ∈ lw_all := List.mem_filter.mpr ⟨List.mem_append_right _ (List.mem_of_getElem? (i := 782) (by decide +kernel)), by decide⟩
theorem wm_X4_120 : Cond.methodLink RX4 120 yX3_isLed ∈ lw_all := List.mem_filter.mpr ⟨List.mem_append_right _ (List.mem_of_getElem? (i := 783) (by decide +kernel)), by decide⟩
theorem wn_yX3_isLed : Cond.instanceMethod yX3_isLed ∈ lw_all := List.mem_filter.mpr ⟨List.mem_append_right _ (List.mem_of_getElem? (i := 784) (by decide +kernel)), by decide⟩
theorem wo_yX3_isLed : Cond.selects yX3_isLed.cls yX3_isLed yX3_isLed ∈ lw_all := List.mem_filter.mpr ⟨List.mem_append_right _ (List.mem_of_getElem? (i := 785) (by decide +kernel)), by decide⟩
theorem wk_yX3_isLed : Cond.code yX3_isLed cX3_isLed 4 (some .boolean) ∈ lw_all := List.mem_filter.mpr ⟨List.mem_append_right _ (List.mem_of_getElem? (i := 786) (by decide +kernel)), by decide⟩
theorem wm_X4_124 : Cond.methodLink RX4 124 yX3_pass ∈ lw_all := List.mem_filter.mpr ⟨List.mem_append_right _ (List.mem_of_getElem? (i := 787) (by decide +kernel)), by decide⟩
theorem wm_L_121 : Cond.methodLink RL 121 yX4_foresee ∈ lw_all := List.mem_filter.mpr ⟨List.mem_append_right _ (List.mem_of_getElem? (i := 788) (by decide +kernel)), by decide⟩
theorem wn_yX4_foresee : Cond.instanceMethod yX4_foresee ∈ lw_all := List.mem_filter.mpr ⟨List.mem_append_right _ (List.mem_of_getElem? (i := 789) (by decide +kernel)), by decide⟩
theorem wo_yX4_foresee : Cond.selects yX4_foresee.cls yX4_foresee yX4_foresee ∈ lw_all := List.mem_filter.mpr ⟨List.mem_append_right _ (List.mem_of_getElem? (i := 790) (by decide +kernel)), by decide⟩
theorem wk_yX4_foresee : Cond.code yX4_foresee cX4_foresee 3 (some .int) ∈ lw_all := List.mem_filter.mpr ⟨List.mem_append_right _ (List.mem_of_getElem? (i := 791) (by decide +kernel)), by decide⟩
theorem wm_L_124 : Cond.methodLink RL 124 yX4_advise ∈ lw_all := List.mem_filter.mpr ⟨List.mem_append_right _ (List.mem_of_getElem? (i := 792) (by decide +kernel)), by decide⟩
theorem wn_yX4_advise : Cond.instanceMethod yX4_advise ∈ lw_all := List.mem_filter.mpr ⟨List.mem_append_right _ (List.mem_of_getElem? (i := 793) (by decide +kernel)), by decide⟩
theorem wo_yX4_advise : Cond.selects yX4_advise.cls yX4_advise yX4_advise ∈ lw_all := List.mem_filter.mpr ⟨List.mem_append_right _ (List.mem_of_getElem? (i := 794) (by decide +kernel)), by decide⟩
theorem wk_yX4_advise : Cond.code yX4_advise cX4_advise 6 (some .int) ∈ lw_all := List.mem_filter.mpr ⟨List.mem_append_right _ (List.mem_of_getElem? (i := 795) (by decide +kernel)), by decide⟩
theorem wm_L_129 : Cond.methodLink RL 129 yX4_mean ∈ lw_all := List.mem_filter.mpr ⟨List.mem_append_right _ (List.mem_of_getElem? (i := 796) (by decide +kernel)), by decide⟩
theorem wn_yX4_mean : Cond.instanceMethod yX4_mean ∈ lw_all := List.mem_filter.mpr ⟨List.mem_append_right _ (List.mem_of_getElem? (i := 797) (by decide +kernel)), by decide⟩
theorem wo_yX4_mean : Cond.selects yX4_mean.cls yX4_mean yX4_mean ∈ lw_all := List.mem_filter.mpr ⟨List.mem_append_right _ (List.mem_of_getElem? (i := 798) (by decide +kernel)), by decide⟩
theorem wk_yX4_mean : Cond.code yX4_mean cX4_mean 3 (some .double) ∈ lw_all := List.mem_filter.mpr ⟨List.mem_append_right _ (List.mem_of_getElem? (i := 799) (by decide +kernel)), by decide⟩
theorem wm_L_134 : Cond.methodLink RL 134 yX4_digest ∈ lw_all := List.mem_filter.mpr ⟨List.mem_append_right _ (List.mem_of_getElem? (i := 800) (by decide +kernel)), by decide⟩
theorem wn_yX4_digest : Cond.instanceMethod yX4_digest ∈ lw_all := List.mem_filter.mpr ⟨List.mem_append_right _ (List.mem_of_getElem? (i := 801) (by decide +kernel)), by decide⟩
theorem wo_yX4_digest : Cond.selects yX4_digest.cls yX4_digest yX4_digest ∈ lw_all := List.mem_filter.mpr ⟨List.mem_append_right _ (List.mem_of_getElem? (i := 802) (by decide +kernel)), by decide⟩
theorem wk_yX4_digest : Cond.code yX4_digest cX4_digest 6 (some .long) ∈ lw_all := List.mem_filter.mpr ⟨List.mem_append_right _ (List.mem_of_getElem? (i := 803) (by decide +kernel)), by decide⟩
theorem wc_X4_127 : Cond.constantLong RX4 127 (1759) ∈ lw_all := List.mem_filter.mpr ⟨List.mem_append_right _ (List.mem_of_getElem? (i := 804) (by decide +kernel)), by decide⟩
theorem wc_X4_129 : Cond.constantLong RX4 129 (31) ∈ lw_all := List.mem_filter.mpr ⟨List.mem_append_right _ (List.mem_of_getElem? (i := 805) (by decide +kernel)), by decide⟩
theorem wa_long : Cond.arrayClass .long ∈ lw_all := List.mem_filter.mpr ⟨List.mem_append_right _ (List.mem_of_getElem? (i := 806) (by decide +kernel)), by decide⟩
theorem wo_yX2_digestOfBoat : Cond.selects yX2_digestOfBoat.cls yX2_digestOfBoat yX2_digestOfBoat ∈ lw_all := List.mem_filter.mpr ⟨List.mem_append_left _ (List.mem_of_getElem? (i := 0) (by decide +kernel)), by decide⟩
theorem wo_yX2_needBoat : Cond.selects yX2_needBoat.cls yX2_needBoat yX2_needBoat ∈ lw_all := List.mem_filter.mpr ⟨List.mem_append_left _ (List.mem_of_getElem? (i := 2) (by decide +kernel)), by decide⟩
theorem wo_yX2_needBelow : Cond.selects yX2_needBelow.cls yX2_needBelow yX2_needBelow ∈ lw_all := List.mem_filter.mpr ⟨List.mem_append_left _ (List.mem_of_getElem? (i := 3) (by decide +kernel)), by decide⟩
theorem wo_yX2_needHours : Cond.selects yX2_needHours.cls yX2_needHours yX2_needHours ∈ lw_all := List.mem_filter.mpr ⟨List.mem_append_left _ (List.mem_of_getElem? (i := 4) (by decide +kernel)), by decide⟩
theorem wo_yX4_no : Cond.selects yX4_no.cls yX4_no yX4_no ∈ lw_all := List.mem_filter.mpr ⟨List.mem_append_left _ (List.mem_of_getElem? (i := 5) (by decide +kernel)), by decide⟩
theorem wo_yX4_isBoat : Cond.selects yX4_isBoat.cls yX4_isBoat yX4_isBoat ∈ lw_all := List.mem_filter.mpr ⟨List.mem_append_left _ (List.mem_of_getElem? (i := 6) (by decide +kernel)), by decide⟩
theorem wo_yX3_stand : Cond.selects yX3_stand.cls yX3_stand yX3_stand ∈ lw_all := List.mem_filter.mpr ⟨List.mem_append_left _ (List.mem_of_getElem? (i := 7) (by decide +kernel)), by decide⟩
theorem wo_yX3_hearOf : Cond.selects yX3_hearOf.cls yX3_hearOf yX3_hearOf ∈ lw_all := List.mem_filter.mpr ⟨List.mem_append_left _ (List.mem_of_getElem? (i := 8) (by decide +kernel)), by decide⟩
theorem wo_yX3_tell : Cond.selects yX3_tell.cls yX3_tell yX3_tell ∈ lw_all := List.mem_filter.mpr ⟨List.mem_append_left _ (List.mem_of_getElem? (i := 9) (by decide +kernel)), by decide⟩
theorem wo_yX3_takeFrom : Cond.selects yX3_takeFrom.cls yX3_takeFrom yX3_takeFrom ∈ lw_all := List.mem_filter.mpr ⟨List.mem_append_left _ (List.mem_of_getElem? (i := 10) (by decide +kernel)), by decide⟩
theorem wo_yX3_commit : Cond.selects yX3_commit.cls yX3_commit yX3_commit ∈ lw_all := List.mem_filter.mpr ⟨List.mem_append_left _ (List.mem_of_getElem? (i := 11) (by decide +kernel)), by decide⟩
theorem wo_yX4_boatTold : Cond.selects yX4_boatTold.cls yX4_boatTold yX4_boatTold ∈ lw_all := List.mem_filter.mpr ⟨List.mem_append_left _ (List.mem_of_getElem? (i := 12) (by decide +kernel)), by decide⟩
theorem wo_yX4_entryTold : Cond.selects yX4_entryTold.cls yX4_entryTold yX4_entryTold ∈ lw_all := List.mem_filter.mpr ⟨List.mem_append_left _ (List.mem_of_getElem? (i := 13) (by decide +kernel)), by decide⟩
theorem wo_yX4_harbourTold : Cond.selects yX4_harbourTold.cls yX4_harbourTold yX4_harbourTold ∈ lw_all := List.mem_filter.mpr ⟨List.mem_append_left _ (List.mem_of_getElem? (i := 14) (by decide +kernel)), by decide⟩
theorem wu_X0 : ∀ w ∈ u_ws RX0 TX0 13, w ∈ lw_all := fun w hw => by
  have h : ∀ w ∈ u_ws RX0 TX0 13, goodWord w = true := by decide +kernel
  refine List.mem_filter.mpr ⟨List.mem_append_right _ ?_, h w hw⟩
  have h2 : u_ws RX0 TX0 13 = [73, 75, 77, 79, 81, 83, 85, 87, 89, 91, 93, 95, 97].filterMap (fun i => tables_1[i]?) := by decide +kernel
  rw [h2] at hw
  obtain ⟨i, -, hi⟩ := List.mem_filterMap.mp hw
  exact List.mem_of_getElem? hi
theorem wu_X1 : ∀ w ∈ u_ws RX1 TX1 4, w ∈ lw_all := fun w hw => by
  have h : ∀ w ∈ u_ws RX1 TX1 4, goodWord w = true := by decide +kernel
  refine List.mem_filter.mpr ⟨List.mem_append_right _ ?_, h w hw⟩
  have h2 : u_ws RX1 TX1 4 = [42, 44, 46, 48].filterMap (fun i => tables_1[i]?) := by decide +kernel
  rw [h2] at hw
  obtain ⟨i, -, hi⟩ := List.mem_filterMap.mp hw
  exact List.mem_of_getElem? hi
theorem wu_X2 : ∀ w ∈ u_ws RX2 TX2 2, w ∈ lw_all := fun w hw => by
  have h : ∀ w ∈ u_ws RX2 TX2 2, goodWord w = true := by decide +kernel
  refine List.mem_filter.mpr ⟨List.mem_append_right _ ?_, h w hw⟩
  have h2 : u_ws RX2 TX2 2 = [116, 118].filterMap (fun i => tables_1[i]?) := by decide +kernel
  rw [h2] at hw
  obtain ⟨i, -, hi⟩ := List.mem_filterMap.mp hw
  exact List.mem_of_getElem? hi
theorem wu_X3 : ∀ w ∈ u_ws RX3 TX3 16, w ∈ lw_all := fun w hw => by
  have h : ∀ w ∈ u_ws RX3 TX3 16, goodWord w = true := by decide +kernel
  refine List.mem_filter.mpr ⟨List.mem_append_right _ ?_, h w hw⟩
  have h2 : u_ws RX3 TX3 16 = [580, 582, 584, 586, 588, 590, 592, 594, 596, 598, 600, 602, 604, 606, 608, 610].filterMap (fun i => tables_1[i]?) := by decide +kernel
  rw [h2] at hw
  obtain ⟨i, -, hi⟩ := List.mem_filterMap.mp hw
  exact List.mem_of_getElem? hi
theorem wu_X4 : ∀ w ∈ u_ws RX4 TX4 3, w ∈ lw_all := fun w hw => by
  have h : ∀ w ∈ u_ws RX4 TX4 3, goodWord w = true := by decide +kernel
  refine List.mem_filter.mpr ⟨List.mem_append_right _ ?_, h w hw⟩
  have h2 : u_ws RX4 TX4 3 = [616, 618, 620].filterMap (fun i => tables_1[i]?) := by decide +kernel
  rw [h2] at hw
  obtain ⟨i, -, hi⟩ := List.mem_filterMap.mp hw
  exact List.mem_of_getElem? hi
theorem wq_yX2_init : zCal yX2_init cX2_init 1 none 0 := ⟨wk_yX2_init, wi_X2, by decide, by decide, by decide +kernel⟩
theorem wq_yX0_init : zCal yX0_init cX0_init 1 none 0 := ⟨wk_yX0_init, wi_X0, by decide, by decide, by decide +kernel⟩
theorem wq_yX1_init : zCal yX1_init cX1_init 1 none 0 := ⟨wk_yX1_init, wi_X1, by decide, by decide, by decide +kernel⟩
theorem wq_yX0_begin : zCal yX0_begin cX0_begin 3 none 1 := ⟨wk_yX0_begin, wi_X0, by decide, by decide, by decide +kernel⟩
theorem wq_yX1_clear : zCal yX1_clear cX1_clear 2 none 1 := ⟨wk_yX1_clear, wi_X1, by decide, by decide, by decide +kernel⟩
theorem wq_yX2_leader : zCal yX2_leader cX2_leader 3 (some .int) 0 := ⟨wk_yX2_leader, wi_X2, by decide, by decide, by decide +kernel⟩
theorem wq_yX0_leadsNow : zCal yX0_leadsNow cX0_leadsNow 2 (some .boolean) 1 := ⟨wk_yX0_leadsNow, wi_X0, by decide, by decide, by decide +kernel⟩
theorem wq_yX2_until : zCal yX2_until cX2_until 2 (some .int) 0 := ⟨wk_yX2_until, wi_X2, by decide, by decide, by decide +kernel⟩
theorem wq_yX0_copyFrom : zCal yX0_copyFrom cX0_copyFrom 3 none 1 := ⟨wk_yX0_copyFrom, wi_X0, by decide, by decide, by decide +kernel⟩
theorem wq_yX1_copyFrom : zCal yX1_copyFrom cX1_copyFrom 2 none 1 := ⟨wk_yX1_copyFrom, wi_X1, by decide, by decide, by decide +kernel⟩
theorem wq_yX0_isLed : zCal yX0_isLed cX0_isLed 2 (some .boolean) 0 := ⟨wk_yX0_isLed, wi_X0, by decide, by decide, by decide +kernel⟩
theorem wq_yX0_upIn : zCal yX0_upIn cX0_upIn 4 (some .int) 1 := ⟨wk_yX0_upIn, wi_X0, by decide, by decide, by decide +kernel⟩
theorem wq_yX0_isMoreThanHalf : zCal yX0_isMoreThanHalf cX0_isMoreThanHalf 2 (some .boolean) 1 := ⟨wk_yX0_isMoreThanHalf, wi_X0, by decide, by decide, by decide +kernel⟩
theorem wq_yX0_passHours : zCal yX0_passHours cX0_passHours 3 none 1 := ⟨wk_yX0_passHours, wi_X0, by decide, by decide, by decide +kernel⟩
theorem wq_yX0_runClocks : zCal yX0_runClocks cX0_runClocks 2 none 0 := ⟨wk_yX0_runClocks, wi_X0, by decide, by decide, by decide +kernel⟩
theorem wq_yX0_stand : zCal yX0_stand cX0_stand 4 none 1 := ⟨wk_yX0_stand, wi_X0, by decide, by decide, by decide +kernel⟩
theorem wq_yX0_hear : zCal yX0_hear cX0_hear 3 (some .boolean) 2 := ⟨wk_yX0_hear, wi_X0, by decide, by decide, by decide +kernel⟩
theorem wq_yX0_givesVote : zCal yX0_givesVote cX0_givesVote 4 (some .boolean) 2 := ⟨wk_yX0_givesVote, wi_X0, by decide, by decide, by decide +kernel⟩
theorem wq_yX0_meetTerms : zCal yX0_meetTerms cX0_meetTerms 3 (some .boolean) 2 := ⟨wk_yX0_meetTerms, wi_X0, by decide, by decide, by decide +kernel⟩
theorem wq_yX0_takeTerm : zCal yX0_takeTerm cX0_takeTerm 3 none 2 := ⟨wk_yX0_takeTerm, wi_X0, by decide, by decide, by decide +kernel⟩
theorem wq_yX1_asNew : zCal yX1_asNew cX1_asNew 5 (some .boolean) 2 := ⟨wk_yX1_asNew, wi_X1, by decide, by decide, by decide +kernel⟩
theorem wq_yX1_lastTerm : zCal yX1_lastTerm cX1_lastTerm 2 (some .int) 1 := ⟨wk_yX1_lastTerm, wi_X1, by decide, by decide, by decide +kernel⟩
theorem wq_yX0_tellAll : zCal yX0_tellAll cX0_tellAll 2 none 0 := ⟨wk_yX0_tellAll, wi_X0, by decide, by decide, by decide +kernel⟩
theorem wq_yX0_tellOthers : zCal yX0_tellOthers cX0_tellOthers 3 none 1 := ⟨wk_yX0_tellOthers, wi_X0, by decide, by decide, by decide +kernel⟩
theorem wq_yX0_tell : zCal yX0_tell cX0_tell 3 none 2 := ⟨wk_yX0_tell, wi_X0, by decide, by decide, by decide +kernel⟩
theorem wq_yX1_mend : zCal yX1_mend cX1_mend 4 (some .boolean) 2 := ⟨wk_yX1_mend, wi_X1, by decide, by decide, by decide +kernel⟩
theorem wq_yX1_agreement : zCal yX1_agreement cX1_agreement 7 (some .int) 2 := ⟨wk_yX1_agreement, wi_X1, by decide, by decide, by decide +kernel⟩
theorem wq_yX1_loseLast : zCal yX1_loseLast cX1_loseLast 2 none 1 := ⟨wk_yX1_loseLast, wi_X1, by decide, by decide, by decide +kernel⟩
theorem wq_yX1_termAt : zCal yX1_termAt cX1_termAt 3 (some .int) 2 := ⟨wk_yX1_termAt, wi_X1, by decide, by decide, by decide +kernel⟩
theorem wq_yX1_fishAt : zCal yX1_fishAt cX1_fishAt 3 (some .int) 2 := ⟨wk_yX1_fishAt, wi_X1, by decide, by decide, by decide +kernel⟩
theorem wq_yX1_append : zCal yX1_append cX1_append 5 none 3 := ⟨wk_yX1_append, wi_X1, by decide, by decide, by decide +kernel⟩
theorem wq_yX1_learnCommitted : zCal yX1_learnCommitted cX1_learnCommitted 4 none 2 := ⟨wk_yX1_learnCommitted, wi_X1, by decide, by decide, by decide +kernel⟩
theorem wq_yX0_commitAll : zCal yX0_commitAll cX0_commitAll 2 none 0 := ⟨wk_yX0_commitAll, wi_X0, by decide, by decide, by decide +kernel⟩
theorem wq_yX0_commit : zCal yX0_commit cX0_commit 3 none 1 := ⟨wk_yX0_commit, wi_X0, by decide, by decide, by decide +kernel⟩
theorem wq_yX0_hearersThatAgree : zCal yX0_hearersThatAgree cX0_hearersThatAgree 5 (some .int) 2 := ⟨wk_yX0_hearersThatAgree, wi_X0, by decide, by decide, by decide +kernel⟩
theorem wq_yX2_mean : zCal yX2_mean cX2_mean 3 (some .double) 0 := ⟨wk_yX2_mean, wi_X2, by decide, by decide, by decide +kernel⟩
theorem wq_yX2_digest : zCal yX2_digest cX2_digest 4 (some .long) 0 := ⟨wk_yX2_digest, wi_X2, by decide, by decide, by decide +kernel⟩
theorem wq_yX0_ofFleet : zCal yX0_ofFleet cX0_ofFleet 2 (some .int) 1 := ⟨wk_yX0_ofFleet, wi_X0, by decide, by decide, by decide +kernel⟩
theorem wq_yX0_boatsUp : zCal yX0_boatsUp cX0_boatsUp 3 (some .int) 0 := ⟨wk_yX0_boatsUp, wi_X0, by decide, by decide, by decide +kernel⟩
theorem wq_yX0_boatsLeading : zCal yX0_boatsLeading cX0_boatsLeading 3 (some .int) 0 := ⟨wk_yX0_boatsLeading, wi_X0, by decide, by decide, by decide +kernel⟩
theorem wq_yX0_greatestTerm : zCal yX0_greatestTerm cX0_greatestTerm 3 (some .int) 0 := ⟨wk_yX0_greatestTerm, wi_X0, by decide, by decide, by decide +kernel⟩
theorem wq_yX0_mostKnown : zCal yX0_mostKnown cX0_mostKnown 3 (some .int) 0 := ⟨wk_yX0_mostKnown, wi_X0, by decide, by decide, by decide +kernel⟩
theorem wq_yX0_fewestKnown : zCal yX0_fewestKnown cX0_fewestKnown 3 (some .int) 0 := ⟨wk_yX0_fewestKnown, wi_X0, by decide, by decide, by decide +kernel⟩
theorem wq_yX2_digestOfBoat : zCal yX2_digestOfBoat cX2_digestOfBoat 8 (some .long) 2 := ⟨wk_yX2_digestOfBoat, wi_X2, by decide, by decide, by decide +kernel⟩
theorem wq_yX0_ofBoat : zCal yX0_ofBoat cX0_ofBoat 3 (some .int) 2 := ⟨wk_yX0_ofBoat, wi_X0, by decide, by decide, by decide +kernel⟩
theorem wq_yX0_ofEntry : zCal yX0_ofEntry cX0_ofEntry 4 (some .int) 3 := ⟨wk_yX0_ofEntry, wi_X0, by decide, by decide, by decide +kernel⟩
theorem wq_yX0_boatsThatAgree : zCal yX0_boatsThatAgree cX0_boatsThatAgree 5 (some .int) 2 := ⟨wk_yX0_boatsThatAgree, wi_X0, by decide, by decide, by decide +kernel⟩
theorem wq_yX2_fleet : zCal yX2_fleet cX2_fleet 2 (some .int) 1 := ⟨wk_yX2_fleet, wi_X2, by decide, by decide, by decide +kernel⟩
theorem wq_yX2_setPatience : zCal yX2_setPatience cX2_setPatience 4 (some .int) 2 := ⟨wk_yX2_setPatience, wi_X2, by decide, by decide, by decide +kernel⟩
theorem wq_yX2_needBoat : zCal yX2_needBoat cX2_needBoat 2 none 1 := ⟨wk_yX2_needBoat, wi_X2, by decide, by decide, by decide +kernel⟩
theorem wq_yX2_go : zCal yX2_go cX2_go 4 (some .int) 2 := ⟨wk_yX2_go, wi_X2, by decide, by decide, by decide +kernel⟩
theorem wq_yX2_needBelow : zCal yX2_needBelow cX2_needBelow 3 none 2 := ⟨wk_yX2_needBelow, wi_X2, by decide, by decide, by decide +kernel⟩
theorem wq_yX2_sink : zCal yX2_sink cX2_sink 2 (some .boolean) 1 := ⟨wk_yX2_sink, wi_X2, by decide, by decide, by decide +kernel⟩
theorem wq_yX0_raise : zCal yX0_raise cX0_raise 2 none 1 := ⟨wk_yX0_raise, wi_X0, by decide, by decide, by decide +kernel⟩
theorem wq_yX2_write : zCal yX2_write cX2_write 3 (some .int) 2 := ⟨wk_yX2_write, wi_X2, by decide, by decide, by decide +kernel⟩
theorem wq_yX2_pass : zCal yX2_pass cX2_pass 3 (some .int) 1 := ⟨wk_yX2_pass, wi_X2, by decide, by decide, by decide +kernel⟩
theorem wq_yX2_needHours : zCal yX2_needHours cX2_needHours 3 none 2 := ⟨wk_yX2_needHours, wi_X2, by decide, by decide, by decide +kernel⟩
theorem wq_yX2_told : zCal yX2_told cX2_told 3 (some .int) 2 := ⟨wk_yX2_told, wi_X2, by decide, by decide, by decide +kernel⟩
theorem wq_yX2_entry : zCal yX2_entry cX2_entry 4 (some .int) 3 := ⟨wk_yX2_entry, wi_X2, by decide, by decide, by decide +kernel⟩
theorem wq_yX2_agree : zCal yX2_agree cX2_agree 3 (some .int) 2 := ⟨wk_yX2_agree, wi_X2, by decide, by decide, by decide +kernel⟩
theorem wq_yX2_newer : zCal yX2_newer cX2_newer 3 (some .boolean) 2 := ⟨wk_yX2_newer, wi_X2, by decide, by decide, by decide +kernel⟩
theorem wq_yX2_count : zCal yX2_count cX2_count 2 (some .int) 1 := ⟨wk_yX2_count, wi_X2, by decide, by decide, by decide +kernel⟩
theorem wq_yX2_harbour : zCal yX2_harbour cX2_harbour 4 (some .int) 2 := ⟨wk_yX2_harbour, wi_X2, by decide, by decide, by decide +kernel⟩
theorem wq_yX0_newestIn : zCal yX0_newestIn cX0_newestIn 4 (some .int) 1 := ⟨wk_yX0_newestIn, wi_X0, by decide, by decide, by decide +kernel⟩
theorem wq_yX2_foresee : zCal yX2_foresee cX2_foresee 3 (some .int) 2 := ⟨wk_yX2_foresee, wi_X2, by decide, by decide, by decide +kernel⟩
theorem wq_yX2_advise : zCal yX2_advise cX2_advise 7 (some .int) 2 := ⟨wk_yX2_advise, wi_X2, by decide, by decide, by decide +kernel⟩
theorem wq_yX4_init : zCal yX4_init cX4_init 1 none 0 := ⟨wk_yX4_init, wi_X4, by decide, by decide, by decide +kernel⟩
theorem wq_yX3_init : zCal yX3_init cX3_init 1 none 0 := ⟨wk_yX3_init, wi_X3, by decide, by decide, by decide +kernel⟩
theorem wq_yX3_begin : zCal yX3_begin cX3_begin 3 none 1 := ⟨wk_yX3_begin, wi_X3, by decide, by decide, by decide +kernel⟩
theorem wq_yX4_thrown : zCal yX4_thrown cX4_thrown 1 (some .int) 0 := ⟨wk_yX4_thrown, wi_X4, by decide, by decide, by decide +kernel⟩
theorem wq_yX4_fleet : zCal yX4_fleet cX4_fleet 2 (some .int) 1 := ⟨wk_yX4_fleet, wi_X4, by decide, by decide, by decide +kernel⟩
theorem wq_yX4_isIn : zCal yX4_isIn cX4_isIn 3 (some .boolean) 3 := ⟨wk_yX4_isIn, wi_X4, by decide, by decide, by decide +kernel⟩
theorem wq_yX4_no : zCal yX4_no cX4_no 2 (some .int) 1 := ⟨wk_yX4_no, wi_X4, by decide, by decide, by decide +kernel⟩
theorem wq_yX4_setPatience : zCal yX4_setPatience cX4_setPatience 4 (some .int) 2 := ⟨wk_yX4_setPatience, wi_X4, by decide, by decide, by decide +kernel⟩
theorem wq_yX4_isBoat : zCal yX4_isBoat cX4_isBoat 2 (some .boolean) 1 := ⟨wk_yX4_isBoat, wi_X4, by decide, by decide, by decide +kernel⟩
theorem wq_yX4_go : zCal yX4_go cX4_go 4 (some .int) 2 := ⟨wk_yX4_go, wi_X4, by decide, by decide, by decide +kernel⟩
theorem wq_yX4_sink : zCal yX4_sink cX4_sink 2 (some .boolean) 1 := ⟨wk_yX4_sink, wi_X4, by decide, by decide, by decide +kernel⟩
theorem wq_yX4_write : zCal yX4_write cX4_write 3 (some .int) 2 := ⟨wk_yX4_write, wi_X4, by decide, by decide, by decide +kernel⟩
theorem wq_yX3_isUp : zCal yX3_isUp cX3_isUp 3 (some .boolean) 2 := ⟨wk_yX3_isUp, wi_X3, by decide, by decide, by decide +kernel⟩
theorem wq_yX3_add : zCal yX3_add cX3_add 4 none 3 := ⟨wk_yX3_add, wi_X3, by decide, by decide, by decide +kernel⟩
theorem wq_yX4_pass : zCal yX4_pass cX4_pass 3 (some .int) 1 := ⟨wk_yX4_pass, wi_X4, by decide, by decide, by decide +kernel⟩
theorem wq_yX3_passOn : zCal yX3_passOn cX3_passOn 3 none 1 := ⟨wk_yX3_passOn, wi_X3, by decide, by decide, by decide +kernel⟩
theorem wq_yX3_pass : zCal yX3_pass cX3_pass 2 none 0 := ⟨wk_yX3_pass, wi_X3, by decide, by decide, by decide +kernel⟩
theorem wq_yX3_stand : zCal yX3_stand cX3_stand 4 none 1 := ⟨wk_yX3_stand, wi_X3, by decide, by decide, by decide +kernel⟩
theorem wq_yX3_hear : zCal yX3_hear cX3_hear 3 (some .boolean) 2 := ⟨wk_yX3_hear, wi_X3, by decide, by decide, by decide +kernel⟩
theorem wq_yX3_hearOf : zCal yX3_hearOf cX3_hearOf 3 none 2 := ⟨wk_yX3_hearOf, wi_X3, by decide, by decide, by decide +kernel⟩
theorem wq_yX3_isAsNew : zCal yX3_isAsNew cX3_isAsNew 3 (some .boolean) 2 := ⟨wk_yX3_isAsNew, wi_X3, by decide, by decide, by decide +kernel⟩
theorem wq_yX3_lastTerm : zCal yX3_lastTerm cX3_lastTerm 2 (some .int) 1 := ⟨wk_yX3_lastTerm, wi_X3, by decide, by decide, by decide +kernel⟩
theorem wq_yX3_isMore : zCal yX3_isMore cX3_isMore 2 (some .boolean) 1 := ⟨wk_yX3_isMore, wi_X3, by decide, by decide, by decide +kernel⟩
theorem wq_yX3_tell : zCal yX3_tell cX3_tell 3 none 1 := ⟨wk_yX3_tell, wi_X3, by decide, by decide, by decide +kernel⟩
theorem wq_yX3_takeFrom : zCal yX3_takeFrom cX3_takeFrom 4 none 2 := ⟨wk_yX3_takeFrom, wi_X3, by decide, by decide, by decide +kernel⟩
theorem wq_yX3_agree : zCal yX3_agree cX3_agree 4 (some .int) 2 := ⟨wk_yX3_agree, wi_X3, by decide, by decide, by decide +kernel⟩
theorem wq_yX3_commit : zCal yX3_commit cX3_commit 5 none 1 := ⟨wk_yX3_commit, wi_X3, by decide, by decide, by decide +kernel⟩
theorem wq_yX4_told : zCal yX4_told cX4_told 3 (some .int) 2 := ⟨wk_yX4_told, wi_X4, by decide, by decide, by decide +kernel⟩
theorem wq_yX4_boatTold : zCal yX4_boatTold cX4_boatTold 3 (some .int) 2 := ⟨wk_yX4_boatTold, wi_X4, by decide, by decide, by decide +kernel⟩
theorem wq_yX4_entry : zCal yX4_entry cX4_entry 4 (some .int) 3 := ⟨wk_yX4_entry, wi_X4, by decide, by decide, by decide +kernel⟩
theorem wq_yX4_entryTold : zCal yX4_entryTold cX4_entryTold 6 (some .int) 3 := ⟨wk_yX4_entryTold, wi_X4, by decide, by decide, by decide +kernel⟩
theorem wq_yX4_agree : zCal yX4_agree cX4_agree 3 (some .int) 2 := ⟨wk_yX4_agree, wi_X4, by decide, by decide, by decide +kernel⟩
theorem wq_yX4_newer : zCal yX4_newer cX4_newer 3 (some .boolean) 2 := ⟨wk_yX4_newer, wi_X4, by decide, by decide, by decide +kernel⟩
theorem wq_yX4_leader : zCal yX4_leader cX4_leader 3 (some .int) 0 := ⟨wk_yX4_leader, wi_X4, by decide, by decide, by decide +kernel⟩
theorem wq_yX4_count : zCal yX4_count cX4_count 2 (some .int) 1 := ⟨wk_yX4_count, wi_X4, by decide, by decide, by decide +kernel⟩
theorem wq_yX3_counted : zCal yX3_counted cX3_counted 8 (some .int) 1 := ⟨wk_yX3_counted, wi_X3, by decide, by decide, by decide +kernel⟩
theorem wq_yX4_harbour : zCal yX4_harbour cX4_harbour 3 (some .int) 2 := ⟨wk_yX4_harbour, wi_X4, by decide, by decide, by decide +kernel⟩
theorem wq_yX4_harbourTold : zCal yX4_harbourTold cX4_harbourTold 6 (some .int) 2 := ⟨wk_yX4_harbourTold, wi_X4, by decide, by decide, by decide +kernel⟩
theorem wq_yX4_until : zCal yX4_until cX4_until 2 (some .int) 0 := ⟨wk_yX4_until, wi_X4, by decide, by decide, by decide +kernel⟩
theorem wq_yX3_become : zCal yX3_become cX3_become 2 none 1 := ⟨wk_yX3_become, wi_X3, by decide, by decide, by decide +kernel⟩
theorem wq_yX3_copy : zCal yX3_copy cX3_copy 2 none 2 := ⟨wk_yX3_copy, wi_X3, by decide, by decide, by decide +kernel⟩
theorem wq_yX3_isLed : zCal yX3_isLed cX3_isLed 4 (some .boolean) 0 := ⟨wk_yX3_isLed, wi_X3, by decide, by decide, by decide +kernel⟩
theorem wq_yX4_foresee : zCal yX4_foresee cX4_foresee 3 (some .int) 2 := ⟨wk_yX4_foresee, wi_X4, by decide, by decide, by decide +kernel⟩
theorem wq_yX4_advise : zCal yX4_advise cX4_advise 6 (some .int) 2 := ⟨wk_yX4_advise, wi_X4, by decide, by decide, by decide +kernel⟩
theorem wq_yX4_mean : zCal yX4_mean cX4_mean 3 (some .double) 0 := ⟨wk_yX4_mean, wi_X4, by decide, by decide, by decide +kernel⟩
theorem wq_yX4_digest : zCal yX4_digest cX4_digest 6 (some .long) 0 := ⟨wk_yX4_digest, wi_X4, by decide, by decide, by decide +kernel⟩
end
