section
-- ===== PART A: goes FIRST, ahead of the names: the tables' words, and 'selects' of the private methods out of them =====
/-- a private method of a class that the tables say can be made, by its rows of tables_1 -/
def lw_okq (q : MethodName × Nat) : Prop := (q.1.cls ≠ "java/lang/invoke/MethodHandle" ∧ q.1.cls ≠ "java/lang/invoke/VarHandle") ∧ Cond.instantiable q.1.cls q.2 ∈ tables_1 ∧ Cond.privateMethod q.1 ∈ tables_1 ∧ Cond.instanceMethod q.1 ∈ tables_1
theorem lw_p0 : lw_okq (⟨"FleetTerms", "digestOfBoat", "(JI)J"⟩, 2) := ⟨⟨by decide +kernel, by decide +kernel⟩, List.mem_of_getElem? (i := 15) (by decide +kernel), List.mem_of_getElem? (i := 284) (by decide +kernel), List.mem_of_getElem? (i := 285) (by decide +kernel)⟩
theorem lw_p1 : lw_okq (⟨"java/lang/Throwable", "fillInStackTrace", "(I)Ljava/lang/Throwable;"⟩, 6) := ⟨⟨by decide +kernel, by decide +kernel⟩, List.mem_of_getElem? (i := 348) (by decide +kernel), List.mem_of_getElem? (i := 346) (by decide +kernel), List.mem_of_getElem? (i := 347) (by decide +kernel)⟩
theorem lw_p2 : lw_okq (⟨"FleetTerms", "needBoat", "(I)V"⟩, 2) := ⟨⟨by decide +kernel, by decide +kernel⟩, List.mem_of_getElem? (i := 15) (by decide +kernel), List.mem_of_getElem? (i := 386) (by decide +kernel), List.mem_of_getElem? (i := 387) (by decide +kernel)⟩
theorem lw_p3 : lw_okq (⟨"FleetTerms", "needBelow", "(II)V"⟩, 2) := ⟨⟨by decide +kernel, by decide +kernel⟩, List.mem_of_getElem? (i := 15) (by decide +kernel), List.mem_of_getElem? (i := 414) (by decide +kernel), List.mem_of_getElem? (i := 415) (by decide +kernel)⟩
theorem lw_p4 : lw_okq (⟨"FleetTerms", "needHours", "(II)V"⟩, 2) := ⟨⟨by decide +kernel, by decide +kernel⟩, List.mem_of_getElem? (i := 15) (by decide +kernel), List.mem_of_getElem? (i := 464) (by decide +kernel), List.mem_of_getElem? (i := 465) (by decide +kernel)⟩
theorem lw_p5 : lw_okq (⟨"FleetTermsModel", "no", "(I)I"⟩, 3) := ⟨⟨by decide +kernel, by decide +kernel⟩, List.mem_of_getElem? (i := 536) (by decide +kernel), List.mem_of_getElem? (i := 635) (by decide +kernel), List.mem_of_getElem? (i := 636) (by decide +kernel)⟩
theorem lw_p6 : lw_okq (⟨"FleetTermsModel", "isBoat", "(I)Z"⟩, 3) := ⟨⟨by decide +kernel, by decide +kernel⟩, List.mem_of_getElem? (i := 536) (by decide +kernel), List.mem_of_getElem? (i := 644) (by decide +kernel), List.mem_of_getElem? (i := 645) (by decide +kernel)⟩
theorem lw_p7 : lw_okq (⟨"FleetTermsModel$State", "stand", "(I)V"⟩, 16) := ⟨⟨by decide +kernel, by decide +kernel⟩, List.mem_of_getElem? (i := 542) (by decide +kernel), List.mem_of_getElem? (i := 680) (by decide +kernel), List.mem_of_getElem? (i := 681) (by decide +kernel)⟩
theorem lw_p8 : lw_okq (⟨"FleetTermsModel$State", "hearOf", "(II)V"⟩, 16) := ⟨⟨by decide +kernel, by decide +kernel⟩, List.mem_of_getElem? (i := 542) (by decide +kernel), List.mem_of_getElem? (i := 688) (by decide +kernel), List.mem_of_getElem? (i := 689) (by decide +kernel)⟩
theorem lw_p9 : lw_okq (⟨"FleetTermsModel$State", "tell", "(I)V"⟩, 16) := ⟨⟨by decide +kernel, by decide +kernel⟩, List.mem_of_getElem? (i := 542) (by decide +kernel), List.mem_of_getElem? (i := 705) (by decide +kernel), List.mem_of_getElem? (i := 706) (by decide +kernel)⟩
theorem lw_p10 : lw_okq (⟨"FleetTermsModel$State", "takeFrom", "(II)V"⟩, 16) := ⟨⟨by decide +kernel, by decide +kernel⟩, List.mem_of_getElem? (i := 542) (by decide +kernel), List.mem_of_getElem? (i := 709) (by decide +kernel), List.mem_of_getElem? (i := 710) (by decide +kernel)⟩
theorem lw_p11 : lw_okq (⟨"FleetTermsModel$State", "commit", "(I)V"⟩, 16) := ⟨⟨by decide +kernel, by decide +kernel⟩, List.mem_of_getElem? (i := 542) (by decide +kernel), List.mem_of_getElem? (i := 720) (by decide +kernel), List.mem_of_getElem? (i := 721) (by decide +kernel)⟩
theorem lw_p12 : lw_okq (⟨"FleetTermsModel", "boatTold", "(II)I"⟩, 3) := ⟨⟨by decide +kernel, by decide +kernel⟩, List.mem_of_getElem? (i := 536) (by decide +kernel), List.mem_of_getElem? (i := 728) (by decide +kernel), List.mem_of_getElem? (i := 729) (by decide +kernel)⟩
theorem lw_p13 : lw_okq (⟨"FleetTermsModel", "entryTold", "(III)I"⟩, 3) := ⟨⟨by decide +kernel, by decide +kernel⟩, List.mem_of_getElem? (i := 536) (by decide +kernel), List.mem_of_getElem? (i := 737) (by decide +kernel), List.mem_of_getElem? (i := 738) (by decide +kernel)⟩
theorem lw_p14 : lw_okq (⟨"FleetTermsModel", "harbourTold", "(II)I"⟩, 3) := ⟨⟨by decide +kernel, by decide +kernel⟩, List.mem_of_getElem? (i := 536) (by decide +kernel), List.mem_of_getElem? (i := 767) (by decide +kernel), List.mem_of_getElem? (i := 768) (by decide +kernel)⟩
def lw_privs_1 : List (MethodName × Nat) := [(⟨"FleetTerms", "digestOfBoat", "(JI)J"⟩, 2), (⟨"java/lang/Throwable", "fillInStackTrace", "(I)Ljava/lang/Throwable;"⟩, 6), (⟨"FleetTerms", "needBoat", "(I)V"⟩, 2), (⟨"FleetTerms", "needBelow", "(II)V"⟩, 2), (⟨"FleetTerms", "needHours", "(II)V"⟩, 2), (⟨"FleetTermsModel", "no", "(I)I"⟩, 3), (⟨"FleetTermsModel", "isBoat", "(I)Z"⟩, 3), (⟨"FleetTermsModel$State", "stand", "(I)V"⟩, 16), (⟨"FleetTermsModel$State", "hearOf", "(II)V"⟩, 16), (⟨"FleetTermsModel$State", "tell", "(I)V"⟩, 16), (⟨"FleetTermsModel$State", "takeFrom", "(II)V"⟩, 16), (⟨"FleetTermsModel$State", "commit", "(I)V"⟩, 16), (⟨"FleetTermsModel", "boatTold", "(II)I"⟩, 3), (⟨"FleetTermsModel", "entryTold", "(III)I"⟩, 3), (⟨"FleetTermsModel", "harbourTold", "(II)I"⟩, 3)]
theorem lw_r1 : ∀ q ∈ lw_privs_1, lw_okq q := List.forall_mem_cons.mpr ⟨lw_p0, List.forall_mem_cons.mpr ⟨lw_p1, List.forall_mem_cons.mpr ⟨lw_p2, List.forall_mem_cons.mpr ⟨lw_p3, List.forall_mem_cons.mpr ⟨lw_p4, List.forall_mem_cons.mpr ⟨lw_p5, List.forall_mem_cons.mpr ⟨lw_p6, List.forall_mem_cons.mpr ⟨lw_p7, List.forall_mem_cons.mpr ⟨lw_p8, List.forall_mem_cons.mpr ⟨lw_p9, List.forall_mem_cons.mpr ⟨lw_p10, List.forall_mem_cons.mpr ⟨lw_p11, List.forall_mem_cons.mpr ⟨lw_p12, List.forall_mem_cons.mpr ⟨lw_p13, List.forall_mem_cons.mpr ⟨lw_p14, fun _ h => absurd h List.not_mem_nil⟩⟩⟩⟩⟩⟩⟩⟩⟩⟩⟩⟩⟩⟩⟩
def lw_privs : List (MethodName × Nat) := lw_privs_1
def lw_tbl : List Cond := k2_sels lw_privs ++ tables_1
theorem lw_privs_ok : ∀ q ∈ lw_privs, lw_okq q := lw_r1
/-- the streams that the claim lets the run draw from -/
abbrev lw_cs : List Choice := [Jvm.Choice.named "NaN.bits"]
theorem lw_bits : nanBits ∈ lw_cs := by first | decide | exact List.mem_cons_self | simp [lw_cs, nanBits]
-- ===== end of PART A; then your names; then what follows =====
end
section
/-! ===== BEGIN words of one list among another's, by their places ===== -/
theorem goodIn_r {big : List Cond} (ws : List Cond) (ps : List Nat) (hp : ws = ps.filterMap (fun i => big[i]?)) (h : ws.all goodWord = true) : GoodIn big ws := by
  intro w hw
  have h1 := List.all_eq_true.mp h w hw
  rw [hp] at hw
  obtain ⟨i, -, hi⟩ := List.mem_filterMap.mp hw
  have hm : w ∈ big := by first | exact List.mem_of_getElem? hi | exact List.getElem?_mem hi
  exact ⟨hm, good_of_word h1⟩
theorem goodIn_app {big a b : List Cond} (ha : GoodIn big a) (hb : GoodIn big b) : GoodIn big (a ++ b) := fun w h => (List.mem_append.mp h).elim (ha w) (hb w)
theorem goodIn_ca {big a b : List Cond} {c : Cond} (ha : GoodIn big (c :: a)) (hb : GoodIn big b) : GoodIn big (c :: (a ++ b)) := fun w h => (List.mem_cons.mp h).elim (fun e => ha w (List.mem_cons.mpr (Or.inl e))) (fun h => (List.mem_append.mp h).elim (fun h => ha w (List.mem_cons.mpr (Or.inr h))) (hb w))
theorem goodIn_sub {big ws : List Cond} (hm : ∀ w ∈ ws, w ∈ big) (h : ws.all goodWord = true) : GoodIn big ws := fun w hw => ⟨hm w hw, good_of_word (List.all_eq_true.mp h w hw)⟩
/-! ===== END ===== -/

/-! ===== BEGIN exceptions that leave a method, and their catching by the caller (launches without stack traces) ===== -/
section VXA
/-! The laws vx_back, vx_callV, vx_callS, vx_callSW, vx_throw0, vx_throwS follow proofs of the library, with one case more: JvmDerived/Free/Laws.lean (Back.of_free), Shelf42/LK1.lean (callV, callS), Shelf/KitTraced.lean (throwNew0V, throwNewS). -/
/-- where a method has thrown q: the class by its name, the cell, what was written, the world -/
def vx_T (XC : String → State → State → Prop) (st : State) (q : Addr) (t : State) (mc ms : Nat) (free : Addr → Prop) : Prop :=
  ∃ (E : String) (ce : Cell) (L : List Loc), XC E st t ∧ t.heap[q]? = some ce ∧ ce.vm = .none ∧ st.vm.findClass E = some ce.cls ∧ st.WarmedH t.vm ∧ st.sameButNew ({ t with vm := st.vm } : State) L mc ms ∧ ∀ z ∈ L, free z.base
def vx_Q (Qc : Array Value → State → Outcome → State → Prop) (XC : String → State → State → Prop) (mc ms : Nat) (free : Addr → Prop) : Array Value → State → Outcome → State → Prop := fun a st o t =>
  (Qc a st o t ∧ ∃ L, FrameEnd st o t L mc ms ∧ ∀ q ∈ L, free q.base) ∨ ∃ q, o = .threw q ∧ vx_T XC st q t mc ms free
/-- a callee that returns or throws -/
def vx_Met (l : Launch) (y : MethodName) (ws : List Cond) (rm : Room) (Pc : Array Value → State → Prop) (Qc : Array Value → State → Outcome → State → Prop) (XC : String → State → State → Prop) (mc ms : Nat) (free : Addr → Prop) : Prop :=
  MetFree l y (headSpec ws rm) Pc (fun _ _ _ _ _ => True) (vx_Q Qc XC mc ms free)
def vx_Post (XC : String → State → State → Prop) (mc ms : Nat) (free : Addr → Prop) : Pt → Array Value → Addr → Pt → Prop := fun A a q B =>
  ∃ (g : JFrame) (mk : MethodId) (t : State) (L : List Loc) (E : String) (ce : Cell), B.U.heap = t.heap ∧ B.U.vm = t.vm ∧ XC E (A.U.calling g mk a) t ∧ t.heap[q]? = some ce ∧ ce.vm = .none ∧ A.U.vm.findClass E = some ce.cls ∧ B.locs = A.locs ++ L ∧ (∀ z ∈ L, free z.base) ∧ B.cells = A.cells + mc ∧ B.slots = A.slots + ms
def vx_Back (l : Launch) (R : Room) (p : Program) (e : Env) (below : List Frame) (s : State) (sargs : Array Value) (y : MethodName) (len W9 : Nat)
    (Pre : Pt → Array Value → Prop) (Post : Pt → Array Value → Option Value → Pt → Prop) (PostX : Pt → Array Value → Addr → Pt → Prop) : Prop :=
  ∀ (m : MethodId) (meth : Method) (c : Code) (A : Pt) (g : JFrame) (ig : Instr) (mk : MethodId) (a : Array Value),
    Stand p l e R s m sargs below meth c A.U A.locs A.cells A.slots → g.method = m → g.locals.size = c.maxLocals → decode c.code g.pc = .ok (ig, len) →
    2 * g.monitorRoom + (g.stack.map fun v => v.category).sum ≤ W9 → A.U.methodNamed? y = some mk → Pre A a →
    (∃ (v : Option Value) (B : Pt), Stand p l e R s m sargs below meth c B.U B.locs B.cells B.slots ∧ Post A a v B ∧
      Steps p.tables e below (doInvoke e (A.U.setTop g) [] mk a).1 (B.U.setTop { g with pc := g.pc + len, stack := v.toList ++ g.stack })) ∨
    (∃ (q : Addr) (B : Pt), Stand p l e R s m sargs below meth c B.U B.locs B.cells B.slots ∧ PostX A a q B ∧
      Steps p.tables e below (doInvoke e (A.U.setTop g) [] mk a).1 ((B.U.setTop g).pushFrame (.throwing q)))
section Payer
variable {l : Launch} {R : Room} {p : Program} {e : Env} {below : List Frame} {s : State} {sargs : Array Value} {y : MethodName} {len W9 : Nat}
theorem vx_back {ws : List Cond} {rm : Room} {Pc : Array Value → State → Prop} {Qc : Array Value → State → Outcome → State → Prop} {XC : String → State → State → Prop} {mc ms : Nat} {free : Addr → Prop} {bytes : ByteArray} {maxL : Nat} {ret : Option FieldType}
    (hM : vx_Met l y ws rm Pc Qc XC mc ms free) (hblind : FrameBlind Pc) (hrc : rm.cells = mc) (hrs : rm.slots = ms)
    (hframes : rm.frames + 1 ≤ R.frames) (hlocals : W9 + (maxL + 11) + rm.locals ≤ R.locals)
    (hws : ∀ w ∈ ws, ∀ a' U, s.WarmedH U.vm → w.before a' U = true) (hcode : Cond.code y bytes maxL ret ∈ ws) (hinit : ∀ a' U, s.WarmedH U.vm → (Cond.initialized y.cls).before a' U = true) :
    vx_Back l R p e below s sargs y len W9 (PreOf R mc ms Pc) (PostOf Qc mc ms free) (vx_Post XC mc ms free) := by
  intro m meth c A g ig mk a X hg hsize hdg hW hn hp
  have h1 : (headSpec ws rm).pre.before a A.U = true := atoms_intro fun w hw => hws w hw _ _ X.warmed
  have h2 : (Cond.code y bytes maxL ret).before a A.U = true := hws _ hcode _ _ X.warmed
  have h3 : (Cond.initialized y.cls).before a A.U = true := hinit _ _ X.warmed
  have h4 : A.cells + (headSpec ws rm).room.cells ≤ R.cells := by rw [show (headSpec ws rm).room.cells = mc from hrc]; exact hp.1
  have h5 : A.slots + (headSpec ws rm).room.slots ≤ R.slots := by rw [show (headSpec ws rm).room.slots = ms from hrs]; exact hp.2.1
  have hPc : Pc a (A.U.calling g mk a) := hblind _ _ _ _ hp.2.2
  obtain ⟨U, Ls, c0, s0⟩ := A
  dsimp only [Pt.U, Pt.locs, Pt.cells, Pt.slots] at h1 h2 h3 h4 h5 X hn hPc ⊢
  obtain ⟨methY, cY, hmY, hcY, -, hlY, -, -, -, -⟩ := Cond.code_spec hn h2
  obtain ⟨kY, hkY, -⟩ := className_of_methodNamed hn
  have hinitY : kY.init = .initialized := Cond.initialized_spec (findClass_of_methodNamed hn) hkY h3
  have h : At U g.method c below := by rw [hg]; exact X.here
  have hlocals9 : W9 + (maxL + 11) + (headSpec ws rm).room.locals ≤ R.locals := hlocals
  have happ : (headSpec ws rm).appliesLoose y e.platform (U.calling g mk a) = true :=
    Spec.appliesLoose_calling (g := g) h hdg hn hkY hinitY
      (X.room_calling (g := g) (R' := (headSpec ws rm).room) hsize hmY hcY hframes (by rw [hlY]; omega) h4 h5) h1
  obtain ⟨mid, hmid⟩ := h.above
  have hfr : (U.setTop g).frames = (.java g :: mid) ++ below := by rw [State.frames_setTop' g h.top, hmid]; rfl
  obtain ⟨o, s₂, hsteps, -, hend, hq⟩ := Steps.callFree hM p X.admits X.cas X.clock (acts := []) hfr happ hPc trivial
  have hq' : vx_Q Qc XC mc ms free a (U.calling g mk a) o s₂ := hq
  rw [State.frames_setTop' g h.top] at hend
  obtain ⟨g₀, hg0⟩ := Option.isSome_iff_exists.mp h.top
  obtain ⟨r, hr⟩ := State.topJava?_eq_some.mp hg0
  have hr' : (({ U with heap := s₂.heap, slotsUsed := s₂.slotsUsed } : State).setVm s₂.vm).frames = .java g₀ :: r := hr
  rcases hq' with ⟨hqc, L, hfe, hL⟩ | ⟨q, rfl, E, ce, L, hx, hce, hcv, hcl, hW₂, hsm, hL⟩
  · obtain ⟨⟨v, rfl⟩, hW₂, e2, q2, q3, q4, q5, q6⟩ := id hfe
    have e3 : s₂ = ({ (U.calling g mk a).setFrames s₂.frames with heap := s₂.heap, slotsUsed := s₂.slotsUsed } : State).setVm s₂.vm := by
      have : s₂ = ({ s₂ with vm := (U.calling g mk a).vm } : State).setVm s₂.vm := rfl
      rw [e2] at this
      exact this
    obtain ⟨c₂, i₂, len₂, hc₂, hd₂, hf₂⟩ := hend
    have hW' : U.WarmedH s₂.vm := hW₂
    have hcc : c₂ = c := by
      have h1 : s₂.code? g.method = U.code? g.method := by
        rw [State.code?_eq, State.code?_eq, hW'.alike.method?]
      exact Option.some.inj (hc₂.symm.trans (h1.trans h.code))
    subst hcc
    have hlen : len₂ = len := by rw [hdg] at hd₂; cases hd₂; rfl
    subst hlen
    have hs₂ : s₂ = (({ U with heap := s₂.heap, slotsUsed := s₂.slotsUsed } : State).setVm s₂.vm).setTop { g with pc := g.pc + len₂, stack := v.toList ++ g.stack } := by
      refine e3.trans ?_
      rw [hf₂, State.calling_eq h.top, State.setFrames_setFrames, State.setTop_of_frames _ hr', hr]
      rfl
    have hsame : U.sameButNew ({ U with heap := s₂.heap, slotsUsed := s₂.slotsUsed } : State) L mc ms := by
      refine ⟨?_, q2, q3, q4, q5, q6⟩
      obtain ⟨t, ht, -⟩ := State.frames_cons hr
      show ({ U with heap := s₂.heap, slotsUsed := s₂.slotsUsed } : State) = { U.setFrames U.frames with heap := s₂.heap, slotsUsed := s₂.slotsUsed }
      rw [State.setFrames_self ht]
    subst hg
    refine Or.inl ⟨v, ⟨(({ U with heap := s₂.heap, slotsUsed := s₂.slotsUsed } : State).setVm s₂.vm), Ls ++ L, c0 + mc, s0 + ms⟩,
      ⟨X.admits, X.cas, X.clock, X.frames, X.room, X.hears, X.method, X.code, (X.here.setHeapUsed s₂.heap s₂.slotsUsed).setVm hW'.alike, X.tail, State.WarmedH.trans X.warmed hW', X.limits, X.bytes, X.same.trans (hsame.setVm s.vm)⟩,
      ⟨g, mk, s₂, L, rfl, rfl, hqc, rfl, hL, rfl, rfl⟩, ?_⟩
    show Steps p.tables e below _ ((({ U with heap := s₂.heap, slotsUsed := s₂.slotsUsed } : State).setVm s₂.vm).setTop { g with pc := g.pc + len₂, stack := v.toList ++ g.stack })
    rw [← hs₂]
    exact hsteps
  · obtain ⟨e2, q2, q3, q4, q5, q6⟩ := id hsm
    have e3 : s₂ = ({ (U.calling g mk a).setFrames s₂.frames with heap := s₂.heap, slotsUsed := s₂.slotsUsed } : State).setVm s₂.vm := by
      have : s₂ = ({ s₂ with vm := (U.calling g mk a).vm } : State).setVm s₂.vm := rfl
      rw [e2] at this
      exact this
    have hf₂ : s₂.frames = .throwing q :: .java g :: U.frames.tail := hend
    have hW' : U.WarmedH s₂.vm := hW₂
    have hs₂ : s₂ = ((({ U with heap := s₂.heap, slotsUsed := s₂.slotsUsed } : State).setVm s₂.vm).setTop g).pushFrame (.throwing q) := by
      refine e3.trans ?_
      rw [hf₂, State.calling_eq h.top, State.setFrames_setFrames, State.pushFrame, State.frames_setTop _ hr', State.setTop_of_frames _ hr', State.setFrames_setFrames, hr]
      rfl
    have hsame : U.sameButNew ({ U with heap := s₂.heap, slotsUsed := s₂.slotsUsed } : State) L mc ms := by
      refine ⟨?_, q2, q3, q4, q5, q6⟩
      obtain ⟨t, ht, -⟩ := State.frames_cons hr
      show ({ U with heap := s₂.heap, slotsUsed := s₂.slotsUsed } : State) = { U.setFrames U.frames with heap := s₂.heap, slotsUsed := s₂.slotsUsed }
      rw [State.setFrames_self ht]
    subst hg
    refine Or.inr ⟨q, ⟨(({ U with heap := s₂.heap, slotsUsed := s₂.slotsUsed } : State).setVm s₂.vm), Ls ++ L, c0 + mc, s0 + ms⟩,
      ⟨X.admits, X.cas, X.clock, X.frames, X.room, X.hears, X.method, X.code, (X.here.setHeapUsed s₂.heap s₂.slotsUsed).setVm hW'.alike, X.tail, State.WarmedH.trans X.warmed hW', X.limits, X.bytes, X.same.trans (hsame.setVm s.vm)⟩,
      ⟨g, mk, s₂, L, E, ce, rfl, rfl, hx, hce, hcv, hcl, rfl, hL, rfl, rfl⟩, ?_⟩
    show Steps p.tables e below _ (((({ U with heap := s₂.heap, slotsUsed := s₂.slotsUsed } : State).setVm s₂.vm).setTop g).pushFrame (.throwing q))
    rw [← hs₂]
    exact hsteps
end Payer
section Calls
variable {p : Program} {l : Launch} {e : Env} {R : Room} {s : State} {m : MethodId} {args : Array Value} {below : List Frame} {meth : Method} {c : Code} {T : State} {locs : List Loc} {cells slots : Nat}
theorem vx_callV (X : Stand p l e R s m args below meth c T locs cells slots) (hexec : p.tables.exec = Jvm.exec) {own C : String} {index : Nat} {y : MethodName} {bytes : ByteArray} {maxL : Nat} {ret : Option FieldType}
    (hown : s.vm.findClass own = some m.cls) (hlink : (Cond.methodLink own index y).before args s = true) (hinst : (Cond.instanceMethod y).before args s = true) (hsel : (Cond.selects C y y).before args s = true)
    (hcode : (Cond.code y bytes maxL ret).before args s = true) (hy : y.cls ≠ "java/lang/invoke/MethodHandle" ∧ y.cls ≠ "java/lang/invoke/VarHandle")
    {W9 : Nat} {Pre : Pt → Array Value → Prop} {Post : Pt → Array Value → Option Value → Pt → Prop} {PostX : Pt → Array Value → Addr → Pt → Prop} (hK : vx_Back l R p e below s args y 3 W9 Pre Post PostX)
    {b : Addr} {cellB : Cell} (hcell : T.heap[b]? = some cellB) (hobj : cellB.vm.isStatics = false) (hcls : s.vm.findClass C = some cellB.cls)
    {g : JFrame} (hg : g.method = m) (hsize : g.locals.size = c.maxLocals) {argsL rest : List Value} (hlen : ∀ sig, parseMethodDescriptor y.desc = some sig → argsL.length = sig.parameters.length)
    (hstack : g.stack = argsL.reverse ++ .ref b :: rest) (hW : 2 * g.monitorRoom + (rest.map fun v => v.category).sum ≤ W9) (hdg : decode c.code g.pc = .ok (.invokevirtual index, 3))
    (hpre : ∀ vm₁, s.WarmedH vm₁ → Pre ⟨T.setVm vm₁, locs, cells, slots⟩ (Value.ref b :: argsL).toArray) :
    (∃ (v : Option Value) (vm₁ : Vm) (B : Pt), s.WarmedH vm₁ ∧ Stand p l e R s m args below meth c B.U B.locs B.cells B.slots ∧ Post ⟨T.setVm vm₁, locs, cells, slots⟩ (Value.ref b :: argsL).toArray v B ∧
      ∀ target, Steps p.tables e below (B.U.setTop { g with pc := g.pc + 3, stack := v.toList ++ rest }) target → Steps p.tables e below (T.setTop g) target) ∨
    (∃ (q : Addr) (vm₁ : Vm) (B : Pt), s.WarmedH vm₁ ∧ Stand p l e R s m args below meth c B.U B.locs B.cells B.slots ∧ PostX ⟨T.setVm vm₁, locs, cells, slots⟩ (Value.ref b :: argsL).toArray q B ∧
      Steps p.tables e below (T.setTop g) ((B.U.setTop { g with stack := rest }).pushFrame (.throwing q))) := by
  obtain ⟨mk, methM, hnamed, hmethM, hstM, habM⟩ := Cond.instanceMethod_spec hinst
  obtain ⟨methM', cM, hmethM', -, -, -, -, -, -, hsigM⟩ := Cond.code_spec hnamed hcode
  cases hmethM.symm.trans hmethM'
  obtain ⟨c2, r2, m2, q1, q2, q3, q4, kP, hkP, hkPi⟩ := Cond.selects_spec hsel
  cases hcls.symm.trans q1
  cases (State.methodFound?_of_named hnamed hy).symm.trans q2
  cases hnamed.symm.trans q3
  have hselP : selectMethod e.platform s.vm cellB.cls mk = .method mk := by rw [Launch.admits_selectMethod X.admits]; exact q4
  obtain ⟨vm₁, X₁, hstep₁⟩ := X.invokevirtual hexec hown hlink hnamed hmethM hstM hkP hkPi hy (a := b) (cell := cellB) hcell
    (fun z h => by rw [h] at hobj; cases hobj) hselP hmethM habM hkP hkPi (g := g) hg (argsL := argsL) (rest := rest) (hlen _ hsigM) hstack hdg
  rcases hK m meth c ⟨T.setVm vm₁, locs, cells, slots⟩ { g with stack := rest } (.invokevirtual index) mk (Value.ref b :: argsL).toArray X₁ hg hsize hdg hW (X₁.named hnamed) (hpre vm₁ X₁.warmed) with ⟨v, B, X', hpost, hsteps⟩ | ⟨q, B, X', hpost, hsteps⟩
  · exact Or.inl ⟨v, vm₁, B, X₁.warmed, X', hpost, fun target h => hstep₁ _ fun acts => by rw [doInvoke_state]; exact hsteps.trans h⟩
  · exact Or.inr ⟨q, vm₁, B, X₁.warmed, X', hpost, hstep₁ _ fun acts => by rw [doInvoke_state]; exact hsteps⟩
theorem vx_callS (X : Stand p l e R s m args below meth c T locs cells slots) (hexec : p.tables.exec = Jvm.exec) {own : String} {index : Nat} {y : MethodName} {bytes : ByteArray} {maxL : Nat} {ret : Option FieldType}
    (hown : s.vm.findClass own = some m.cls) (hlink : (Cond.methodLink own index y).before args s = true) (hstat : (Cond.static y).before args s = true) (hinit : (Cond.initialized y.cls).before args s = true)
    (hcode : (Cond.code y bytes maxL ret).before args s = true) (hy : y.cls ≠ "java/lang/invoke/MethodHandle" ∧ y.cls ≠ "java/lang/invoke/VarHandle")
    {W9 : Nat} {Pre : Pt → Array Value → Prop} {Post : Pt → Array Value → Option Value → Pt → Prop} {PostX : Pt → Array Value → Addr → Pt → Prop} (hK : vx_Back l R p e below s args y 3 W9 Pre Post PostX)
    {g : JFrame} (hg : g.method = m) (hsize : g.locals.size = c.maxLocals) {argsL rest : List Value} (hlen : ∀ sig, parseMethodDescriptor y.desc = some sig → argsL.length = sig.parameters.length)
    (hstack : g.stack = argsL.reverse ++ rest) (hW : 2 * g.monitorRoom + (rest.map fun v => v.category).sum ≤ W9) (hdg : decode c.code g.pc = .ok (.invokestatic index, 3))
    (hpre : ∀ vm₁, s.WarmedH vm₁ → Pre ⟨T.setVm vm₁, locs, cells, slots⟩ argsL.toArray) :
    (∃ (v : Option Value) (vm₁ : Vm) (B : Pt), s.WarmedH vm₁ ∧ Stand p l e R s m args below meth c B.U B.locs B.cells B.slots ∧ Post ⟨T.setVm vm₁, locs, cells, slots⟩ argsL.toArray v B ∧
      ∀ target, Steps p.tables e below (B.U.setTop { g with pc := g.pc + 3, stack := v.toList ++ rest }) target → Steps p.tables e below (T.setTop g) target) ∨
    (∃ (q : Addr) (vm₁ : Vm) (B : Pt), s.WarmedH vm₁ ∧ Stand p l e R s m args below meth c B.U B.locs B.cells B.slots ∧ PostX ⟨T.setVm vm₁, locs, cells, slots⟩ argsL.toArray q B ∧
      Steps p.tables e below (T.setTop g) ((B.U.setTop { g with stack := rest }).pushFrame (.throwing q))) := by
  obtain ⟨mk, hnamed⟩ := Cond.code_named hcode
  obtain ⟨methM, cM, hmethM, -, -, -, -, -, -, hsigM⟩ := Cond.code_spec hnamed hcode
  have hstatic : methM.isStatic = true := Cond.static_spec hnamed hmethM hstat
  obtain ⟨kP, hkP, -⟩ := className_of_methodNamed hnamed
  have hinitP : kP.init = .initialized := Cond.initialized_spec (findClass_of_methodNamed hnamed) hkP hinit
  obtain ⟨vm₁, X₁, hstep₁⟩ := X.invokestatic hexec hown hlink hnamed hmethM hstatic hkP hinitP hy (g := g) hg (argsL := argsL) (rest := rest) (hlen _ hsigM) hstack hdg
  rcases hK m meth c ⟨T.setVm vm₁, locs, cells, slots⟩ { g with stack := rest } (.invokestatic index) mk argsL.toArray X₁ hg hsize hdg hW (X₁.named hnamed) (hpre vm₁ X₁.warmed) with ⟨v, B, X', hpost, hsteps⟩ | ⟨q, B, X', hpost, hsteps⟩
  · exact Or.inl ⟨v, vm₁, B, X₁.warmed, X', hpost, fun target h => hstep₁ _ fun acts => by rw [doInvoke_state]; exact hsteps.trans h⟩
  · exact Or.inr ⟨q, vm₁, B, X₁.warmed, X', hpost, hstep₁ _ fun acts => by rw [doInvoke_state]; exact hsteps⟩
end Calls
theorem vx_cls {s : State} {T : State} {vm₁ : Vm} {E : String} {k : ClassId} (hW : s.WarmedH vm₁) (h : (T.setVm vm₁).vm.findClass E = some k) : s.vm.findClass E = some k := by
  have h1 : vm₁.findClass E = some k := h
  rw [hW.alike.findClass] at h1
  exact h1
/-- the method's frame g, with q thrown over it -/
def vx_W (p : Program) (l : Launch) (e : Env) (R : Room) (s : State) (m : MethodId) (args : Array Value) (below : List Frame) (meth : Method) (c : Code) (H : Heap) (locs : List Loc) (cells slots : Nat) (Q : State → Prop) (g : JFrame) (q : Addr) : Prop :=
  ∀ T : State, T.heap = H → Stand p l e R s m args below meth c T locs cells slots → ∃ t, Steps p.tables e below ((T.setTop g).pushFrame (.throwing q)) t ∧ Q t
def vx_Run (p : Program) (l : Launch) (e : Env) (R : Room) (s : State) (m : MethodId) (args : Array Value) (below : List Frame) (meth : Method) (c : Code) (H : Heap) (locs : List Loc) (cells slots mc ms : Nat) (g : JFrame) (rest : List Value) (Qa : State → Outcome → State → Prop) (XC : String → State → State → Prop) (free : Addr → Prop) : Prop :=
  ∀ T : State, T.heap = H → Stand p l e R s m args below meth c T locs cells slots →
    (∃ (v : Option Value) (st₀ t T' : State) (L : List Loc), st₀.heap = H ∧ Stand p l e R s m args below meth c T' (locs ++ L) (cells + mc) (slots + ms) ∧ (∀ q ∈ L, free q.base) ∧ T'.heap = t.heap ∧ T'.vm = t.vm ∧ Qa st₀ (.returned v) t ∧
      Goes p e below T g T' { g with pc := g.pc + 3, stack := v.toList ++ rest }) ∨
    (∃ (q : Addr) (st₀ t T' : State) (L : List Loc) (E : String) (ce : Cell), st₀.heap = H ∧ Stand p l e R s m args below meth c T' (locs ++ L) (cells + mc) (slots + ms) ∧ (∀ z ∈ L, free z.base) ∧ T'.heap = t.heap ∧ T'.vm = t.vm ∧ XC E st₀ t ∧ t.heap[q]? = some ce ∧ ce.vm = .none ∧ s.vm.findClass E = some ce.cls ∧
      Steps p.tables e below (T.setTop g) ((T'.setTop { g with stack := rest }).pushFrame (.throwing q)))
def vx_X {S : Type} (px : S → Prop) (B : String → S → State → Prop) (A : Nat → Prop) : String → State → State → Prop := fun E st t => ∃ u : S, px u ∧ B E u t ∧ va_F A st t
section Runs
variable {p : Program} {l : Launch} {e : Env} {R : Room} {s : State} {m : MethodId} {args : Array Value} {below : List Frame} {meth : Method} {c : Code} {H : Heap} {locs : List Loc} {cells slots : Nat}
variable {y : MethodName} {bytes cc : ByteArray} {maxL nL mc ms n index : Nat} {ret : Option FieldType} {ws : List Cond} {rm : Room} {Pc : Array Value → State → Prop} {Qc : Array Value → State → Outcome → State → Prop} {XC : String → State → State → Prop} {free : Addr → Prop} {Ts : List Cond} {own C : String} {b : Addr} {As rest : List Value} {g : JFrame}
theorem vx_callBack (cb : CallB R s args own index y bytes maxL ret ws rm mc ms n) (hM : vx_Met l y ws rm Pc Qc XC mc ms free) (hbl : FrameBlind Pc) : vx_Back l R p e below s args y 3 8 (PreOf R mc ms Pc) (PostOf Qc mc ms free) (vx_Post XC mc ms free) := by
  obtain ⟨hrc, hrs, hfr, hlo, hws, hcw, -, hini, -⟩ := cb
  exact vx_back (bytes := bytes) (maxL := maxL) (ret := ret) hM hbl hrc hrs hfr hlo hws hcw (fun a' U hW => word_at hW (Or.inl (by first | rfl | simp [Cond.onTables, Cond.keeps, Cond.steady])) hini)
theorem vx_runV (S : CallFix p m c cc nL s args Ts own) (hM : vx_Met l y ws rm Pc Qc XC mc ms free) (cw : CallW R s args own C index y bytes maxL ret ws rm mc ms n) (hp : PreV s H C b Pc As)
    (hg : g.method = m) (hn : As.length = n) (hsize : g.locals.size = nL) (hstack : g.stack = As.reverse ++ .ref b :: rest) (hW : 2 * g.monitorRoom + (rest.map fun v => v.category).sum ≤ 8) (hdg : decode cc g.pc = .ok (.invokevirtual index, 3)) (hf : cells + mc ≤ R.cells ∧ slots + ms ≤ R.slots) :
    vx_Run p l e R s m args below meth c H locs cells slots mc ms g rest (Qc (Value.ref b :: As).toArray) XC free := by
  have hK : vx_Back l R p e below s args y 3 8 (PreOf R mc ms Pc) (PostOf Qc mc ms free) (vx_Post XC mc ms free) := vx_callBack cw.1 hM hp.1
  obtain ⟨⟨-, -, -, -, -, -, hcode, -, hy, hlen, hl⟩, hin, hse⟩ := cw
  obtain ⟨hx, hb, hml, ho, -⟩ := S
  obtain ⟨-, ⟨cellB, hcB, hoB, hclB⟩, hPc⟩ := hp
  intro T hT X
  rcases vx_callV X hx (C := C) (bytes := bytes) (maxL := maxL) (ret := ret) ho hl hin hse hcode hy hK (by rw [hT]; exact hcB) hoB hclB hg (hsize.trans hml.symm) (argsL := As) (rest := rest) (fun sig h => hn.trans (hlen sig h)) hstack hW (by rw [hb]; exact hdg)
    (fun vm₁ hW₁ => ⟨hf.1, hf.2, hPc (T.setVm vm₁) hT hW₁⟩) with ⟨v, vm₁, ⟨U', l2, c2, s2⟩, hW₁, X', ⟨g', mk, t, L, e1, e2, hq, h1, hL, h2, h3⟩, st⟩ | ⟨q, vm₁, ⟨U', l2, c2, s2⟩, hW₁, X', ⟨g', mk, t, L, E, ce, e1, e2, hq, hce, hcv, hcl, h1, hL, h2, h3⟩, st⟩
  · dsimp only [Pt.U, Pt.locs, Pt.cells, Pt.slots] at X' e1 e2 h1 h2 h3 st
    subst h1; subst h2; subst h3
    exact Or.inl ⟨v, (T.setVm vm₁).calling g' mk (Value.ref b :: As).toArray, t, U', L, hT, X', hL, e1, e2, hq, st⟩
  · dsimp only [Pt.U, Pt.locs, Pt.cells, Pt.slots] at X' e1 e2 h1 h2 h3 st hcl
    subst h1; subst h2; subst h3
    exact Or.inr ⟨q, (T.setVm vm₁).calling g' mk (Value.ref b :: As).toArray, t, U', L, E, ce, hT, X', hL, e1, e2, hq, hce, hcv, vx_cls hW₁ hcl, st⟩
theorem vx_runS (S : CallFix p m c cc nL s args Ts own) (hM : vx_Met l y ws rm Pc Qc XC mc ms free) (cw : CallB R s args own index y bytes maxL ret ws rm mc ms n ∧ (Cond.static y).before args s = true) (hp : PreS s H Pc As)
    (hg : g.method = m) (hn : As.length = n) (hsize : g.locals.size = nL) (hstack : g.stack = As.reverse ++ rest) (hW : 2 * g.monitorRoom + (rest.map fun v => v.category).sum ≤ 8) (hdg : decode cc g.pc = .ok (.invokestatic index, 3)) (hf : cells + mc ≤ R.cells ∧ slots + ms ≤ R.slots) :
    vx_Run p l e R s m args below meth c H locs cells slots mc ms g rest (Qc As.toArray) XC free := by
  have hK : vx_Back l R p e below s args y 3 8 (PreOf R mc ms Pc) (PostOf Qc mc ms free) (vx_Post XC mc ms free) := vx_callBack cw.1 hM hp.1
  obtain ⟨⟨-, -, -, -, -, -, hcode, hini, hy, hlen, hl⟩, hstt⟩ := cw
  obtain ⟨hx, hb, hml, ho, -⟩ := S
  intro T hT X
  rcases vx_callS X hx (bytes := bytes) (maxL := maxL) (ret := ret) ho hl hstt hini hcode hy hK hg (hsize.trans hml.symm) (argsL := As) (rest := rest) (fun sig h => hn.trans (hlen sig h)) hstack hW (by rw [hb]; exact hdg)
    (fun vm₁ hW₁ => ⟨hf.1, hf.2, hp.2 (T.setVm vm₁) hT hW₁⟩) with ⟨v, vm₁, ⟨U', l2, c2, s2⟩, hW₁, X', ⟨g', mk, t, L, e1, e2, hq, h1, hL, h2, h3⟩, st⟩ | ⟨q, vm₁, ⟨U', l2, c2, s2⟩, hW₁, X', ⟨g', mk, t, L, E, ce, e1, e2, hq, hce, hcv, hcl, h1, hL, h2, h3⟩, st⟩
  · dsimp only [Pt.U, Pt.locs, Pt.cells, Pt.slots] at X' e1 e2 h1 h2 h3 st
    subst h1; subst h2; subst h3
    exact Or.inl ⟨v, (T.setVm vm₁).calling g' mk As.toArray, t, U', L, hT, X', hL, e1, e2, hq, st⟩
  · dsimp only [Pt.U, Pt.locs, Pt.cells, Pt.slots] at X' e1 e2 h1 h2 h3 st hcl
    subst h1; subst h2; subst h3
    exact Or.inr ⟨q, (T.setVm vm₁).calling g' mk As.toArray, t, U', L, E, ce, hT, X', hL, e1, e2, hq, hce, hcv, vx_cls hW₁ hcl, st⟩
end Runs
section Rows
variable {p : Program} {l : Launch} {e : Env} {R : Room} {s : State} {m : MethodId} {args : Array Value} {below : List Frame} {meth : Method} {c : Code} {H : Heap} {locs : List Loc} {cells slots : Nat} {Q : State → Prop}
variable {mc ms : Nat} {free : Addr → Prop} {A0 A1 : Nat → Prop} {H0 : Heap} {a : Array Value} {pc : Nat} {ls : Array Slot} {st0 rest : List Value}
theorem vx_keep {st₀ t T' : State} {L : List Loc} (h0 : st₀.heap = H) (e1 : T'.heap = t.heap) (hS : va_S A0 H0 H locs) (hA : ∀ q, q < H.size → A1 q → A0 q) (hf : ∀ q, free q → A0 q) (hL : ∀ q ∈ L, free q.base) (hF : va_F A1 st₀ t) :
    H.size ≤ T'.heap.size ∧ (∀ q : Nat, q < H.size → ¬ A1 q → T'.heap[q]? = H[q]?) ∧ va_S A0 H0 T'.heap (locs ++ L) := by
  obtain ⟨hz, hk⟩ := hF
  rw [h0] at hz hk
  exact ⟨by rw [e1]; exact hz, fun q h1 h2 => by rw [e1]; exact hk q h1 h2,
    ⟨Nat.le_trans hS.1 (by rw [e1]; exact hz), fun q h1 h2 => by rw [e1, hk q (Nat.lt_of_lt_of_le h1 hS.1) (fun z => h2 (hA q (Nat.lt_of_lt_of_le h1 hS.1) z))]; exact hS.2.1 q h1 h2, fun q hq => by
      rcases List.mem_append.mp hq with h | h
      · exact hS.2.2 q h
      · exact hf _ (hL q h)⟩⟩
theorem vx_calli {S SX : Type} {post : Int32 → S → Prop} {px : SX → Prop} {B : S → State → Prop} {BX : String → SX → State → Prop} {AX : Nat → Prop} (hr : vx_Run p l e R s m args below meth c H locs cells slots mc ms (F0 m pc ls st0) rest (va_Qi post B A1 a) (vx_X px BX AX) free) (hS : va_S A0 H0 H locs) (hA : ∀ q, q < H.size → A1 q → A0 q) (hf : ∀ q, free q → A0 q) (hAX : ∀ q, q < H.size → AX q → A0 q)
    (kx : ∀ (E : String) (ce : Cell) (q9 : Addr) (u : SX) (t : State) (H1 : Heap) (locs1 : List Loc), t.heap = H1 → s.vm.Alike t.vm → px u → BX E u t → H.size ≤ H1.size → (∀ q : Nat, q < H.size → ¬ AX q → H1[q]? = H[q]?) → va_S A0 H0 H1 locs1 → H1[q9]? = some ce → ce.vm = .none → s.vm.findClass E = some ce.cls → vx_W p l e R s m args below meth c H1 locs1 (cells + mc) (slots + ms) Q (F0 m pc ls rest) q9)
    (kk : ∀ (r : Int32) (u : S) (t : State) (H1 : Heap) (locs1 : List Loc), t.heap = H1 → s.vm.Alike t.vm → post r u → B u t → H.size ≤ H1.size → (∀ q : Nat, q < H.size → ¬ A1 q → H1[q]? = H[q]?) → va_S A0 H0 H1 locs1 → W p l e R s m args below meth c H1 locs1 (cells + mc) (slots + ms) Q (F0 m (pc + 3) ls (.int r :: rest))) : W p l e R s m args below meth c H locs cells slots Q (F0 m pc ls st0) := by
  intro T hT X
  rcases hr T hT X with ⟨v, st₀, t, T', L, h0, X', hL, e1, e2, ⟨⟨r, u, hv, hp, hb⟩, hF⟩, st⟩ | ⟨q, st₀, t, T', L, E, ce, h0, X', hL, e1, e2, ⟨u, hp, hb, hF⟩, hce, hcv, hcl, st⟩
  · cases hv
    obtain ⟨k1, k2, k3⟩ := vx_keep h0 e1 hS hA hf hL hF
    obtain ⟨t2, a1, b1⟩ := kk r u t T'.heap (locs ++ L) e1.symm (by rw [← e2]; exact X'.warmed.alike) hp hb k1 k2 k3 T' rfl X'
    exact ⟨t2, st t2 a1, b1⟩
  · obtain ⟨k1, k2, k3⟩ := vx_keep h0 e1 hS hAX hf hL hF
    obtain ⟨t2, a1, b1⟩ := kx E ce q u t T'.heap (locs ++ L) e1.symm (by rw [← e2]; exact X'.warmed.alike) hp hb k1 k2 k3 (by rw [e1]; exact hce) hcv hcl T' rfl X'
    exact ⟨t2, st.trans a1, b1⟩
theorem vx_calll {S SX : Type} {post : Int64 → S → Prop} {px : SX → Prop} {B : S → State → Prop} {BX : String → SX → State → Prop} {AX : Nat → Prop} (hr : vx_Run p l e R s m args below meth c H locs cells slots mc ms (F0 m pc ls st0) rest (va_Ql post B A1 a) (vx_X px BX AX) free) (hS : va_S A0 H0 H locs) (hA : ∀ q, q < H.size → A1 q → A0 q) (hf : ∀ q, free q → A0 q) (hAX : ∀ q, q < H.size → AX q → A0 q)
    (kx : ∀ (E : String) (ce : Cell) (q9 : Addr) (u : SX) (t : State) (H1 : Heap) (locs1 : List Loc), t.heap = H1 → s.vm.Alike t.vm → px u → BX E u t → H.size ≤ H1.size → (∀ q : Nat, q < H.size → ¬ AX q → H1[q]? = H[q]?) → va_S A0 H0 H1 locs1 → H1[q9]? = some ce → ce.vm = .none → s.vm.findClass E = some ce.cls → vx_W p l e R s m args below meth c H1 locs1 (cells + mc) (slots + ms) Q (F0 m pc ls rest) q9)
    (kk : ∀ (r : Int64) (u : S) (t : State) (H1 : Heap) (locs1 : List Loc), t.heap = H1 → s.vm.Alike t.vm → post r u → B u t → H.size ≤ H1.size → (∀ q : Nat, q < H.size → ¬ A1 q → H1[q]? = H[q]?) → va_S A0 H0 H1 locs1 → W p l e R s m args below meth c H1 locs1 (cells + mc) (slots + ms) Q (F0 m (pc + 3) ls (.long r :: rest))) : W p l e R s m args below meth c H locs cells slots Q (F0 m pc ls st0) := by
  intro T hT X
  rcases hr T hT X with ⟨v, st₀, t, T', L, h0, X', hL, e1, e2, ⟨⟨r, u, hv, hp, hb⟩, hF⟩, st⟩ | ⟨q, st₀, t, T', L, E, ce, h0, X', hL, e1, e2, ⟨u, hp, hb, hF⟩, hce, hcv, hcl, st⟩
  · cases hv
    obtain ⟨k1, k2, k3⟩ := vx_keep h0 e1 hS hA hf hL hF
    obtain ⟨t2, a1, b1⟩ := kk r u t T'.heap (locs ++ L) e1.symm (by rw [← e2]; exact X'.warmed.alike) hp hb k1 k2 k3 T' rfl X'
    exact ⟨t2, st t2 a1, b1⟩
  · obtain ⟨k1, k2, k3⟩ := vx_keep h0 e1 hS hAX hf hL hF
    obtain ⟨t2, a1, b1⟩ := kx E ce q u t T'.heap (locs ++ L) e1.symm (by rw [← e2]; exact X'.warmed.alike) hp hb k1 k2 k3 (by rw [e1]; exact hce) hcv hcl T' rfl X'
    exact ⟨t2, st.trans a1, b1⟩
theorem vx_callf {S SX : Type} {post : UInt32 → S → Prop} {px : SX → Prop} {B : S → State → Prop} {BX : String → SX → State → Prop} {AX : Nat → Prop} (hr : vx_Run p l e R s m args below meth c H locs cells slots mc ms (F0 m pc ls st0) rest (va_Qf post B A1 a) (vx_X px BX AX) free) (hS : va_S A0 H0 H locs) (hA : ∀ q, q < H.size → A1 q → A0 q) (hf : ∀ q, free q → A0 q) (hAX : ∀ q, q < H.size → AX q → A0 q)
    (kx : ∀ (E : String) (ce : Cell) (q9 : Addr) (u : SX) (t : State) (H1 : Heap) (locs1 : List Loc), t.heap = H1 → s.vm.Alike t.vm → px u → BX E u t → H.size ≤ H1.size → (∀ q : Nat, q < H.size → ¬ AX q → H1[q]? = H[q]?) → va_S A0 H0 H1 locs1 → H1[q9]? = some ce → ce.vm = .none → s.vm.findClass E = some ce.cls → vx_W p l e R s m args below meth c H1 locs1 (cells + mc) (slots + ms) Q (F0 m pc ls rest) q9)
    (kk : ∀ (r : UInt32) (u : S) (t : State) (H1 : Heap) (locs1 : List Loc), t.heap = H1 → s.vm.Alike t.vm → post r u → B u t → H.size ≤ H1.size → (∀ q : Nat, q < H.size → ¬ A1 q → H1[q]? = H[q]?) → va_S A0 H0 H1 locs1 → W p l e R s m args below meth c H1 locs1 (cells + mc) (slots + ms) Q (F0 m (pc + 3) ls (.float r :: rest))) : W p l e R s m args below meth c H locs cells slots Q (F0 m pc ls st0) := by
  intro T hT X
  rcases hr T hT X with ⟨v, st₀, t, T', L, h0, X', hL, e1, e2, ⟨⟨r, u, hv, hp, hb⟩, hF⟩, st⟩ | ⟨q, st₀, t, T', L, E, ce, h0, X', hL, e1, e2, ⟨u, hp, hb, hF⟩, hce, hcv, hcl, st⟩
  · cases hv
    obtain ⟨k1, k2, k3⟩ := vx_keep h0 e1 hS hA hf hL hF
    obtain ⟨t2, a1, b1⟩ := kk r u t T'.heap (locs ++ L) e1.symm (by rw [← e2]; exact X'.warmed.alike) hp hb k1 k2 k3 T' rfl X'
    exact ⟨t2, st t2 a1, b1⟩
  · obtain ⟨k1, k2, k3⟩ := vx_keep h0 e1 hS hAX hf hL hF
    obtain ⟨t2, a1, b1⟩ := kx E ce q u t T'.heap (locs ++ L) e1.symm (by rw [← e2]; exact X'.warmed.alike) hp hb k1 k2 k3 (by rw [e1]; exact hce) hcv hcl T' rfl X'
    exact ⟨t2, st.trans a1, b1⟩
theorem vx_calld {S SX : Type} {post : UInt64 → S → Prop} {px : SX → Prop} {B : S → State → Prop} {BX : String → SX → State → Prop} {AX : Nat → Prop} (hr : vx_Run p l e R s m args below meth c H locs cells slots mc ms (F0 m pc ls st0) rest (va_Qd post B A1 a) (vx_X px BX AX) free) (hS : va_S A0 H0 H locs) (hA : ∀ q, q < H.size → A1 q → A0 q) (hf : ∀ q, free q → A0 q) (hAX : ∀ q, q < H.size → AX q → A0 q)
    (kx : ∀ (E : String) (ce : Cell) (q9 : Addr) (u : SX) (t : State) (H1 : Heap) (locs1 : List Loc), t.heap = H1 → s.vm.Alike t.vm → px u → BX E u t → H.size ≤ H1.size → (∀ q : Nat, q < H.size → ¬ AX q → H1[q]? = H[q]?) → va_S A0 H0 H1 locs1 → H1[q9]? = some ce → ce.vm = .none → s.vm.findClass E = some ce.cls → vx_W p l e R s m args below meth c H1 locs1 (cells + mc) (slots + ms) Q (F0 m pc ls rest) q9)
    (kk : ∀ (r : UInt64) (u : S) (t : State) (H1 : Heap) (locs1 : List Loc), t.heap = H1 → s.vm.Alike t.vm → post r u → B u t → H.size ≤ H1.size → (∀ q : Nat, q < H.size → ¬ A1 q → H1[q]? = H[q]?) → va_S A0 H0 H1 locs1 → W p l e R s m args below meth c H1 locs1 (cells + mc) (slots + ms) Q (F0 m (pc + 3) ls (.double r :: rest))) : W p l e R s m args below meth c H locs cells slots Q (F0 m pc ls st0) := by
  intro T hT X
  rcases hr T hT X with ⟨v, st₀, t, T', L, h0, X', hL, e1, e2, ⟨⟨r, u, hv, hp, hb⟩, hF⟩, st⟩ | ⟨q, st₀, t, T', L, E, ce, h0, X', hL, e1, e2, ⟨u, hp, hb, hF⟩, hce, hcv, hcl, st⟩
  · cases hv
    obtain ⟨k1, k2, k3⟩ := vx_keep h0 e1 hS hA hf hL hF
    obtain ⟨t2, a1, b1⟩ := kk r u t T'.heap (locs ++ L) e1.symm (by rw [← e2]; exact X'.warmed.alike) hp hb k1 k2 k3 T' rfl X'
    exact ⟨t2, st t2 a1, b1⟩
  · obtain ⟨k1, k2, k3⟩ := vx_keep h0 e1 hS hAX hf hL hF
    obtain ⟨t2, a1, b1⟩ := kx E ce q u t T'.heap (locs ++ L) e1.symm (by rw [← e2]; exact X'.warmed.alike) hp hb k1 k2 k3 (by rw [e1]; exact hce) hcv hcl T' rfl X'
    exact ⟨t2, st.trans a1, b1⟩
theorem vx_callv {S SX : Type} {post : S → Prop} {px : SX → Prop} {B : S → State → Prop} {BX : String → SX → State → Prop} {AX : Nat → Prop} (hr : vx_Run p l e R s m args below meth c H locs cells slots mc ms (F0 m pc ls st0) rest (va_Qv post B A1 a) (vx_X px BX AX) free) (hS : va_S A0 H0 H locs) (hA : ∀ q, q < H.size → A1 q → A0 q) (hf : ∀ q, free q → A0 q) (hAX : ∀ q, q < H.size → AX q → A0 q)
    (kx : ∀ (E : String) (ce : Cell) (q9 : Addr) (u : SX) (t : State) (H1 : Heap) (locs1 : List Loc), t.heap = H1 → s.vm.Alike t.vm → px u → BX E u t → H.size ≤ H1.size → (∀ q : Nat, q < H.size → ¬ AX q → H1[q]? = H[q]?) → va_S A0 H0 H1 locs1 → H1[q9]? = some ce → ce.vm = .none → s.vm.findClass E = some ce.cls → vx_W p l e R s m args below meth c H1 locs1 (cells + mc) (slots + ms) Q (F0 m pc ls rest) q9)
    (kk : ∀ (u : S) (t : State) (H1 : Heap) (locs1 : List Loc), t.heap = H1 → s.vm.Alike t.vm → post u → B u t → H.size ≤ H1.size → (∀ q : Nat, q < H.size → ¬ A1 q → H1[q]? = H[q]?) → va_S A0 H0 H1 locs1 → W p l e R s m args below meth c H1 locs1 (cells + mc) (slots + ms) Q (F0 m (pc + 3) ls (rest))) : W p l e R s m args below meth c H locs cells slots Q (F0 m pc ls st0) := by
  intro T hT X
  rcases hr T hT X with ⟨v, st₀, t, T', L, h0, X', hL, e1, e2, ⟨⟨u, hv, hp, hb⟩, hF⟩, st⟩ | ⟨q, st₀, t, T', L, E, ce, h0, X', hL, e1, e2, ⟨u, hp, hb, hF⟩, hce, hcv, hcl, st⟩
  · cases hv
    obtain ⟨k1, k2, k3⟩ := vx_keep h0 e1 hS hA hf hL hF
    obtain ⟨t2, a1, b1⟩ := kk u t T'.heap (locs ++ L) e1.symm (by rw [← e2]; exact X'.warmed.alike) hp hb k1 k2 k3 T' rfl X'
    exact ⟨t2, st t2 a1, b1⟩
  · obtain ⟨k1, k2, k3⟩ := vx_keep h0 e1 hS hAX hf hL hF
    obtain ⟨t2, a1, b1⟩ := kx E ce q u t T'.heap (locs ++ L) e1.symm (by rw [← e2]; exact X'.warmed.alike) hp hb k1 k2 k3 (by rw [e1]; exact hce) hcv hcl T' rfl X'
    exact ⟨t2, st.trans a1, b1⟩
/-- caught by the row x of this method's table; the rows ahead don't take it -/
theorem vx_catch {own name : String} {E : String} {ce : Cell} {q : Addr} (hown : s.vm.findClass own = some m.cls) (pre : List ExceptionTableEntry) (x : ExceptionTableEntry) (suf : List ExceptionTableEntry) (hsplit : c.exceptionTable.toList = pre ++ x :: suf)
    (hpass : ∀ z ∈ pre, covers z pc = false ∨ (z.catchType ≠ 0 ∧ ∃ nm : String, (Cond.classLink own z.catchType nm).before args s = true ∧ va_Nc E nm s)) (hx : covers x pc = true) (h0 : x.catchType ≠ 0)
    (hlink : (Cond.classLink own x.catchType name).before args s = true) (hcast : (Cond.castable E name).before args s = true) (hcell : H[q]? = some ce) (hv : ce.vm = .none) (hcl : s.vm.findClass E = some ce.cls)
    (kk : W p l e R s m args below meth c H locs cells slots Q (F0 m x.handlerPc ls [.ref q])) : vx_W p l e R s m args below meth c H locs cells slots Q (F0 m pc ls rest) q := by
  intro T hT X
  have hpl : e.platform.magicAccessors = ({} : Platform).magicAccessors := by rw [X.admits.platform]
  obtain ⟨c3, c4, hc3, hc4, hasg⟩ := Cond.castable_spec hcast
  cases Option.some.inj (hc3.symm.trans hcl)
  obtain ⟨c5, hc5, hcl5⟩ := Cond.classLink_spec hown hlink e.platform hpl
  cases Option.some.inj (hc4.symm.trans hc5)
  obtain ⟨vm', X', st⟩ := X.thenCaughtThrough q (g := F0 m pc ls rest) rfl (Steps.refl _) (by rw [hT]; exact hcell) (by rw [hv]; rfl) (by obtain ⟨k9, h9, -⟩ := Vm.findClass_spec hcl; exact ⟨k9, h9⟩) pre x suf hsplit
    (fun z hz => by
      rcases hpass z hz with h | ⟨hz0, nm, hl1, hn1⟩
      · exact Or.inl h
      · obtain ⟨c6, hc6, hcl6⟩ := Cond.classLink_spec hown hl1 e.platform hpl
        obtain ⟨a8, b8, h1, h2, h3⟩ := hn1
        cases Option.some.inj (h1.symm.trans hcl)
        cases Option.some.inj (h2.symm.trans hc6)
        exact Or.inr ⟨hz0, _, hcl6, h3⟩) hx (Or.inr ⟨h0, c4, hcl5, hasg⟩)
  obtain ⟨t, a1, b1⟩ := kk (T.setVm vm') hT X'
  exact ⟨t, st.trans a1, b1⟩
end Rows
section Ends
variable {p : Program} {l : Launch} {e : Env} {R : Room} {s : State} {m : MethodId} {args : Array Value} {below : List Frame} {meth : Method} {c : Code} {H : Heap} {locs : List Loc} {cells slots : Nat} {Q : State → Prop}
variable {mc ms : Nat} {free : Addr → Prop} {A0 A1 : Nat → Prop} {H0 : Heap} {a : Array Value} {ls : Array Slot} {st0 rest : List Value}
variable {Qc : Array Value → State → Outcome → State → Prop} {XC : String → State → State → Prop}
/-- what a body that may throw owes at its end -/
def vx_MQ (below : List Frame) (Qc : Array Value → State → Outcome → State → Prop) (XC : String → State → State → Prop) (a : Array Value) (s : State) (mc ms : Nat) (free : Addr → Prop) : State → Prop := fun t =>
  ∃ o, t.status = .running ∧ Ended t below o ∧ vx_Q Qc XC mc ms free a s o t
theorem vx_ret {g : JFrame} {mc ms : Nat} (k : W p l e R s m args below meth c H locs cells slots (MQ below Qc args s mc ms free) g) : W p l e R s m args below meth c H locs cells slots (vx_MQ below Qc XC args s mc ms free) g := by
  intro T hT X
  obtain ⟨t, a1, o, b1, b2, b3, b4⟩ := k T hT X
  exact ⟨t, a1, o, b1, b2, Or.inl ⟨b3, b4⟩⟩
/-- not caught here: it goes on to the caller -/
theorem vx_widen {g : JFrame} {q : Addr} {k n : Nat} (h1 : cells ≤ k) (h2 : slots ≤ n) (kk : vx_W p l e R s m args below meth c H locs k n Q g q) : vx_W p l e R s m args below meth c H locs cells slots Q g q := fun T hT X => kk T hT (stand_widen X h1 h2)
theorem vx_out {pc : Nat} {E : String} {ce : Cell} {q : Addr} {mc ms : Nat} (hout : ∀ x ∈ c.exceptionTable.toList, covers x pc = false) (hlocks : meth.locks = false) (hcell : H[q]? = some ce) (hv : ce.vm = .none) (hcl : s.vm.findClass E = some ce.cls)
    (hx : ∀ t : State, t.heap = H → s.vm.Alike t.vm → XC E s t) (hf : ∀ z ∈ locs, free z.base) (hc : cells ≤ mc) (hs : slots ≤ ms) :
    vx_W p l e R s m args below meth c H locs cells slots (vx_MQ below Qc XC args s mc ms free) (F0 m pc ls rest) q := by
  intro T hT X
  obtain ⟨st1, hrun, hend, hW, hsm⟩ := X.leaveThrown q (g := F0 m pc ls rest) rfl rfl rfl hout hlocks
  have hcell9 : (T.setFrames (.throwing q :: below)).heap[q]? = some ce := by
    show T.heap[q]? = some ce
    rw [hT]; exact hcell
  exact ⟨_, st1, .threw q, hrun, hend, Or.inr ⟨q, rfl, E, ce, locs, hx _ hT hW.alike, hcell9, hv, hcl, hW, hsm.mono hc hs, hf⟩⟩
theorem vx_frame {U : State} {k n : Nat} (h : s.sameButNew ({ U with vm := s.vm } : State) locs k n) : s.heap.size ≤ U.heap.size ∧ ∀ q : Nat, q < s.heap.size → (∀ z ∈ locs, z.base ≠ q) → U.heap[q]? = s.heap[q]? := by
  obtain ⟨-, h2, -, -, -, h6⟩ := h
  refine ⟨h2, fun q hq hz => ?_⟩
  obtain ⟨c9, e1, e2, e3, e4⟩ := h6 q _ (Array.getElem?_eq_getElem hq)
  have hs : c9.slots = (s.heap[q]).slots := Array.ext_getElem? fun i => e4 i fun hm => hz _ hm rfl
  have h9 : c9 = s.heap[q] := by
    rw [hs] at e2
    exact e2
  have e5 : U.heap[q]? = some c9 := e1
  rw [e5, h9, Array.getElem?_eq_getElem hq]
/-- the words of a throw but the four that speak of the heap -/
def vx_no (w : Cond) : Bool := decide (w ≠ .isRef (.static Bundle.tN "UNASSIGNED_STACK" Bundle.steD)) && decide (w ≠ .isRef (.static Bundle.tN "SUPPRESSED_SENTINEL" Bundle.listD)) && decide (w ≠ .laysStatic Bundle.tN "UNASSIGNED_STACK" Bundle.steD) && decide (w ≠ .laysStatic Bundle.tN "SUPPRESSED_SENTINEL" Bundle.listD)
def vx_at0 (own : String) (ic : Nat) (X : String) (names : List String) : List Cond := (Bundle.ownAtoms0 own ic X names).filter vx_no
def vx_atS (own : String) (ic : Nat) (X : String) (names : List String) : List Cond := (Bundle.ownAtoms own ic X names).filter vx_no
/-- a word that the tables alone decide, or a good one -/
def vx_ot (w : Cond) : Bool := w.onTables || goodWord w
theorem vx_ot_at {args a' : Array Value} {s U : State} {w : Cond} (hW : s.WarmedH U.vm) (hvm : s.vm = U.vm) (hg : vx_ot w = true) (h : w.before args s = true) : w.before a' U = true := by
  simp only [vx_ot, Bool.or_eq_true] at hg
  rcases hg with hg | hg
  · exact va_tabs hg hvm h
  · exact word_at hW (good_of_word hg) h
/-- a list's words: the good ones out of the method's own list, the others by premises of their own -/
theorem vx_hat {args : Array Value} {s : State} {L B : List Cond} (h1 : ∀ w ∈ L.filter goodWord, w.before args s = true) (h2 : ∀ w ∈ L.filter (fun w => !goodWord w), w ∈ B) (h3 : ∀ w ∈ B, w.before args s = true) : ∀ w ∈ L, w.before args s = true := by
  intro w hw
  by_cases g : goodWord w = true
  · exact h1 w (List.mem_filter.mpr ⟨hw, g⟩)
  · refine h3 w (h2 w (List.mem_filter.mpr ⟨hw, ?_⟩))
    show (!goodWord w) = true
    cases hgw : goodWord w
    · rfl
    · exact absurd hgw g
theorem vx_c {args : Array Value} {s : State} {w : Cond} {B : List Cond} (h : w.before args s = true) (t : ∀ w ∈ B, w.before args s = true) : ∀ w' ∈ w :: B, w'.before args s = true := fun w' h' => (List.mem_cons.mp h').elim (fun e => by rw [e]; exact h) (t w')
theorem vx_n {args : Array Value} {s : State} : ∀ w ∈ ([] : List Cond), w.before args s = true := fun _ h => nomatch h
theorem vx_own {args : Array Value} {s : State} {L : List Cond} (h1 : ∀ w ∈ L.filter vx_no, w.before args s = true)
    (hU : (Cond.isRef (.static Bundle.tN "UNASSIGNED_STACK" Bundle.steD)).before args s = true) (hN : (Cond.isRef (.static Bundle.tN "SUPPRESSED_SENTINEL" Bundle.listD)).before args s = true)
    (lU : (Cond.laysStatic Bundle.tN "UNASSIGNED_STACK" Bundle.steD).before args s = true) (lN : (Cond.laysStatic Bundle.tN "SUPPRESSED_SENTINEL" Bundle.listD).before args s = true) : ∀ w ∈ L, w.before args s = true := by
  intro w hw
  by_cases e1 : w = .isRef (.static Bundle.tN "UNASSIGNED_STACK" Bundle.steD)
  · rw [e1]; exact hU
  · by_cases e2 : w = .isRef (.static Bundle.tN "SUPPRESSED_SENTINEL" Bundle.listD)
    · rw [e2]; exact hN
    · by_cases e3 : w = .laysStatic Bundle.tN "UNASSIGNED_STACK" Bundle.steD
      · rw [e3]; exact lU
      · by_cases e4 : w = .laysStatic Bundle.tN "SUPPRESSED_SENTINEL" Bundle.listD
        · rw [e4]; exact lN
        · exact h1 w (List.mem_filter.mpr ⟨hw, by unfold vx_no; rw [decide_eq_true e1, decide_eq_true e2, decide_eq_true e3, decide_eq_true e4]; rfl⟩)
/-- where a static field lies, its class's statics cell in H -/
def vx_L (C n d : String) (A : Nat → Prop) (U : State) (H : Heap) : Prop := ∃ (c : ClassId) (k : Class) (i : Nat) (f : Field) (a : Nat) (cell : Cell), U.vm.findClass C = some c ∧ U.fieldFound? C n d = some (c, k, i, f) ∧ f.isStatic = true ∧ k.statics = some a ∧ H[a]? = some cell ∧ cell.vm.isStatics = true ∧ cell.cls = c ∧ f.slot < cell.slots.size ∧ k.staticTypes[f.slot]? = some f.type ∧ ¬ A a
theorem vx_L.moved {C n d : String} {A : Nat → Prop} {u U : State} {H : Heap} (hvm : u.vm.Alike U.vm) (h : vx_L C n d A u H) : vx_L C n d A U H := by
  obtain ⟨c, k, i, f, a, cell, h1, h2, h3, h4, h5, h6, h7, h8, h9, h10⟩ := h
  obtain ⟨k', hi', he⟩ := State.fieldFound?_setVm hvm h2
  exact ⟨c, k', i, f, a, cell, by rw [hvm.findClass]; exact h1, hi', h3, by rw [he]; exact h4, h5, h6, h7, h8, by rw [he]; exact h9, h10⟩
theorem vx_L.kept {C n d : String} {A : Nat → Prop} {U : State} {H H1 : Heap} (h : vx_L C n d A U H) (hq : ∀ a : Nat, a < H.size → ¬ A a → H1[a]? = H[a]?) : vx_L C n d A U H1 := by
  obtain ⟨c, k, i, f, a, cell, h1, h2, h3, h4, h5, h6, h7, h8, h9, h10⟩ := h
  exact ⟨c, k, i, f, a, cell, h1, h2, h3, h4, by rw [hq a (Array.getElem?_eq_some_iff.mp h5).1 h10]; exact h5, h6, h7, h8, h9, h10⟩
theorem vx_L.narrow {C n d : String} {A B : Nat → Prop} {U : State} {H : Heap} (h : vx_L C n d A U H) (hAB : ∀ q, B q → A q) : vx_L C n d B U H := by
  obtain ⟨c, k, i, f, a, cell, h1, h2, h3, h4, h5, h6, h7, h8, h9, h10⟩ := h
  exact ⟨c, k, i, f, a, cell, h1, h2, h3, h4, h5, h6, h7, h8, h9, fun z => h10 (hAB _ z)⟩
theorem vx_L.word {C n d : String} {A : Nat → Prop} {s : State} {args : Array Value} (h : vx_L C n d A s s.heap) : (Cond.laysStatic C n d).before args s = true := by
  obtain ⟨c, k, i, f, a, cell, h1, h2, h3, h4, h5, h6, h7, h8, h9, -⟩ := h
  show (Cond.laysStatic C n d).holds args s none s [] = true
  exact Cond.laysStatic_of h1 h2 h3 h4 h5 h6 h7 h8 h9
/-- .. and what it holds: null or some reference -/
def vx_Zq (C n d : String) (A : Nat → Prop) (U : State) (H : Heap) : Prop := va_Zq C n d A U H ∧ vx_L C n d A U H
theorem vx_Zq.moved {C n d : String} {A : Nat → Prop} {u U : State} {H : Heap} (hvm : u.vm.Alike U.vm) (h : vx_Zq C n d A u H) : vx_Zq C n d A U H := ⟨va_Zq.moved hvm h.1, vx_L.moved hvm h.2⟩
theorem vx_Zq.kept {C n d : String} {A : Nat → Prop} {U : State} {H H1 : Heap} (h : vx_Zq C n d A U H) (hq : ∀ a : Nat, a < H.size → ¬ A a → H1[a]? = H[a]?) : vx_Zq C n d A U H1 := ⟨va_Zq.kept h.1 hq, vx_L.kept h.2 hq⟩
theorem vx_Zq.narrow {C n d : String} {A B : Nat → Prop} {U : State} {H : Heap} (h : vx_Zq C n d A U H) (hAB : ∀ q, B q → A q) : vx_Zq C n d B U H := ⟨va_Zq.narrow h.1 hAB, vx_L.narrow h.2 hAB⟩
theorem vx_Zqof {args : Array Value} {s : State} {C n d : String} {A : Nat → Prop} (hl : (Cond.laysStatic C n d).before args s = true) (hini : (Cond.initialized C).before args s = true) (h : (Cond.isRef (.static C n d)).before args s = true) (hA : ∀ a : Nat, a < s.heap.size → ¬ A a) : vx_Zq C n d A s s.heap := by
  refine ⟨va_Zqof hl hini h hA, ?_⟩
  obtain ⟨c, k, i, f, a, cell, h1, h2, h3, h4, h5, h6, h7, h8, h9⟩ := Cond.laysStatic_spec hl
  exact ⟨c, k, i, f, a, cell, h1, h2, h3, h4, h5, h6, h7, h8, h9, hA a (Array.getElem?_eq_some_iff.mp h5).1⟩
theorem vx_isRef {C n d : String} {v : Value} {A : Nat → Prop} {s : State} {args : Array Value} (h : va_Z C n d v A s s.heap) (hv : v.isRef = true) : (Cond.isRef (.static C n d)).before args s = true := by
  obtain ⟨cf, kf, fi, f, a, cell, h1, h2, h3, h4, h5, h6, h7, -⟩ := h
  have he : (Term.static C n d).eval args s none [] s = some v := by
    simp [Term.eval, State.fieldNamed?, h1, h2, h4, h5, h6, h7]
  simp only [Cond.before, Cond.holds, Cond.value, he]
  cases v <;> simp_all [Value.isRef]
theorem vx_isRefq {C n d : String} {A : Nat → Prop} {s : State} {args : Array Value} (h : va_Zq C n d A s s.heap) : (Cond.isRef (.static C n d)).before args s = true := by
  rcases h with h | ⟨t, h⟩
  · exact vx_isRef h rfl
  · exact vx_isRef h rfl
/-- the same frame, seen from here: as if the method were called anew in this heap -/
theorem vx_rebase {T : State} (X : Stand p l e R s m args below meth c T locs cells slots) {R' : Room} (hf : R'.frames ≤ R.frames) (hl : R'.locals ≤ R.locals) (hc : cells + R'.cells ≤ R.cells) (hs : slots + R'.slots ≤ R.slots) :
    Stand p l e R' ((T.setVm s.vm).setFrames (.invoking m args :: below)) m args below meth c T [] 0 0 := by
  have htop : (T.setVm s.vm).topJava?.isSome := X.here.top
  have hF : ((T.setVm s.vm).setFrames (.invoking m args :: below)).frames = .invoking m args :: below := State.frames_setFrames _ (State.cur_lt_of_top htop)
  obtain ⟨g₀, hg0⟩ := Option.isSome_iff_exists.mp htop
  obtain ⟨r, hr⟩ := State.topJava?_eq_some.mp hg0
  have hl9 : e.platform.stackLimits (T.setVm s.vm).me = e.platform.stackLimits s.me := X.limits
  have hb9 : (T.setVm s.vm).me.stackBytes = s.me.stackBytes := X.bytes
  refine ⟨X.admits, X.cas, X.clock, hF, ?_, X.hears, X.method, X.code, X.here, X.tail, X.warmed, ?_, ?_, ?_⟩
  · have h := X.room
    have hU : ((T.setVm s.vm).setFrames (.invoking m args :: below)).localsInUse = s.localsInUse := by
      rw [State.localsInUse_invoking hF (meth := meth) (c := c) X.method X.code, State.localsInUse_invoking X.frames X.method X.code]
    simp only [State.hasRoom, Bool.and_eq_true, decide_eq_true_eq] at h ⊢
    obtain ⟨⟨⟨⟨h1, h2, h3, h4, h5, h6⟩, h7⟩, h8⟩, h9⟩ := h
    rw [X.frames, List.length_cons] at h2 h3
    have q1 := X.heapSize
    have q2 := X.used
    simp only [hF, hU, List.length_cons, State.stackLimits_setFrames, State.stackBytes_setFrames, hl9, hb9]
    refine ⟨⟨⟨⟨by omega, by omega, by omega, by omega, by omega, h6⟩, ?_⟩, ?_⟩, X.book⟩
    · show T.heap.size + R'.cells ≤ e.platform.maxCells
      omega
    · show T.slotsUsed + R'.slots ≤ e.platform.maxSlots
      omega
  · rw [State.stackLimits_setFrames]; rfl
  · rw [State.stackBytes_setFrames]; rfl
  · refine ⟨?_, Nat.le_refl _, Nat.le_refl _, ?_, ?_, fun a c9 h9 => ⟨c9, h9, rfl, rfl, fun _ _ => rfl⟩⟩
    · obtain ⟨t, ht, -⟩ := State.frames_cons hr
      show T.setVm s.vm = { ((T.setVm s.vm).setFrames (.invoking m args :: below)).setFrames (T.setVm s.vm).frames with heap := T.heap, slotsUsed := T.slotsUsed }
      rw [State.setFrames_setFrames, State.setFrames_self ht]
      rfl
    · show T.slotsUsed = T.slotsUsed + ((T.heap.toList.drop T.heap.size).map (·.slots.size)).sum
      rw [List.drop_eq_nil_of_le (Nat.le_of_eq Array.length_toList)]
      rfl
    · show ((T.heap.toList.drop T.heap.size).map (·.slots.size)).sum ≤ 0
      rw [List.drop_eq_nil_of_le (Nat.le_of_eq Array.length_toList)]
      exact Nat.le_refl _
/-- 'throw new E()': new; dup; invokespecial; athrow -/
theorem vx_throw0 {cc : ByteArray} {pc : Nat} (hexec : p.tables.exec = Jvm.exec) (hb : c.code = cc) (hl : l.stackTraces = false) {own cls : String} {names : List String} {ik ic mc ms : Nat} {A : Nat → Prop}
    (hown : s.vm.findClass own = some m.cls) (hcls : Bundle.fit cls = true) (hnames : ∀ n ∈ names, Bundle.fit n = true)
    (hk : (Cond.classLink own ik cls).before args s = true) (hini : (Cond.initialized cls).before args s = true) (hat : ∀ w ∈ vx_at0 own ic cls names, w.before args s = true)
    (hgood : ∀ w ∈ Cond.classLink own ik cls :: Cond.initialized cls :: vx_at0 own ic cls names, vx_ot w = true)
    (hU : vx_Zq Bundle.tN "UNASSIGNED_STACK" Bundle.steD A s s.heap) (hN : vx_Zq Bundle.tN "SUPPRESSED_SENTINEL" Bundle.listD A s s.heap) (hS : va_S A s.heap H locs) (hsize : ls.size = c.maxLocals)
    (d0 : decode cc pc = .ok (.new ik, 3)) (d3 : decode cc (pc + 3) = .ok (.dup, 1)) (d4 : decode cc (pc + 4) = .ok (.invokespecial ic, 3)) (d7 : decode cc (pc + 7) = .ok (.athrow, 1))
    (hout : ∀ x ∈ c.exceptionTable.toList, covers x (pc + 7) = false)
    (hRframes : names.length + 3 < R.frames) (hRlocals : (rest.map fun v => v.category).sum + (13 * (names.length + 1) + 42) ≤ R.locals) (hRcells : cells + 1 ≤ R.cells) (hRslots : slots + 6 ≤ R.slots) (hlocks : meth.locks = false)
    (hx : ∀ t : State, s.vm.Alike t.vm → H.size ≤ t.heap.size → (∀ q : Nat, q < H.size → t.heap[q]? = H[q]?) → XC cls s t)
    (hf : ∀ z ∈ locs, free z.base) (hc : cells + 1 ≤ mc) (hs : slots + 6 ≤ ms) :
    W p l e R s m args below meth c H locs cells slots (vx_MQ below Qc XC args s mc ms free) (F0 m pc ls rest) := by
  intro T hT X
  have htr : e.platform.stackTraces = false := (show e.platform.stackTraces = l.stackTraces by rw [X.admits.platform]).trans hl
  have Y := vx_rebase X (R' := { frames := R.frames, locals := R.locals, cells := 1, slots := 6 }) (Nat.le_refl _) (Nat.le_refl _) hRcells hRslots
  obtain ⟨s', hA⟩ : ∃ z, z = (T.setVm s.vm).setFrames (.invoking m args :: below) := ⟨_, rfl⟩
  rw [← hA] at Y
  have hvm : s'.vm = s.vm := by rw [hA]; rfl
  have hhp : s'.heap = H := by rw [hA]; exact hT
  have hW0 : s.WarmedH s'.vm := by rw [hvm]; exact State.WarmedH.refl s
  have hat' : ∀ w ∈ vx_at0 own ic cls names, w.before args s' = true := fun w hw => vx_ot_at hW0 hvm.symm (hgood w (List.mem_cons_of_mem _ (List.mem_cons_of_mem _ hw))) (hat w hw)
  have hk' : (Cond.classLink own ik cls).before args s' = true := vx_ot_at hW0 hvm.symm (hgood _ List.mem_cons_self) hk
  have hini' : (Cond.initialized cls).before args s' = true := vx_ot_at hW0 hvm.symm (hgood _ (List.mem_cons_of_mem _ List.mem_cons_self)) hini
  have hU' : vx_Zq Bundle.tN "UNASSIGNED_STACK" Bundle.steD A s' s'.heap := by rw [hhp]; exact vx_Zq.moved hW0.alike (hU.kept hS.2.1)
  have hN' : vx_Zq Bundle.tN "SUPPRESSED_SENTINEL" Bundle.listD A s' s'.heap := by rw [hhp]; exact vx_Zq.moved hW0.alike (hN.kept hS.2.1)
  have h : ∀ w ∈ Bundle.ownAtoms0 own ic cls names, w.before args s' = true := vx_own hat' (vx_isRefq hU'.1) (vx_isRefq hN'.1) hU'.2.word hN'.2.word
  have hown' : s'.vm.findClass own = some m.cls := by rw [hvm]; exact hown
  have hins : (Cond.instantiable cls 6).before args s' = true := h _ (by simp [Bundle.ownAtoms0])
  obtain ⟨vm₁, cX, kX, hfX, hkX, -, -, X₁, st1⟩ := Y.newCold hexec (own := own) (C := cls) (index := ik) (n := 6) hown' hk' hins hini'
    (g := F0 m pc ls rest) rfl (by rw [hb]; exact d0) (Nat.le_refl _) (Nat.le_refl _)
  generalize hT1 : (T.setVm vm₁).pushCell { cls := cX, slots := kX.instanceTypes.map defaultValue, vm := .none } = T1 at X₁ st1
  have hcat : (Value.ref T.heap.size).category = 1 := rfl
  have hcellA : T1.heap[T.heap.size]? = some (freshCell cX kX) := by rw [← hT1]; exact State.heap_pushCell_size _ _
  have d3' : decode c.code (pc + 3) = .ok (.dup, 1) := by rw [hb]; exact d3
  obtain ⟨U, hsteps, hrun, hend, hW, hsame, ce, hce, hO⟩ := X₁.ctorThrow0 hexec htr (own := own) (cls := cls) (names := names) (ic := ic) hown' hcls hnames h (fun x hx => nomatch hx) hfX hkX hcellA (by rw [hhp, hT]; exact Nat.le_refl _)
    (g := { method := m, pc := pc + 4, locals := ls, stack := .ref T.heap.size :: .ref T.heap.size :: rest, locked := none }) rfl hsize rfl rfl (rest := rest) rfl
    (by rw [hb]; exact d4) (by rw [hb]; exact d7) hout hRframes (by simp only [List.map_cons, List.sum_cons, hcat]; omega) hlocks
  obtain ⟨f1, f2⟩ := vx_frame hsame
  rw [hhp] at f1 f2
  have hWs : s.WarmedH U.vm := State.WarmedH.trans hW0 hW
  have hcl : s.vm.findClass cls = some ce.cls := by
    have h9 := hO.cls
    rw [hvm] at h9
    exact h9
  have hall : s.sameButNew ({ U with vm := s.vm } : State) locs mc ms := by
    subst hA
    obtain ⟨e1, e2⟩ := hsame
    rw [State.setFrames_setFrames] at e1
    have h2 : (T.setVm s.vm).sameButNew ({ U with vm := s.vm } : State) [] (0 + 1) (0 + 6) := ⟨e1, e2⟩
    have h3 := X.same.trans h2
    rw [List.append_nil] at h3
    exact h3.mono hc hs
  refine ⟨U, ?_, .threw T.heap.size, hrun, hend, Or.inr ⟨T.heap.size, rfl, cls, ce, locs, hx U hWs.alike f1 (fun q hq => f2 q hq (fun z hz => nomatch hz)), hce, hO.vm, hcl, hWs, hall, hf⟩⟩
  refine st1 _ ?_
  show Steps p.tables e below (T1.setTop { method := m, pc := pc + 3, locals := ls, stack := .ref T.heap.size :: rest, locked := none }) _
  jvm_step X₁.here [X₁.here.top, hexec, d3', Value.category]
  exact hsteps
/-- 'throw new E("text")': new; dup; ldc; invokespecial; athrow -/
theorem vx_throwS {cc : ByteArray} {pc : Nat} (hexec : p.tables.exec = Jvm.exec) (hb : c.code = cc) (hl : l.stackTraces = false) {own cls text : String} {names : List String} {ik is ic mc ms sa : Nat} {A : Nat → Prop}
    (hown : s.vm.findClass own = some m.cls) (hcls : Bundle.fit cls = true) (hnames : ∀ n ∈ names, Bundle.fit n = true)
    (hk : (Cond.classLink own ik cls).before args s = true) (hini : (Cond.initialized cls).before args s = true) (hstr : vk_R own is text sa s) (hat : ∀ w ∈ vx_atS own ic cls names, w.before args s = true)
    (hgood : ∀ w ∈ Cond.classLink own ik cls :: Cond.initialized cls :: vx_atS own ic cls names, vx_ot w = true)
    (hU : vx_Zq Bundle.tN "UNASSIGNED_STACK" Bundle.steD A s s.heap) (hN : vx_Zq Bundle.tN "SUPPRESSED_SENTINEL" Bundle.listD A s s.heap) (hS : va_S A s.heap H locs) (hsize : ls.size = c.maxLocals)
    (d0 : decode cc pc = .ok (.new ik, 3)) (d3 : decode cc (pc + 3) = .ok (.dup, 1)) (d4 : decode cc (pc + 4) = .ok (.ldc is, 2)) (d6 : decode cc (pc + 6) = .ok (.invokespecial ic, 3)) (d9 : decode cc (pc + 9) = .ok (.athrow, 1))
    (hout : ∀ x ∈ c.exceptionTable.toList, covers x (pc + 9) = false)
    (hRframes : names.length + 3 < R.frames) (hRlocals : (rest.map fun v => v.category).sum + (13 * (names.length + 1) + 43) ≤ R.locals) (hRcells : cells + 1 ≤ R.cells) (hRslots : slots + 6 ≤ R.slots) (hlocks : meth.locks = false)
    (hx : ∀ t : State, s.vm.Alike t.vm → H.size ≤ t.heap.size → (∀ q : Nat, q < H.size → t.heap[q]? = H[q]?) → XC cls s t)
    (hf : ∀ z ∈ locs, free z.base) (hc : cells + 1 ≤ mc) (hs : slots + 6 ≤ ms) :
    W p l e R s m args below meth c H locs cells slots (vx_MQ below Qc XC args s mc ms free) (F0 m pc ls rest) := by
  intro T hT X
  have htr : e.platform.stackTraces = false := (show e.platform.stackTraces = l.stackTraces by rw [X.admits.platform]).trans hl
  have Y := vx_rebase X (R' := { frames := R.frames, locals := R.locals, cells := 1, slots := 6 }) (Nat.le_refl _) (Nat.le_refl _) hRcells hRslots
  obtain ⟨s', hA⟩ : ∃ z, z = (T.setVm s.vm).setFrames (.invoking m args :: below) := ⟨_, rfl⟩
  rw [← hA] at Y
  have hvm : s'.vm = s.vm := by rw [hA]; rfl
  have hhp : s'.heap = H := by rw [hA]; exact hT
  have hW0 : s.WarmedH s'.vm := by rw [hvm]; exact State.WarmedH.refl s
  have hat' : ∀ w ∈ vx_atS own ic cls names, w.before args s' = true := fun w hw => vx_ot_at hW0 hvm.symm (hgood w (List.mem_cons_of_mem _ (List.mem_cons_of_mem _ hw))) (hat w hw)
  have hk' : (Cond.classLink own ik cls).before args s' = true := vx_ot_at hW0 hvm.symm (hgood _ List.mem_cons_self) hk
  have hini' : (Cond.initialized cls).before args s' = true := vx_ot_at hW0 hvm.symm (hgood _ (List.mem_cons_of_mem _ List.mem_cons_self)) hini
  have hU' : vx_Zq Bundle.tN "UNASSIGNED_STACK" Bundle.steD A s' s'.heap := by rw [hhp]; exact vx_Zq.moved hW0.alike (hU.kept hS.2.1)
  have hN' : vx_Zq Bundle.tN "SUPPRESSED_SENTINEL" Bundle.listD A s' s'.heap := by rw [hhp]; exact vx_Zq.moved hW0.alike (hN.kept hS.2.1)
  have h : ∀ w ∈ Bundle.ownAtoms own ic cls names, w.before args s' = true := vx_own hat' (vx_isRefq hU'.1) (vx_isRefq hN'.1) hU'.2.word hN'.2.word
  have hown' : s'.vm.findClass own = some m.cls := by rw [hvm]; exact hown
  have hins : (Cond.instantiable cls 6).before args s' = true := h _ (by simp [Bundle.ownAtoms])
  obtain ⟨vm₁, cX, kX, hfX, hkX, -, -, X₁, st1⟩ := Y.newCold hexec (own := own) (C := cls) (index := ik) (n := 6) hown' hk' hins hini'
    (g := F0 m pc ls rest) rfl (by rw [hb]; exact d0) (Nat.le_refl _) (Nat.le_refl _)
  generalize hT1 : (T.setVm vm₁).pushCell { cls := cX, slots := kX.instanceTypes.map defaultValue, vm := .none } = T1 at X₁ st1
  have hcat : (Value.ref T.heap.size).category = 1 := rfl
  have hcellA : T1.heap[T.heap.size]? = some (freshCell cX kX) := by rw [← hT1]; exact State.heap_pushCell_size _ _
  have d3' : decode c.code (pc + 3) = .ok (.dup, 1) := by rw [hb]; exact d3
  have d4' : decode c.code (pc + 4) = .ok (.ldc is, 2) := by rw [hb]; exact d4
  have hstr' : vk_R own is text sa s' := vk_R.warm hW0 hstr
  obtain ⟨U, hsteps, hrun, hend, hW, hsame, ce, hce, hO⟩ := X₁.ctorThrowS hexec htr (own := own) (cls := cls) (names := names) (ic := ic) hown' hcls hnames h (fun x hx => nomatch hx) hfX hkX hcellA (by rw [hhp, hT]; exact Nat.le_refl _) (msg := .ref sa) rfl
    (g := { method := m, pc := pc + 6, locals := ls, stack := .ref sa :: .ref T.heap.size :: .ref T.heap.size :: rest, locked := none }) rfl hsize rfl rfl (rest := rest) rfl
    (by rw [hb]; exact d6) (by rw [hb]; exact d9) hout hRframes (by simp only [List.map_cons, List.sum_cons, hcat]; omega) hlocks
  obtain ⟨f1, f2⟩ := vx_frame hsame
  rw [hhp] at f1 f2
  have hWs : s.WarmedH U.vm := State.WarmedH.trans hW0 hW
  have hcl : s.vm.findClass cls = some ce.cls := by
    have h9 := hO.cls
    rw [hvm] at h9
    exact h9
  have hall : s.sameButNew ({ U with vm := s.vm } : State) locs mc ms := by
    subst hA
    obtain ⟨e1, e2⟩ := hsame
    rw [State.setFrames_setFrames] at e1
    have h2 : (T.setVm s.vm).sameButNew ({ U with vm := s.vm } : State) [] (0 + 1) (0 + 6) := ⟨e1, e2⟩
    have h3 := X.same.trans h2
    rw [List.append_nil] at h3
    exact h3.mono hc hs
  refine ⟨U, ?_, .threw T.heap.size, hrun, hend, Or.inr ⟨T.heap.size, rfl, cls, ce, locs, hx U hWs.alike f1 (fun q hq => f2 q hq (fun z hz => nomatch hz)), hce, hO.vm, hcl, hWs, hall, hf⟩⟩
  refine st1 _ ?_
  show Steps p.tables e below (T1.setTop { method := m, pc := pc + 3, locals := ls, stack := .ref T.heap.size :: rest, locked := none }) _
  jvm_step X₁.here [X₁.here.top, hexec, d3', Value.category]
  exact X₁.ldcString hexec (own := own) (text := text) (index := is) (a := sa) hown' hstr'.1 hstr'.2
    (g := { method := m, pc := pc + 4, locals := ls, stack := .ref T.heap.size :: .ref T.heap.size :: rest, locked := none }) rfl d4' _ hsteps
/-- 'throw new E("text")', the text by a wide index -/
theorem vx_throwSW {cc : ByteArray} {pc : Nat} (hexec : p.tables.exec = Jvm.exec) (hb : c.code = cc) (hl : l.stackTraces = false) {own cls text : String} {names : List String} {ik is ic mc ms sa : Nat} {A : Nat → Prop}
    (hown : s.vm.findClass own = some m.cls) (hcls : Bundle.fit cls = true) (hnames : ∀ n ∈ names, Bundle.fit n = true)
    (hk : (Cond.classLink own ik cls).before args s = true) (hini : (Cond.initialized cls).before args s = true) (hstr : vk_R own is text sa s) (hat : ∀ w ∈ vx_atS own ic cls names, w.before args s = true)
    (hgood : ∀ w ∈ Cond.classLink own ik cls :: Cond.initialized cls :: vx_atS own ic cls names, vx_ot w = true)
    (hU : vx_Zq Bundle.tN "UNASSIGNED_STACK" Bundle.steD A s s.heap) (hN : vx_Zq Bundle.tN "SUPPRESSED_SENTINEL" Bundle.listD A s s.heap) (hS : va_S A s.heap H locs) (hsize : ls.size = c.maxLocals)
    (d0 : decode cc pc = .ok (.new ik, 3)) (d3 : decode cc (pc + 3) = .ok (.dup, 1)) (d4 : decode cc (pc + 4) = .ok (.ldc_w is, 3)) (d7 : decode cc (pc + 7) = .ok (.invokespecial ic, 3)) (d10 : decode cc (pc + 10) = .ok (.athrow, 1))
    (hout : ∀ x ∈ c.exceptionTable.toList, covers x (pc + 10) = false)
    (hRframes : names.length + 3 < R.frames) (hRlocals : (rest.map fun v => v.category).sum + (13 * (names.length + 1) + 43) ≤ R.locals) (hRcells : cells + 1 ≤ R.cells) (hRslots : slots + 6 ≤ R.slots) (hlocks : meth.locks = false)
    (hx : ∀ t : State, s.vm.Alike t.vm → H.size ≤ t.heap.size → (∀ q : Nat, q < H.size → t.heap[q]? = H[q]?) → XC cls s t)
    (hf : ∀ z ∈ locs, free z.base) (hc : cells + 1 ≤ mc) (hs : slots + 6 ≤ ms) :
    W p l e R s m args below meth c H locs cells slots (vx_MQ below Qc XC args s mc ms free) (F0 m pc ls rest) := by
  intro T hT X
  have htr : e.platform.stackTraces = false := (show e.platform.stackTraces = l.stackTraces by rw [X.admits.platform]).trans hl
  have Y := vx_rebase X (R' := { frames := R.frames, locals := R.locals, cells := 1, slots := 6 }) (Nat.le_refl _) (Nat.le_refl _) hRcells hRslots
  obtain ⟨s', hA⟩ : ∃ z, z = (T.setVm s.vm).setFrames (.invoking m args :: below) := ⟨_, rfl⟩
  rw [← hA] at Y
  have hvm : s'.vm = s.vm := by rw [hA]; rfl
  have hhp : s'.heap = H := by rw [hA]; exact hT
  have hW0 : s.WarmedH s'.vm := by rw [hvm]; exact State.WarmedH.refl s
  have hat' : ∀ w ∈ vx_atS own ic cls names, w.before args s' = true := fun w hw => vx_ot_at hW0 hvm.symm (hgood w (List.mem_cons_of_mem _ (List.mem_cons_of_mem _ hw))) (hat w hw)
  have hk' : (Cond.classLink own ik cls).before args s' = true := vx_ot_at hW0 hvm.symm (hgood _ List.mem_cons_self) hk
  have hini' : (Cond.initialized cls).before args s' = true := vx_ot_at hW0 hvm.symm (hgood _ (List.mem_cons_of_mem _ List.mem_cons_self)) hini
  have hU' : vx_Zq Bundle.tN "UNASSIGNED_STACK" Bundle.steD A s' s'.heap := by rw [hhp]; exact vx_Zq.moved hW0.alike (hU.kept hS.2.1)
  have hN' : vx_Zq Bundle.tN "SUPPRESSED_SENTINEL" Bundle.listD A s' s'.heap := by rw [hhp]; exact vx_Zq.moved hW0.alike (hN.kept hS.2.1)
  have h : ∀ w ∈ Bundle.ownAtoms own ic cls names, w.before args s' = true := vx_own hat' (vx_isRefq hU'.1) (vx_isRefq hN'.1) hU'.2.word hN'.2.word
  have hown' : s'.vm.findClass own = some m.cls := by rw [hvm]; exact hown
  have hins : (Cond.instantiable cls 6).before args s' = true := h _ (by simp [Bundle.ownAtoms])
  obtain ⟨vm₁, cX, kX, hfX, hkX, -, -, X₁, st1⟩ := Y.newCold hexec (own := own) (C := cls) (index := ik) (n := 6) hown' hk' hins hini'
    (g := F0 m pc ls rest) rfl (by rw [hb]; exact d0) (Nat.le_refl _) (Nat.le_refl _)
  generalize hT1 : (T.setVm vm₁).pushCell { cls := cX, slots := kX.instanceTypes.map defaultValue, vm := .none } = T1 at X₁ st1
  have hcat : (Value.ref T.heap.size).category = 1 := rfl
  have hcellA : T1.heap[T.heap.size]? = some (freshCell cX kX) := by rw [← hT1]; exact State.heap_pushCell_size _ _
  have d3' : decode c.code (pc + 3) = .ok (.dup, 1) := by rw [hb]; exact d3
  have d4' : decode c.code (pc + 4) = .ok (.ldc_w is, 3) := by rw [hb]; exact d4
  have hstr' : vk_R own is text sa s' := vk_R.warm hW0 hstr
  obtain ⟨U, hsteps, hrun, hend, hW, hsame, ce, hce, hO⟩ := X₁.ctorThrowS hexec htr (own := own) (cls := cls) (names := names) (ic := ic) hown' hcls hnames h (fun x hx => nomatch hx) hfX hkX hcellA (by rw [hhp, hT]; exact Nat.le_refl _) (msg := .ref sa) rfl
    (g := { method := m, pc := pc + 7, locals := ls, stack := .ref sa :: .ref T.heap.size :: .ref T.heap.size :: rest, locked := none }) rfl hsize rfl rfl (rest := rest) rfl
    (by rw [hb]; exact d7) (by rw [hb]; exact d10) hout hRframes (by simp only [List.map_cons, List.sum_cons, hcat]; omega) hlocks
  obtain ⟨f1, f2⟩ := vx_frame hsame
  rw [hhp] at f1 f2
  have hWs : s.WarmedH U.vm := State.WarmedH.trans hW0 hW
  have hcl : s.vm.findClass cls = some ce.cls := by
    have h9 := hO.cls
    rw [hvm] at h9
    exact h9
  have hall : s.sameButNew ({ U with vm := s.vm } : State) locs mc ms := by
    subst hA
    obtain ⟨e1, e2⟩ := hsame
    rw [State.setFrames_setFrames] at e1
    have h2 : (T.setVm s.vm).sameButNew ({ U with vm := s.vm } : State) [] (0 + 1) (0 + 6) := ⟨e1, e2⟩
    have h3 := X.same.trans h2
    rw [List.append_nil] at h3
    exact h3.mono hc hs
  refine ⟨U, ?_, .threw T.heap.size, hrun, hend, Or.inr ⟨T.heap.size, rfl, cls, ce, locs, hx U hWs.alike f1 (fun q hq => f2 q hq (fun z hz => nomatch hz)), hce, hO.vm, hcl, hWs, hall, hf⟩⟩
  refine st1 _ ?_
  show Steps p.tables e below (T1.setTop { method := m, pc := pc + 3, locals := ls, stack := .ref T.heap.size :: rest, locked := none }) _
  jvm_step X₁.here [X₁.here.top, hexec, d3', Value.category]
  exact X₁.ldcStringW hexec (own := own) (text := text) (index := is) (a := sa) hown' hstr'.1 hstr'.2
    (g := { method := m, pc := pc + 4, locals := ls, stack := .ref T.heap.size :: .ref T.heap.size :: rest, locked := none }) rfl d4' _ hsteps
end Ends
section Bodies
variable {l : Launch}
theorem vx_ofW {y : MethodName} {ws ws' : List Cond} {rm : Room} {Pc : Array Value → State → Prop} {Qc : Array Value → State → Outcome → State → Prop} {XC : String → State → State → Prop} {mc ms : Nat} {free : Addr → Prop} {cc : ByteArray} {maxL : Nat} {ret : Option FieldType}
    (hy : plainName y.cls = true) (hw : ws = Cond.code y cc maxL ret :: ws')
    (body : ∀ p e s m args below meth c s₁, BodyLoose p l y (headSpec ws rm) cc maxL ret e s m args below meth c s₁ → c.maxLocals = maxL → (∀ x ∈ c.exceptionTable.toList, False) → Pc args s →
      W p l e (headSpec ws rm).room s m args below meth c s.heap [] 0 0 (vx_MQ below Qc XC args s mc ms free) (entryFrame m args maxL)) : vx_Met l y ws rm Pc Qc XC mc ms free := by
  refine MetFree.of_bodyS (code := cc) (maxLocals := maxL) (ret := ret) hy ?_ ?_
  · intro args s m h hn
    obtain ⟨meth, c, h1, h2, h3, h4, h5, h6, -, -⟩ := Cond.code_spec hn (atoms_spec (ws := ws) h _ (by rw [hw]; exact List.mem_cons_self))
    exact ⟨meth, c, h1, h2, h3, h4, h5, h6⟩
  · intro p e s m args below meth c s₁ B hml hP _
    have hh0 : s₁.heap = s.heap := by rw [B.state]; rfl
    have ht : ∀ x ∈ c.exceptionTable.toList, False := by
      obtain ⟨meth9, c9, h1, h2, -, -, -, -, h7, -⟩ := Cond.code_spec B.named (atoms_spec (ws := ws) B.pre _ (by rw [hw]; exact List.mem_cons_self))
      cases Option.some.inj (h1.symm.trans B.method)
      cases Option.some.inj (h2.symm.trans (Stand.of_body B).code)
      intro x hx
      rw [Array.isEmpty_iff.mp h7] at hx
      cases hx
    obtain ⟨t, a1, o, b1, b2, b3⟩ := body p e s m args below meth c s₁ B hml ht hP s₁ hh0 (Stand.of_body B)
    exact ⟨t, o, a1, b1, b2, b3⟩
/-- the table of a body with handlers -/
theorem vx_table {p : Program} {x y : MethodName} {S : Spec} {cc bytes : ByteArray} {maxL maxL' : Nat} {ret ret' : Option FieldType} {e : Env} {s s₁ : State} {m : MethodId} {args : Array Value} {below : List Frame} {meth : Method} {c : Code} {hh : List (Nat × Nat × Nat × Nat)}
    (B : BodyLoose p l y S cc maxL ret e s m args below meth c s₁) (h : (Cond.codeWith y bytes maxL' ret' hh).before args s = true) : c.exceptionTable.toList = tableOf hh := by
  obtain ⟨m9, meth9, c9, hn9, h1, h2, -, -, h6, -⟩ := Cond.codeWith_spec h
  cases Option.some.inj (hn9.symm.trans B.named)
  cases Option.some.inj (h1.symm.trans B.method)
  cases Option.some.inj (h2.symm.trans (Stand.of_body B).code)
  rw [← h6, table_eq]
end Bodies
end VXA
/-! ===== END ===== -/
/-! ===== BEGIN a static call of a method with an exception table ===== -/
section VXS
variable {p : Program} {l : Launch} {e : Env} {R : Room} {s : State} {m : MethodId} {args : Array Value} {below : List Frame} {meth : Method} {c : Code} {T : State} {H : Heap} {locs : List Loc} {cells slots : Nat}
abbrev vx_CSW (R : Room) (s : State) (args : Array Value) (own : String) (index : Nat) (y : MethodName) (bytes : ByteArray) (maxL : Nat) (ret : Option FieldType) (hh : List (Nat × Nat × Nat × Nat)) (ws : List Cond) (rm : Room) (mc ms n : Nat) : Prop :=
  (rm.cells = mc ∧ rm.slots = ms ∧ rm.frames + 1 ≤ R.frames ∧ 8 + (maxL + 11) + rm.locals ≤ R.locals ∧ (∀ w ∈ ws, ∀ (a' : Array Value) (U : State), s.WarmedH U.vm → w.before a' U = true) ∧ Cond.codeWith y bytes maxL ret hh ∈ ws) ∧
  (Cond.codeWith y bytes maxL ret hh).before args s = true ∧ (Cond.initialized y.cls).before args s = true ∧ (y.cls ≠ "java/lang/invoke/MethodHandle" ∧ y.cls ≠ "java/lang/invoke/VarHandle") ∧
  (∀ sig, parseMethodDescriptor y.desc = some sig → n = sig.parameters.length) ∧ (Cond.methodLink own index y).before args s = true ∧ (Cond.static y).before args s = true
theorem vx_cwSW {own : String} {index maxL mc ms : Nat} {y : MethodName} {bytes : ByteArray} {ret : Option FieldType} {hh : List (Nat × Nat × Nat × Nat)} {Ts ws ws' : List Cond} {rm : Room} (n : Nat) (ht : ∀ w ∈ Ts, w.before args s = true) (hT : GoodIn Ts (va_wsS own index y ws)) (hw : ws = Cond.codeWith y bytes maxL ret hh :: ws') (hrc : rm.cells = mc) (hrs : rm.slots = ms)
    (hd : y.cls ≠ "java/lang/invoke/MethodHandle" ∧ y.cls ≠ "java/lang/invoke/VarHandle" ∧ (parseMethodDescriptor y.desc).map (fun d => d.parameters.length) = some n) (hR : rm.frames + 1 ≤ R.frames ∧ 8 + (maxL + 11) + rm.locals ≤ R.locals) :
    vx_CSW R s args own index y bytes maxL ret hh ws rm mc ms n := by
  have ok : ∀ w ∈ va_wsS own index y ws, w.before args s = true := fun w h => ht w (hT w h).1
  have hG : GoodIn Ts ws := fun w h => hT w (by unfold va_wsS; exact List.mem_append_right _ h)
  have hc : Cond.codeWith y bytes maxL ret hh ∈ ws := by rw [hw]; exact List.mem_cons_self
  refine ⟨⟨hrc, hrs, hR.1, hR.2, pay_in ht hG, hc⟩, ht _ (hG _ hc).1, ok _ (by simp [va_wsS]), ⟨hd.1, hd.2.1⟩, fun sig h => ?_, ok _ (by simp [va_wsS]), ok _ (by simp [va_wsS])⟩
  have h2 := hd.2.2
  rw [h] at h2
  exact (Option.some.inj h2).symm
theorem vx_callSW (X : Stand p l e R s m args below meth c T locs cells slots) (hexec : p.tables.exec = Jvm.exec) {own : String} {index : Nat} {y : MethodName} {bytes : ByteArray} {maxL : Nat} {ret : Option FieldType} {hh : List (Nat × Nat × Nat × Nat)}
    (hown : s.vm.findClass own = some m.cls) (hlink : (Cond.methodLink own index y).before args s = true) (hstat : (Cond.static y).before args s = true) (hinit : (Cond.initialized y.cls).before args s = true)
    (hcode : (Cond.codeWith y bytes maxL ret hh).before args s = true) (hy : y.cls ≠ "java/lang/invoke/MethodHandle" ∧ y.cls ≠ "java/lang/invoke/VarHandle")
    {W9 : Nat} {Pre : Pt → Array Value → Prop} {Post : Pt → Array Value → Option Value → Pt → Prop} (hK : Back l R p e below s args y 3 W9 Pre Post)
    {g : JFrame} (hg : g.method = m) (hsize : g.locals.size = c.maxLocals) {argsL rest : List Value} (hlen : ∀ sig, parseMethodDescriptor y.desc = some sig → argsL.length = sig.parameters.length)
    (hstack : g.stack = argsL.reverse ++ rest) (hW : 2 * g.monitorRoom + (rest.map fun v => v.category).sum ≤ W9) (hdg : decode c.code g.pc = .ok (.invokestatic index, 3))
    (hpre : ∀ vm₁, s.WarmedH vm₁ → Pre ⟨T.setVm vm₁, locs, cells, slots⟩ argsL.toArray) :
    ∃ (v : Option Value) (vm₁ : Vm) (B : Pt), s.WarmedH vm₁ ∧ Stand p l e R s m args below meth c B.U B.locs B.cells B.slots ∧ Post ⟨T.setVm vm₁, locs, cells, slots⟩ argsL.toArray v B ∧
      ∀ target, Steps p.tables e below (B.U.setTop { g with pc := g.pc + 3, stack := v.toList ++ rest }) target → Steps p.tables e below (T.setTop g) target := by
  obtain ⟨mk, methM, cM, hnamed, hmethM, -, -, -, -, -, -, hsigM⟩ := Cond.codeWith_spec hcode
  have hstatic : methM.isStatic = true := Cond.static_spec hnamed hmethM hstat
  obtain ⟨kP, hkP, -⟩ := className_of_methodNamed hnamed
  have hinitP : kP.init = .initialized := Cond.initialized_spec (findClass_of_methodNamed hnamed) hkP hinit
  obtain ⟨vm₁, X₁, hstep₁⟩ := X.invokestatic hexec hown hlink hnamed hmethM hstatic hkP hinitP hy (g := g) hg (argsL := argsL) (rest := rest) (hlen _ hsigM) hstack hdg
  obtain ⟨v, B, X', hpost, hsteps⟩ := hK m meth c ⟨T.setVm vm₁, locs, cells, slots⟩ { g with stack := rest } (.invokestatic index) mk argsL.toArray X₁ hg hsize hdg hW (X₁.named hnamed) (hpre vm₁ X₁.warmed)
  exact ⟨v, vm₁, B, X₁.warmed, X', hpost, fun target h => hstep₁ _ fun acts => by rw [doInvoke_state]; exact hsteps.trans h⟩
theorem vx_runSW {y : MethodName} {bytes cc : ByteArray} {maxL nL mc ms n index : Nat} {ret : Option FieldType} {hh : List (Nat × Nat × Nat × Nat)} {ws : List Cond} {rm : Room} {Pc : Array Value → State → Prop} {Qc : Array Value → State → Outcome → State → Prop} {free : Addr → Prop} {Ts : List Cond} {own : String} {As rest : List Value} {g : JFrame}
    (S : CallFix p m c cc nL s args Ts own) (hM : Met l y ws rm Pc Qc mc ms free) (cw : vx_CSW R s args own index y bytes maxL ret hh ws rm mc ms n) (hp : PreS s H Pc As)
    (hg : g.method = m) (hn : As.length = n) (hsize : g.locals.size = nL) (hstack : g.stack = As.reverse ++ rest) (hW : 2 * g.monitorRoom + (rest.map fun v => v.category).sum ≤ 8) (hdg : decode cc g.pc = .ok (.invokestatic index, 3)) (hf : cells + mc ≤ R.cells ∧ slots + ms ≤ R.slots) :
    va_Run p l e R s m args below meth c H locs cells slots mc ms g rest (Qc As.toArray) (free) := by
  obtain ⟨⟨hrc, hrs, hfr, hlo, hws, hcw⟩, hcode, hini, hy, hlen, hl, hstt⟩ := cw
  have hK : Back l R p e below s args y 3 8 (PreOf R mc ms Pc) (PostOf Qc mc ms free) := va_backW (hh := hh) (bytes := bytes) (maxL := maxL) (ret := ret) hM hp.1 hrc hrs hfr hlo hws hcw (fun a' U hW => word_at hW (Or.inl (by first | rfl | simp [Cond.onTables, Cond.keeps, Cond.steady])) hini)
  obtain ⟨hx, hb, hml, ho, -⟩ := S
  intro T hT X
  obtain ⟨v, vm₁, ⟨U', l2, c2, s2⟩, hW₁, X', ⟨g', mk, t, L, e1, e2, hq, h1, hL, h2, h3⟩, st⟩ := vx_callSW X hx (hh := hh) (bytes := bytes) (maxL := maxL) (ret := ret) ho hl hstt hini hcode hy hK hg (hsize.trans hml.symm) (argsL := As) (rest := rest) (fun sig h => hn.trans (hlen sig h)) hstack hW (by rw [hb]; exact hdg)
    (fun vm₁ hW₁ => ⟨hf.1, hf.2, hp.2 (T.setVm vm₁) hT hW₁⟩)
  dsimp only [Pt.U, Pt.locs, Pt.cells, Pt.slots] at X' e1 e2 h1 h2 h3 st
  subst h1; subst h2; subst h3
  exact ⟨v, (T.setVm vm₁).calling g' mk As.toArray, t, U', L, hT, X', hL, e1, e2, hq, st⟩
/-- not caught here, past rows that name other classes: it goes on to the caller -/
theorem vx_outP {p : Program} {l : Launch} {e : Env} {R : Room} {s : State} {m : MethodId} {args : Array Value} {below : List Frame} {meth : Method} {c : Code} {H : Heap} {locs : List Loc} {cells slots : Nat} {free : Addr → Prop} {ls : Array Slot} {rest : List Value} {Qc : Array Value → State → Outcome → State → Prop} {XC : String → State → State → Prop}
    {pc : Nat} {own E : String} {ce : Cell} {q : Addr} {mc ms : Nat} (hown : s.vm.findClass own = some m.cls) (hlocks : meth.locks = false)
    (hpass : ∀ z ∈ c.exceptionTable.toList, covers z pc = false ∨ (z.catchType ≠ 0 ∧ ∃ nm : String, (Cond.classLink own z.catchType nm).before args s = true ∧ va_Nc E nm s)) (hcell : H[q]? = some ce) (hv : ce.vm = .none) (hcl : s.vm.findClass E = some ce.cls)
    (hx : ∀ t : State, t.heap = H → s.vm.Alike t.vm → XC E s t) (hf : ∀ z ∈ locs, free z.base) (hc : cells ≤ mc) (hs : slots ≤ ms) :
    vx_W p l e R s m args below meth c H locs cells slots (vx_MQ below Qc XC args s mc ms free) (F0 m pc ls rest) q := by
  intro T hT X
  have hpl : e.platform.magicAccessors = ({} : Platform).magicAccessors := by rw [X.admits.platform]
  obtain ⟨vm', hW', X', st⟩ := X.outThrough hlocks q (g := F0 m pc ls rest) rfl rfl rfl (cell := ce) (by rw [hT]; exact hcell) (by rw [hv]; rfl)
    (by obtain ⟨k9, h9, -⟩ := Vm.findClass_spec hcl; exact ⟨k9, h9⟩) (fun z hz => by
      rcases hpass z hz with h | ⟨hz0, nm, hl1, hn1⟩
      · exact Or.inl h
      · obtain ⟨c6, hc6, hcl6⟩ := Cond.classLink_spec hown hl1 e.platform hpl
        obtain ⟨a8, b8, h1, h2, h3⟩ := hn1
        cases Option.some.inj (h1.symm.trans hcl)
        cases Option.some.inj (h2.symm.trans hc6)
        exact Or.inr ⟨hz0, _, hcl6, h3⟩)
  obtain ⟨g₀, hfr⟩ := X'.frames_eq
  have hcell9 : ((T.setVm vm').setFrames (.throwing q :: below)).heap[q]? = some ce := by
    show T.heap[q]? = some ce
    rw [hT]; exact hcell
  have hend : Ended ((T.setVm vm').setFrames (.throwing q :: below)) below (.threw q) := State.frames_setFrames _ (State.cur_lt_of_frames hfr)
  refine ⟨(T.setVm vm').setFrames (.throwing q :: below), ?_, .threw q, X'.here.running, hend, Or.inr ⟨q, rfl, E, ce, locs, hx _ hT (X'.ends _).1.alike, hcell9, hv, hcl, (X'.ends _).1, (X'.ends _).2.mono hc hs, hf⟩⟩
  rw [X.pushThrowing_eq]
  exact st
/-- a thing of a world lies in the heap -/
theorem vx_lt {D : va_G} {cl : List vw_C} {ws : va_W} {H1 : Heap} (h : va_P D cl ws H1) {k : Nat} {q : Nat × va_E} (hk : ws[k]? = some q) : q.1 < H1.size := (h k q hk).lt
end VXS
/-! ===== END ===== -/
/-! ===== BEGIN methods with a table of their own: called by a name, returning or throwing ===== -/
section VXH
/-! vx_backW, vx_callVX, vx_callSX, vx_callVW, vx_runVW, vx_runVX, vx_runSX, vx_ofWH follow the same proofs as their sisters above (Free/Laws.lean, Shelf42/LK1.lean); vx_outP calls Shelf42/NT130.lean (outThrough). -/
section
variable {l : Launch} {R : Room} {p : Program} {e : Env} {below : List Frame} {s : State} {sargs : Array Value} {y : MethodName} {len W9 : Nat}
theorem vx_backW {ws : List Cond} {rm : Room} {Pc : Array Value → State → Prop} {Qc : Array Value → State → Outcome → State → Prop} {XC : String → State → State → Prop} {mc ms : Nat} {free : Addr → Prop} {bytes : ByteArray} {maxL : Nat} {ret : Option FieldType} {hh : List (Nat × Nat × Nat × Nat)}
    (hM : vx_Met l y ws rm Pc Qc XC mc ms free) (hblind : FrameBlind Pc) (hrc : rm.cells = mc) (hrs : rm.slots = ms)
    (hframes : rm.frames + 1 ≤ R.frames) (hlocals : W9 + (maxL + 11) + rm.locals ≤ R.locals)
    (hws : ∀ w ∈ ws, ∀ a' U, s.WarmedH U.vm → w.before a' U = true) (hcode : Cond.codeWith y bytes maxL ret hh ∈ ws) (hinit : ∀ a' U, s.WarmedH U.vm → (Cond.initialized y.cls).before a' U = true) :
    vx_Back l R p e below s sargs y len W9 (PreOf R mc ms Pc) (PostOf Qc mc ms free) (vx_Post XC mc ms free) := by
  intro m meth c A g ig mk a X hg hsize hdg hW hn hp
  have h1 : (headSpec ws rm).pre.before a A.U = true := atoms_intro fun w hw => hws w hw _ _ X.warmed
  have h2 : (Cond.codeWith y bytes maxL ret hh).before a A.U = true := hws _ hcode _ _ X.warmed
  have h3 : (Cond.initialized y.cls).before a A.U = true := hinit _ _ X.warmed
  have h4 : A.cells + (headSpec ws rm).room.cells ≤ R.cells := by rw [show (headSpec ws rm).room.cells = mc from hrc]; exact hp.1
  have h5 : A.slots + (headSpec ws rm).room.slots ≤ R.slots := by rw [show (headSpec ws rm).room.slots = ms from hrs]; exact hp.2.1
  have hPc : Pc a (A.U.calling g mk a) := hblind _ _ _ _ hp.2.2
  obtain ⟨U, Ls, c0, s0⟩ := A
  dsimp only [Pt.U, Pt.locs, Pt.cells, Pt.slots] at h1 h2 h3 h4 h5 X hn hPc ⊢
  obtain ⟨m9, methY, cY, hn9, hmY, hcY, -, hlY, -⟩ := Cond.codeWith_spec h2
  cases Option.some.inj (hn9.symm.trans hn)
  obtain ⟨kY, hkY, -⟩ := className_of_methodNamed hn
  have hinitY : kY.init = .initialized := Cond.initialized_spec (findClass_of_methodNamed hn) hkY h3
  have h : At U g.method c below := by rw [hg]; exact X.here
  have hlocals9 : W9 + (maxL + 11) + (headSpec ws rm).room.locals ≤ R.locals := hlocals
  have happ : (headSpec ws rm).appliesLoose y e.platform (U.calling g mk a) = true :=
    Spec.appliesLoose_calling (g := g) h hdg hn hkY hinitY
      (X.room_calling (g := g) (R' := (headSpec ws rm).room) hsize hmY hcY hframes (by rw [hlY]; omega) h4 h5) h1
  obtain ⟨mid, hmid⟩ := h.above
  have hfr : (U.setTop g).frames = (.java g :: mid) ++ below := by rw [State.frames_setTop' g h.top, hmid]; rfl
  obtain ⟨o, s₂, hsteps, -, hend, hq⟩ := Steps.callFree hM p X.admits X.cas X.clock (acts := []) hfr happ hPc trivial
  have hq' : vx_Q Qc XC mc ms free a (U.calling g mk a) o s₂ := hq
  rw [State.frames_setTop' g h.top] at hend
  obtain ⟨g₀, hg0⟩ := Option.isSome_iff_exists.mp h.top
  obtain ⟨r, hr⟩ := State.topJava?_eq_some.mp hg0
  have hr' : (({ U with heap := s₂.heap, slotsUsed := s₂.slotsUsed } : State).setVm s₂.vm).frames = .java g₀ :: r := hr
  rcases hq' with ⟨hqc, L, hfe, hL⟩ | ⟨q, rfl, E, ce, L, hx, hce, hcv, hcl, hW₂, hsm, hL⟩
  · obtain ⟨⟨v, rfl⟩, hW₂, e2, q2, q3, q4, q5, q6⟩ := id hfe
    have e3 : s₂ = ({ (U.calling g mk a).setFrames s₂.frames with heap := s₂.heap, slotsUsed := s₂.slotsUsed } : State).setVm s₂.vm := by
      have : s₂ = ({ s₂ with vm := (U.calling g mk a).vm } : State).setVm s₂.vm := rfl
      rw [e2] at this
      exact this
    obtain ⟨c₂, i₂, len₂, hc₂, hd₂, hf₂⟩ := hend
    have hW' : U.WarmedH s₂.vm := hW₂
    have hcc : c₂ = c := by
      have h1 : s₂.code? g.method = U.code? g.method := by
        rw [State.code?_eq, State.code?_eq, hW'.alike.method?]
      exact Option.some.inj (hc₂.symm.trans (h1.trans h.code))
    subst hcc
    have hlen : len₂ = len := by rw [hdg] at hd₂; cases hd₂; rfl
    subst hlen
    have hs₂ : s₂ = (({ U with heap := s₂.heap, slotsUsed := s₂.slotsUsed } : State).setVm s₂.vm).setTop { g with pc := g.pc + len₂, stack := v.toList ++ g.stack } := by
      refine e3.trans ?_
      rw [hf₂, State.calling_eq h.top, State.setFrames_setFrames, State.setTop_of_frames _ hr', hr]
      rfl
    have hsame : U.sameButNew ({ U with heap := s₂.heap, slotsUsed := s₂.slotsUsed } : State) L mc ms := by
      refine ⟨?_, q2, q3, q4, q5, q6⟩
      obtain ⟨t, ht, -⟩ := State.frames_cons hr
      show ({ U with heap := s₂.heap, slotsUsed := s₂.slotsUsed } : State) = { U.setFrames U.frames with heap := s₂.heap, slotsUsed := s₂.slotsUsed }
      rw [State.setFrames_self ht]
    subst hg
    refine Or.inl ⟨v, ⟨(({ U with heap := s₂.heap, slotsUsed := s₂.slotsUsed } : State).setVm s₂.vm), Ls ++ L, c0 + mc, s0 + ms⟩,
      ⟨X.admits, X.cas, X.clock, X.frames, X.room, X.hears, X.method, X.code, (X.here.setHeapUsed s₂.heap s₂.slotsUsed).setVm hW'.alike, X.tail, State.WarmedH.trans X.warmed hW', X.limits, X.bytes, X.same.trans (hsame.setVm s.vm)⟩,
      ⟨g, mk, s₂, L, rfl, rfl, hqc, rfl, hL, rfl, rfl⟩, ?_⟩
    show Steps p.tables e below _ ((({ U with heap := s₂.heap, slotsUsed := s₂.slotsUsed } : State).setVm s₂.vm).setTop { g with pc := g.pc + len₂, stack := v.toList ++ g.stack })
    rw [← hs₂]
    exact hsteps
  · obtain ⟨e2, q2, q3, q4, q5, q6⟩ := id hsm
    have e3 : s₂ = ({ (U.calling g mk a).setFrames s₂.frames with heap := s₂.heap, slotsUsed := s₂.slotsUsed } : State).setVm s₂.vm := by
      have : s₂ = ({ s₂ with vm := (U.calling g mk a).vm } : State).setVm s₂.vm := rfl
      rw [e2] at this
      exact this
    have hf₂ : s₂.frames = .throwing q :: .java g :: U.frames.tail := hend
    have hW' : U.WarmedH s₂.vm := hW₂
    have hs₂ : s₂ = ((({ U with heap := s₂.heap, slotsUsed := s₂.slotsUsed } : State).setVm s₂.vm).setTop g).pushFrame (.throwing q) := by
      refine e3.trans ?_
      rw [hf₂, State.calling_eq h.top, State.setFrames_setFrames, State.pushFrame, State.frames_setTop _ hr', State.setTop_of_frames _ hr', State.setFrames_setFrames, hr]
      rfl
    have hsame : U.sameButNew ({ U with heap := s₂.heap, slotsUsed := s₂.slotsUsed } : State) L mc ms := by
      refine ⟨?_, q2, q3, q4, q5, q6⟩
      obtain ⟨t, ht, -⟩ := State.frames_cons hr
      show ({ U with heap := s₂.heap, slotsUsed := s₂.slotsUsed } : State) = { U.setFrames U.frames with heap := s₂.heap, slotsUsed := s₂.slotsUsed }
      rw [State.setFrames_self ht]
    subst hg
    refine Or.inr ⟨q, ⟨(({ U with heap := s₂.heap, slotsUsed := s₂.slotsUsed } : State).setVm s₂.vm), Ls ++ L, c0 + mc, s0 + ms⟩,
      ⟨X.admits, X.cas, X.clock, X.frames, X.room, X.hears, X.method, X.code, (X.here.setHeapUsed s₂.heap s₂.slotsUsed).setVm hW'.alike, X.tail, State.WarmedH.trans X.warmed hW', X.limits, X.bytes, X.same.trans (hsame.setVm s.vm)⟩,
      ⟨g, mk, s₂, L, E, ce, rfl, rfl, hx, hce, hcv, hcl, rfl, hL, rfl, rfl⟩, ?_⟩
    show Steps p.tables e below _ (((({ U with heap := s₂.heap, slotsUsed := s₂.slotsUsed } : State).setVm s₂.vm).setTop g).pushFrame (.throwing q))
    rw [← hs₂]
    exact hsteps
end
variable {p : Program} {l : Launch} {e : Env} {R : Room} {s : State} {m : MethodId} {args : Array Value} {below : List Frame} {meth : Method} {c : Code} {T : State} {H : Heap} {locs : List Loc} {cells slots : Nat}
theorem vx_callVX (X : Stand p l e R s m args below meth c T locs cells slots) (hexec : p.tables.exec = Jvm.exec) {own C : String} {index : Nat} {y : MethodName} {bytes : ByteArray} {maxL : Nat} {ret : Option FieldType} {hh : List (Nat × Nat × Nat × Nat)}
    (hown : s.vm.findClass own = some m.cls) (hlink : (Cond.methodLink own index y).before args s = true) (hinst : (Cond.instanceMethod y).before args s = true) (hsel : (Cond.selects C y y).before args s = true)
    (hcode : (Cond.codeWith y bytes maxL ret hh).before args s = true) (hy : y.cls ≠ "java/lang/invoke/MethodHandle" ∧ y.cls ≠ "java/lang/invoke/VarHandle")
    {W9 : Nat} {Pre : Pt → Array Value → Prop} {Post : Pt → Array Value → Option Value → Pt → Prop} {PostX : Pt → Array Value → Addr → Pt → Prop} (hK : vx_Back l R p e below s args y 3 W9 Pre Post PostX)
    {b : Addr} {cellB : Cell} (hcell : T.heap[b]? = some cellB) (hobj : cellB.vm.isStatics = false) (hcls : s.vm.findClass C = some cellB.cls)
    {g : JFrame} (hg : g.method = m) (hsize : g.locals.size = c.maxLocals) {argsL rest : List Value} (hlen : ∀ sig, parseMethodDescriptor y.desc = some sig → argsL.length = sig.parameters.length)
    (hstack : g.stack = argsL.reverse ++ .ref b :: rest) (hW : 2 * g.monitorRoom + (rest.map fun v => v.category).sum ≤ W9) (hdg : decode c.code g.pc = .ok (.invokevirtual index, 3))
    (hpre : ∀ vm₁, s.WarmedH vm₁ → Pre ⟨T.setVm vm₁, locs, cells, slots⟩ (Value.ref b :: argsL).toArray) :
    (∃ (v : Option Value) (vm₁ : Vm) (B : Pt), s.WarmedH vm₁ ∧ Stand p l e R s m args below meth c B.U B.locs B.cells B.slots ∧ Post ⟨T.setVm vm₁, locs, cells, slots⟩ (Value.ref b :: argsL).toArray v B ∧
      ∀ target, Steps p.tables e below (B.U.setTop { g with pc := g.pc + 3, stack := v.toList ++ rest }) target → Steps p.tables e below (T.setTop g) target) ∨
    (∃ (q : Addr) (vm₁ : Vm) (B : Pt), s.WarmedH vm₁ ∧ Stand p l e R s m args below meth c B.U B.locs B.cells B.slots ∧ PostX ⟨T.setVm vm₁, locs, cells, slots⟩ (Value.ref b :: argsL).toArray q B ∧
      Steps p.tables e below (T.setTop g) ((B.U.setTop { g with stack := rest }).pushFrame (.throwing q))) := by
  obtain ⟨mk, methM, hnamed, hmethM, hstM, habM⟩ := Cond.instanceMethod_spec hinst
  obtain ⟨m8, methM', cM, hn8, hmethM', -, -, -, -, -, -, hsigM⟩ := Cond.codeWith_spec hcode
  cases Option.some.inj (hn8.symm.trans hnamed)
  cases hmethM.symm.trans hmethM'
  obtain ⟨c2, r2, m2, q1, q2, q3, q4, kP, hkP, hkPi⟩ := Cond.selects_spec hsel
  cases hcls.symm.trans q1
  cases (State.methodFound?_of_named hnamed hy).symm.trans q2
  cases hnamed.symm.trans q3
  have hselP : selectMethod e.platform s.vm cellB.cls mk = .method mk := by rw [Launch.admits_selectMethod X.admits]; exact q4
  obtain ⟨vm₁, X₁, hstep₁⟩ := X.invokevirtual hexec hown hlink hnamed hmethM hstM hkP hkPi hy (a := b) (cell := cellB) hcell
    (fun z h => by rw [h] at hobj; cases hobj) hselP hmethM habM hkP hkPi (g := g) hg (argsL := argsL) (rest := rest) (hlen _ hsigM) hstack hdg
  rcases hK m meth c ⟨T.setVm vm₁, locs, cells, slots⟩ { g with stack := rest } (.invokevirtual index) mk (Value.ref b :: argsL).toArray X₁ hg hsize hdg hW (X₁.named hnamed) (hpre vm₁ X₁.warmed) with ⟨v, B, X', hpost, hsteps⟩ | ⟨q, B, X', hpost, hsteps⟩
  · exact Or.inl ⟨v, vm₁, B, X₁.warmed, X', hpost, fun target h => hstep₁ _ fun acts => by rw [doInvoke_state]; exact hsteps.trans h⟩
  · exact Or.inr ⟨q, vm₁, B, X₁.warmed, X', hpost, hstep₁ _ fun acts => by rw [doInvoke_state]; exact hsteps⟩
theorem vx_callSX (X : Stand p l e R s m args below meth c T locs cells slots) (hexec : p.tables.exec = Jvm.exec) {own : String} {index : Nat} {y : MethodName} {bytes : ByteArray} {maxL : Nat} {ret : Option FieldType} {hh : List (Nat × Nat × Nat × Nat)}
    (hown : s.vm.findClass own = some m.cls) (hlink : (Cond.methodLink own index y).before args s = true) (hstat : (Cond.static y).before args s = true) (hinit : (Cond.initialized y.cls).before args s = true)
    (hcode : (Cond.codeWith y bytes maxL ret hh).before args s = true) (hy : y.cls ≠ "java/lang/invoke/MethodHandle" ∧ y.cls ≠ "java/lang/invoke/VarHandle")
    {W9 : Nat} {Pre : Pt → Array Value → Prop} {Post : Pt → Array Value → Option Value → Pt → Prop} {PostX : Pt → Array Value → Addr → Pt → Prop} (hK : vx_Back l R p e below s args y 3 W9 Pre Post PostX)
    {g : JFrame} (hg : g.method = m) (hsize : g.locals.size = c.maxLocals) {argsL rest : List Value} (hlen : ∀ sig, parseMethodDescriptor y.desc = some sig → argsL.length = sig.parameters.length)
    (hstack : g.stack = argsL.reverse ++ rest) (hW : 2 * g.monitorRoom + (rest.map fun v => v.category).sum ≤ W9) (hdg : decode c.code g.pc = .ok (.invokestatic index, 3))
    (hpre : ∀ vm₁, s.WarmedH vm₁ → Pre ⟨T.setVm vm₁, locs, cells, slots⟩ argsL.toArray) :
    (∃ (v : Option Value) (vm₁ : Vm) (B : Pt), s.WarmedH vm₁ ∧ Stand p l e R s m args below meth c B.U B.locs B.cells B.slots ∧ Post ⟨T.setVm vm₁, locs, cells, slots⟩ argsL.toArray v B ∧
      ∀ target, Steps p.tables e below (B.U.setTop { g with pc := g.pc + 3, stack := v.toList ++ rest }) target → Steps p.tables e below (T.setTop g) target) ∨
    (∃ (q : Addr) (vm₁ : Vm) (B : Pt), s.WarmedH vm₁ ∧ Stand p l e R s m args below meth c B.U B.locs B.cells B.slots ∧ PostX ⟨T.setVm vm₁, locs, cells, slots⟩ argsL.toArray q B ∧
      Steps p.tables e below (T.setTop g) ((B.U.setTop { g with stack := rest }).pushFrame (.throwing q))) := by
  obtain ⟨mk, methM, cM, hnamed, hmethM, -, -, -, -, -, -, hsigM⟩ := Cond.codeWith_spec hcode
  have hstatic : methM.isStatic = true := Cond.static_spec hnamed hmethM hstat
  obtain ⟨kP, hkP, -⟩ := className_of_methodNamed hnamed
  have hinitP : kP.init = .initialized := Cond.initialized_spec (findClass_of_methodNamed hnamed) hkP hinit
  obtain ⟨vm₁, X₁, hstep₁⟩ := X.invokestatic hexec hown hlink hnamed hmethM hstatic hkP hinitP hy (g := g) hg (argsL := argsL) (rest := rest) (hlen _ hsigM) hstack hdg
  rcases hK m meth c ⟨T.setVm vm₁, locs, cells, slots⟩ { g with stack := rest } (.invokestatic index) mk argsL.toArray X₁ hg hsize hdg hW (X₁.named hnamed) (hpre vm₁ X₁.warmed) with ⟨v, B, X', hpost, hsteps⟩ | ⟨q, B, X', hpost, hsteps⟩
  · exact Or.inl ⟨v, vm₁, B, X₁.warmed, X', hpost, fun target h => hstep₁ _ fun acts => by rw [doInvoke_state]; exact hsteps.trans h⟩
  · exact Or.inr ⟨q, vm₁, B, X₁.warmed, X', hpost, hstep₁ _ fun acts => by rw [doInvoke_state]; exact hsteps⟩
theorem vx_callVW (X : Stand p l e R s m args below meth c T locs cells slots) (hexec : p.tables.exec = Jvm.exec) {own C : String} {index : Nat} {y : MethodName} {bytes : ByteArray} {maxL : Nat} {ret : Option FieldType} {hh : List (Nat × Nat × Nat × Nat)}
    (hown : s.vm.findClass own = some m.cls) (hlink : (Cond.methodLink own index y).before args s = true) (hinst : (Cond.instanceMethod y).before args s = true) (hsel : (Cond.selects C y y).before args s = true)
    (hcode : (Cond.codeWith y bytes maxL ret hh).before args s = true) (hy : y.cls ≠ "java/lang/invoke/MethodHandle" ∧ y.cls ≠ "java/lang/invoke/VarHandle")
    {W9 : Nat} {Pre : Pt → Array Value → Prop} {Post : Pt → Array Value → Option Value → Pt → Prop} (hK : Back l R p e below s args y 3 W9 Pre Post)
    {b : Addr} {cellB : Cell} (hcell : T.heap[b]? = some cellB) (hobj : cellB.vm.isStatics = false) (hcls : s.vm.findClass C = some cellB.cls)
    {g : JFrame} (hg : g.method = m) (hsize : g.locals.size = c.maxLocals) {argsL rest : List Value} (hlen : ∀ sig, parseMethodDescriptor y.desc = some sig → argsL.length = sig.parameters.length)
    (hstack : g.stack = argsL.reverse ++ .ref b :: rest) (hW : 2 * g.monitorRoom + (rest.map fun v => v.category).sum ≤ W9) (hdg : decode c.code g.pc = .ok (.invokevirtual index, 3))
    (hpre : ∀ vm₁, s.WarmedH vm₁ → Pre ⟨T.setVm vm₁, locs, cells, slots⟩ (Value.ref b :: argsL).toArray) :
    ∃ (v : Option Value) (vm₁ : Vm) (B : Pt), s.WarmedH vm₁ ∧ Stand p l e R s m args below meth c B.U B.locs B.cells B.slots ∧ Post ⟨T.setVm vm₁, locs, cells, slots⟩ (Value.ref b :: argsL).toArray v B ∧
      ∀ target, Steps p.tables e below (B.U.setTop { g with pc := g.pc + 3, stack := v.toList ++ rest }) target → Steps p.tables e below (T.setTop g) target := by
  obtain ⟨mk, methM, hnamed, hmethM, hstM, habM⟩ := Cond.instanceMethod_spec hinst
  obtain ⟨m8, methM', cM, hn8, hmethM', -, -, -, -, -, -, hsigM⟩ := Cond.codeWith_spec hcode
  cases Option.some.inj (hn8.symm.trans hnamed)
  cases hmethM.symm.trans hmethM'
  obtain ⟨c2, r2, m2, q1, q2, q3, q4, kP, hkP, hkPi⟩ := Cond.selects_spec hsel
  cases hcls.symm.trans q1
  cases (State.methodFound?_of_named hnamed hy).symm.trans q2
  cases hnamed.symm.trans q3
  have hselP : selectMethod e.platform s.vm cellB.cls mk = .method mk := by rw [Launch.admits_selectMethod X.admits]; exact q4
  obtain ⟨vm₁, X₁, hstep₁⟩ := X.invokevirtual hexec hown hlink hnamed hmethM hstM hkP hkPi hy (a := b) (cell := cellB) hcell
    (fun z h => by rw [h] at hobj; cases hobj) hselP hmethM habM hkP hkPi (g := g) hg (argsL := argsL) (rest := rest) (hlen _ hsigM) hstack hdg
  obtain ⟨v, B, X', hpost, hsteps⟩ := hK m meth c ⟨T.setVm vm₁, locs, cells, slots⟩ { g with stack := rest } (.invokevirtual index) mk (Value.ref b :: argsL).toArray X₁ hg hsize hdg hW (X₁.named hnamed) (hpre vm₁ X₁.warmed)
  exact ⟨v, vm₁, B, X₁.warmed, X', hpost, fun target h => hstep₁ _ fun acts => by rw [doInvoke_state]; exact hsteps.trans h⟩
abbrev vx_CVW (R : Room) (s : State) (args : Array Value) (own C : String) (index : Nat) (y : MethodName) (bytes : ByteArray) (maxL : Nat) (ret : Option FieldType) (hh : List (Nat × Nat × Nat × Nat)) (ws : List Cond) (rm : Room) (mc ms n : Nat) : Prop :=
  (rm.cells = mc ∧ rm.slots = ms ∧ rm.frames + 1 ≤ R.frames ∧ 8 + (maxL + 11) + rm.locals ≤ R.locals ∧ (∀ w ∈ ws, ∀ (a' : Array Value) (U : State), s.WarmedH U.vm → w.before a' U = true) ∧ Cond.codeWith y bytes maxL ret hh ∈ ws) ∧
  (Cond.codeWith y bytes maxL ret hh).before args s = true ∧ (Cond.initialized y.cls).before args s = true ∧ (y.cls ≠ "java/lang/invoke/MethodHandle" ∧ y.cls ≠ "java/lang/invoke/VarHandle") ∧
  (∀ sig, parseMethodDescriptor y.desc = some sig → n = sig.parameters.length) ∧ (Cond.methodLink own index y).before args s = true ∧ (Cond.instanceMethod y).before args s = true ∧ (Cond.selects C y y).before args s = true
theorem vx_cwVW {own C : String} {index maxL mc ms : Nat} {y : MethodName} {bytes : ByteArray} {ret : Option FieldType} {hh : List (Nat × Nat × Nat × Nat)} {Ts ws ws' : List Cond} {rm : Room} (n : Nat) (ht : ∀ w ∈ Ts, w.before args s = true) (hT : GoodIn Ts (wsV own index C y ws)) (hw : ws = Cond.codeWith y bytes maxL ret hh :: ws') (hrc : rm.cells = mc) (hrs : rm.slots = ms)
    (hd : y.cls = C ∧ y.cls ≠ "java/lang/invoke/MethodHandle" ∧ y.cls ≠ "java/lang/invoke/VarHandle" ∧ (parseMethodDescriptor y.desc).map (fun d => d.parameters.length) = some n) (hR : rm.frames + 1 ≤ R.frames ∧ 8 + (maxL + 11) + rm.locals ≤ R.locals) :
    vx_CVW R s args own C index y bytes maxL ret hh ws rm mc ms n := by
  obtain ⟨hC, hd⟩ := hd
  subst hC
  have ok : ∀ w ∈ wsV own index y.cls y ws, w.before args s = true := fun w h => ht w (hT w h).1
  have hG : GoodIn Ts ws := fun w h => hT w (by unfold wsV; exact List.mem_append_right _ h)
  have hc : Cond.codeWith y bytes maxL ret hh ∈ ws := by rw [hw]; exact List.mem_cons_self
  refine ⟨⟨hrc, hrs, hR.1, hR.2, pay_in ht hG, hc⟩, ht _ (hG _ hc).1, ok _ (by simp [wsV]), ⟨hd.1, hd.2.1⟩, fun sig h => ?_, ok _ (by simp [wsV]), ok _ (by simp [wsV]), ok _ (by simp [wsV])⟩
  have h2 := hd.2.2
  rw [h] at h2
  exact (Option.some.inj h2).symm
theorem vx_runVW {y : MethodName} {bytes cc : ByteArray} {maxL nL mc ms n index : Nat} {ret : Option FieldType} {hh : List (Nat × Nat × Nat × Nat)} {ws : List Cond} {rm : Room} {Pc : Array Value → State → Prop} {Qc : Array Value → State → Outcome → State → Prop} {free : Addr → Prop} {Ts : List Cond} {own C : String} {b : Addr} {As rest : List Value} {g : JFrame}
    (S : CallFix p m c cc nL s args Ts own) (hM : Met l y ws rm Pc Qc mc ms free) (cw : vx_CVW R s args own C index y bytes maxL ret hh ws rm mc ms n) (hp : PreV s H C b Pc As)
    (hg : g.method = m) (hn : As.length = n) (hsize : g.locals.size = nL) (hstack : g.stack = As.reverse ++ .ref b :: rest) (hW : 2 * g.monitorRoom + (rest.map fun v => v.category).sum ≤ 8) (hdg : decode cc g.pc = .ok (.invokevirtual index, 3)) (hf : cells + mc ≤ R.cells ∧ slots + ms ≤ R.slots) :
    va_Run p l e R s m args below meth c H locs cells slots mc ms g rest (Qc (Value.ref b :: As).toArray) free := by
  obtain ⟨⟨hrc, hrs, hfr, hlo, hws, hcw⟩, hcode, hini, hy, hlen, hl, hin, hse⟩ := cw
  have hK : Back l R p e below s args y 3 8 (PreOf R mc ms Pc) (PostOf Qc mc ms free) := va_backW (hh := hh) (bytes := bytes) (maxL := maxL) (ret := ret) hM hp.1 hrc hrs hfr hlo hws hcw (fun a' U hW => word_at hW (Or.inl (by first | rfl | simp [Cond.onTables, Cond.keeps, Cond.steady])) hini)
  obtain ⟨hx, hb, hml, ho, -⟩ := S
  obtain ⟨-, ⟨cellB, hcB, hoB, hclB⟩, hPc⟩ := hp
  intro T hT X
  obtain ⟨v, vm₁, ⟨U', l2, c2, s2⟩, hW₁, X', ⟨g', mk, t, L, e1, e2, hq, h1, hL, h2, h3⟩, st⟩ := vx_callVW X hx (C := C) (hh := hh) (bytes := bytes) (maxL := maxL) (ret := ret) ho hl hin hse hcode hy hK (by rw [hT]; exact hcB) hoB hclB hg (hsize.trans hml.symm) (argsL := As) (rest := rest) (fun sig h => hn.trans (hlen sig h)) hstack hW (by rw [hb]; exact hdg)
    (fun vm₁ hW₁ => ⟨hf.1, hf.2, hPc (T.setVm vm₁) hT hW₁⟩)
  dsimp only [Pt.U, Pt.locs, Pt.cells, Pt.slots] at X' e1 e2 h1 h2 h3 st
  subst h1; subst h2; subst h3
  exact ⟨v, (T.setVm vm₁).calling g' mk (Value.ref b :: As).toArray, t, U', L, hT, X', hL, e1, e2, hq, st⟩
section
variable {y : MethodName} {bytes cc : ByteArray} {maxL nL mc ms n index : Nat} {ret : Option FieldType} {ws : List Cond} {rm : Room} {Pc : Array Value → State → Prop} {Qc : Array Value → State → Outcome → State → Prop} {XC : String → State → State → Prop} {free : Addr → Prop} {Ts : List Cond} {own C : String} {b : Addr} {As rest : List Value} {g : JFrame}
theorem vx_runVX {hh : List (Nat × Nat × Nat × Nat)} (S : CallFix p m c cc nL s args Ts own) (hM : vx_Met l y ws rm Pc Qc XC mc ms free) (cw : vx_CVW R s args own C index y bytes maxL ret hh ws rm mc ms n) (hp : PreV s H C b Pc As)
    (hg : g.method = m) (hn : As.length = n) (hsize : g.locals.size = nL) (hstack : g.stack = As.reverse ++ .ref b :: rest) (hW : 2 * g.monitorRoom + (rest.map fun v => v.category).sum ≤ 8) (hdg : decode cc g.pc = .ok (.invokevirtual index, 3)) (hf : cells + mc ≤ R.cells ∧ slots + ms ≤ R.slots) :
    vx_Run p l e R s m args below meth c H locs cells slots mc ms g rest (Qc (Value.ref b :: As).toArray) XC free := by
  obtain ⟨⟨hrc, hrs, hfr, hlo, hws, hcw⟩, hcode, hini, hy, hlen, hl, hin, hse⟩ := cw
  have hK : vx_Back l R p e below s args y 3 8 (PreOf R mc ms Pc) (PostOf Qc mc ms free) (vx_Post XC mc ms free) := vx_backW (hh := hh) (bytes := bytes) (maxL := maxL) (ret := ret) hM hp.1 hrc hrs hfr hlo hws hcw (fun a' U hW => word_at hW (Or.inl (by first | rfl | simp [Cond.onTables, Cond.keeps, Cond.steady])) hini)
  obtain ⟨hx, hb, hml, ho, -⟩ := S
  obtain ⟨-, ⟨cellB, hcB, hoB, hclB⟩, hPc⟩ := hp
  intro T hT X
  rcases vx_callVX X hx (C := C) (hh := hh) (bytes := bytes) (maxL := maxL) (ret := ret) ho hl hin hse hcode hy hK (by rw [hT]; exact hcB) hoB hclB hg (hsize.trans hml.symm) (argsL := As) (rest := rest) (fun sig h => hn.trans (hlen sig h)) hstack hW (by rw [hb]; exact hdg)
    (fun vm₁ hW₁ => ⟨hf.1, hf.2, hPc (T.setVm vm₁) hT hW₁⟩) with ⟨v, vm₁, ⟨U', l2, c2, s2⟩, hW₁, X', ⟨g', mk, t, L, e1, e2, hq, h1, hL, h2, h3⟩, st⟩ | ⟨q, vm₁, ⟨U', l2, c2, s2⟩, hW₁, X', ⟨g', mk, t, L, E, ce, e1, e2, hq, hce, hcv, hcl, h1, hL, h2, h3⟩, st⟩
  · dsimp only [Pt.U, Pt.locs, Pt.cells, Pt.slots] at X' e1 e2 h1 h2 h3 st
    subst h1; subst h2; subst h3
    exact Or.inl ⟨v, (T.setVm vm₁).calling g' mk (Value.ref b :: As).toArray, t, U', L, hT, X', hL, e1, e2, hq, st⟩
  · dsimp only [Pt.U, Pt.locs, Pt.cells, Pt.slots] at X' e1 e2 h1 h2 h3 st hcl
    subst h1; subst h2; subst h3
    exact Or.inr ⟨q, (T.setVm vm₁).calling g' mk (Value.ref b :: As).toArray, t, U', L, E, ce, hT, X', hL, e1, e2, hq, hce, hcv, vx_cls hW₁ hcl, st⟩
theorem vx_runSX {hh : List (Nat × Nat × Nat × Nat)} (S : CallFix p m c cc nL s args Ts own) (hM : vx_Met l y ws rm Pc Qc XC mc ms free) (cw : vx_CSW R s args own index y bytes maxL ret hh ws rm mc ms n) (hp : PreS s H Pc As)
    (hg : g.method = m) (hn : As.length = n) (hsize : g.locals.size = nL) (hstack : g.stack = As.reverse ++ rest) (hW : 2 * g.monitorRoom + (rest.map fun v => v.category).sum ≤ 8) (hdg : decode cc g.pc = .ok (.invokestatic index, 3)) (hf : cells + mc ≤ R.cells ∧ slots + ms ≤ R.slots) :
    vx_Run p l e R s m args below meth c H locs cells slots mc ms g rest (Qc As.toArray) XC free := by
  obtain ⟨⟨hrc, hrs, hfr, hlo, hws, hcw⟩, hcode, hini, hy, hlen, hl, hstt⟩ := cw
  have hK : vx_Back l R p e below s args y 3 8 (PreOf R mc ms Pc) (PostOf Qc mc ms free) (vx_Post XC mc ms free) := vx_backW (hh := hh) (bytes := bytes) (maxL := maxL) (ret := ret) hM hp.1 hrc hrs hfr hlo hws hcw (fun a' U hW => word_at hW (Or.inl (by first | rfl | simp [Cond.onTables, Cond.keeps, Cond.steady])) hini)
  obtain ⟨hx, hb, hml, ho, -⟩ := S
  intro T hT X
  rcases vx_callSX X hx (hh := hh) (bytes := bytes) (maxL := maxL) (ret := ret) ho hl hstt hini hcode hy hK hg (hsize.trans hml.symm) (argsL := As) (rest := rest) (fun sig h => hn.trans (hlen sig h)) hstack hW (by rw [hb]; exact hdg)
    (fun vm₁ hW₁ => ⟨hf.1, hf.2, hp.2 (T.setVm vm₁) hT hW₁⟩) with ⟨v, vm₁, ⟨U', l2, c2, s2⟩, hW₁, X', ⟨g', mk, t, L, e1, e2, hq, h1, hL, h2, h3⟩, st⟩ | ⟨q, vm₁, ⟨U', l2, c2, s2⟩, hW₁, X', ⟨g', mk, t, L, E, ce, e1, e2, hq, hce, hcv, hcl, h1, hL, h2, h3⟩, st⟩
  · dsimp only [Pt.U, Pt.locs, Pt.cells, Pt.slots] at X' e1 e2 h1 h2 h3 st
    subst h1; subst h2; subst h3
    exact Or.inl ⟨v, (T.setVm vm₁).calling g' mk As.toArray, t, U', L, hT, X', hL, e1, e2, hq, st⟩
  · dsimp only [Pt.U, Pt.locs, Pt.cells, Pt.slots] at X' e1 e2 h1 h2 h3 st hcl
    subst h1; subst h2; subst h3
    exact Or.inr ⟨q, (T.setVm vm₁).calling g' mk As.toArray, t, U', L, E, ce, hT, X', hL, e1, e2, hq, hce, hcv, vx_cls hW₁ hcl, st⟩
end
end VXH
theorem vx_ofWH {l : Launch} {y : MethodName} {ws ws' : List Cond} {rm : Room} {Pc : Array Value → State → Prop} {Qc : Array Value → State → Outcome → State → Prop} {XC : String → State → State → Prop} {mc ms : Nat} {free : Addr → Prop} {cc : ByteArray} {maxL : Nat} {ret : Option FieldType} {hh : List (Nat × Nat × Nat × Nat)}
    (hy : plainName y.cls = true) (hw : ws = Cond.codeWith y cc maxL ret hh :: ws')
    (body : ∀ p e s m args below meth c s₁, BodyLoose p l y (headSpec ws rm) cc maxL ret e s m args below meth c s₁ → c.maxLocals = maxL → Pc args s →
      W p l e (headSpec ws rm).room s m args below meth c s.heap [] 0 0 (vx_MQ below Qc XC args s mc ms free) (entryFrame m args maxL)) : vx_Met l y ws rm Pc Qc XC mc ms free := by
  refine MetFree.of_bodyS (code := cc) (maxLocals := maxL) (ret := ret) hy ?_ ?_
  · intro args s m h hn
    obtain ⟨m9, meth, c, hn9, h1, h2, h3, h4, -, h5, h6, -⟩ := Cond.codeWith_spec (atoms_spec (ws := ws) h _ (by rw [hw]; exact List.mem_cons_self))
    cases hn.symm.trans hn9
    exact ⟨meth, c, h1, h2, h3, h4, h5, h6⟩
  · intro p e s m args below meth c s₁ B hml hP _
    have hh0 : s₁.heap = s.heap := by rw [B.state]; rfl
    obtain ⟨t, a1, o, b1, b2, b3⟩ := body p e s m args below meth c s₁ B hml hP s₁ hh0 (Stand.of_body B)
    exact ⟨t, o, a1, b1, b2, b3⟩
/-! ===== END ===== -/
end
section
/-! ===== BEGIN printed: names, fields, word lists, decode rows ===== -/
def RX0 : String := "FleetTerms$Fleet"
def TX0 : u_T := fun k => match k with
  | 0 => ("FleetTerms$Fleet", "boats", "I", false)
  | 1 => ("FleetTerms$Fleet", "hour", "I", false)
  | 2 => ("FleetTerms$Fleet", "stood", "I", false)
  | 3 => ("FleetTerms$Fleet", "begun", "I", false)
  | 4 => ("FleetTerms$Fleet", "lost", "I", false)
  | 5 => ("FleetTerms$Fleet", "patience", "[I", true)
  | 6 => ("FleetTerms$Fleet", "clock", "[I", true)
  | 7 => ("FleetTerms$Fleet", "term", "[I", true)
  | 8 => ("FleetTerms$Fleet", "vote", "[I", true)
  | 9 => ("FleetTerms$Fleet", "role", "[I", true)
  | 10 => ("FleetTerms$Fleet", "port", "[I", true)
  | 11 => ("FleetTerms$Fleet", "up", "[Z", true)
  | _ => ("FleetTerms$Fleet", "logs", "LFleetTerms$Logs;", true)
def tyX0 : Nat → FieldType := fun k => match k with
  | 0 => .int
  | 1 => .int
  | 2 => .int
  | 3 => .int
  | 4 => .int
  | 5 => .array .int
  | 6 => .array .int
  | 7 => .array .int
  | 8 => .array .int
  | 9 => .array .int
  | 10 => .array .int
  | 11 => .array .boolean
  | _ => .object "FleetTerms$Logs"
abbrev wsX00 : List Cond := u_ws RX0 TX0 13
theorem nmX0 : ∀ a, a < 13 → ∀ b, b < 13 → a ≠ b → (TX0 a).2.1 ≠ (TX0 b).2.1 := by decide +kernel
theorem tyX0_ok : ∀ k, k < 13 → parseFieldDescriptor (TX0 k).2.2.1 = some (tyX0 k) := by decide +kernel
abbrev cX0_init : ByteArray := prog_2_method_1_code
def yX0_init : MethodName := ⟨RX0, "<init>", "()V"⟩
abbrev cX0_begin : ByteArray := prog_2_method_2_code
def yX0_begin : MethodName := ⟨RX0, "begin", "(I)V"⟩
abbrev cX0_copyFrom : ByteArray := prog_2_method_3_code
def yX0_copyFrom : MethodName := ⟨RX0, "copyFrom", "(LFleetTerms$Fleet;)V"⟩
abbrev cX0_raise : ByteArray := prog_2_method_4_code
def yX0_raise : MethodName := ⟨RX0, "raise", "(I)V"⟩
abbrev cX0_passHours : ByteArray := prog_2_method_5_code
def yX0_passHours : MethodName := ⟨RX0, "passHours", "(I)V"⟩
abbrev cX0_runClocks : ByteArray := prog_2_method_6_code
def yX0_runClocks : MethodName := ⟨RX0, "runClocks", "()V"⟩
abbrev cX0_tellAll : ByteArray := prog_2_method_7_code
def yX0_tellAll : MethodName := ⟨RX0, "tellAll", "()V"⟩
abbrev cX0_commitAll : ByteArray := prog_2_method_8_code
def yX0_commitAll : MethodName := ⟨RX0, "commitAll", "()V"⟩
abbrev cX0_stand : ByteArray := prog_2_method_9_code
def yX0_stand : MethodName := ⟨RX0, "stand", "(I)V"⟩
abbrev cX0_givesVote : ByteArray := prog_2_method_10_code
def yX0_givesVote : MethodName := ⟨RX0, "givesVote", "(II)Z"⟩
abbrev cX0_tellOthers : ByteArray := prog_2_method_11_code
def yX0_tellOthers : MethodName := ⟨RX0, "tellOthers", "(I)V"⟩
abbrev cX0_tell : ByteArray := prog_2_method_12_code
def yX0_tell : MethodName := ⟨RX0, "tell", "(II)V"⟩
abbrev cX0_meetTerms : ByteArray := prog_2_method_13_code
def yX0_meetTerms : MethodName := ⟨RX0, "meetTerms", "(II)Z"⟩
abbrev cX0_takeTerm : ByteArray := prog_2_method_14_code
def yX0_takeTerm : MethodName := ⟨RX0, "takeTerm", "(II)V"⟩
abbrev cX0_commit : ByteArray := prog_2_method_15_code
def yX0_commit : MethodName := ⟨RX0, "commit", "(I)V"⟩
abbrev cX0_hearersThatAgree : ByteArray := prog_2_method_16_code
def yX0_hearersThatAgree : MethodName := ⟨RX0, "hearersThatAgree", "(II)I"⟩
abbrev cX0_leadsNow : ByteArray := prog_2_method_17_code
def yX0_leadsNow : MethodName := ⟨RX0, "leadsNow", "(I)Z"⟩
abbrev cX0_hear : ByteArray := prog_2_method_18_code
def yX0_hear : MethodName := ⟨RX0, "hear", "(II)Z"⟩
abbrev cX0_isMoreThanHalf : ByteArray := prog_2_method_19_code
def yX0_isMoreThanHalf : MethodName := ⟨RX0, "isMoreThanHalf", "(I)Z"⟩
abbrev cX0_isLed : ByteArray := prog_2_method_20_code
def yX0_isLed : MethodName := ⟨RX0, "isLed", "()Z"⟩
abbrev cX0_upIn : ByteArray := prog_2_method_21_code
def yX0_upIn : MethodName := ⟨RX0, "upIn", "(I)I"⟩
abbrev cX0_newestIn : ByteArray := prog_2_method_22_code
def yX0_newestIn : MethodName := ⟨RX0, "newestIn", "(I)I"⟩
abbrev cX0_ofBoat : ByteArray := prog_2_method_23_code
def yX0_ofBoat : MethodName := ⟨RX0, "ofBoat", "(II)I"⟩
abbrev cX0_ofEntry : ByteArray := prog_2_method_24_code
def yX0_ofEntry : MethodName := ⟨RX0, "ofEntry", "(III)I"⟩
abbrev cX0_boatsThatAgree : ByteArray := prog_2_method_25_code
def yX0_boatsThatAgree : MethodName := ⟨RX0, "boatsThatAgree", "(II)I"⟩
abbrev cX0_ofFleet : ByteArray := prog_2_method_26_code
def yX0_ofFleet : MethodName := ⟨RX0, "ofFleet", "(I)I"⟩
abbrev cX0_boatsUp : ByteArray := prog_2_method_27_code
def yX0_boatsUp : MethodName := ⟨RX0, "boatsUp", "()I"⟩
abbrev cX0_boatsLeading : ByteArray := prog_2_method_28_code
def yX0_boatsLeading : MethodName := ⟨RX0, "boatsLeading", "()I"⟩
abbrev cX0_greatestTerm : ByteArray := prog_2_method_29_code
def yX0_greatestTerm : MethodName := ⟨RX0, "greatestTerm", "()I"⟩
abbrev cX0_mostKnown : ByteArray := prog_2_method_30_code
def yX0_mostKnown : MethodName := ⟨RX0, "mostKnown", "()I"⟩
abbrev cX0_fewestKnown : ByteArray := prog_2_method_31_code
def yX0_fewestKnown : MethodName := ⟨RX0, "fewestKnown", "()I"⟩
def RX1 : String := "FleetTerms$Logs"
def TX1 : u_T := fun k => match k with
  | 0 => ("FleetTerms$Logs", "length", "[I", true)
  | 1 => ("FleetTerms$Logs", "known", "[I", true)
  | 2 => ("FleetTerms$Logs", "terms", "[I", true)
  | _ => ("FleetTerms$Logs", "fishes", "[I", true)
def tyX1 : Nat → FieldType := fun k => match k with
  | 0 => .array .int
  | 1 => .array .int
  | 2 => .array .int
  | _ => .array .int
abbrev wsX10 : List Cond := u_ws RX1 TX1 4
theorem nmX1 : ∀ a, a < 4 → ∀ b, b < 4 → a ≠ b → (TX1 a).2.1 ≠ (TX1 b).2.1 := by decide +kernel
theorem tyX1_ok : ∀ k, k < 4 → parseFieldDescriptor (TX1 k).2.2.1 = some (tyX1 k) := by decide +kernel
abbrev cX1_init : ByteArray := prog_3_method_1_code
def yX1_init : MethodName := ⟨RX1, "<init>", "()V"⟩
abbrev cX1_clear : ByteArray := prog_3_method_2_code
def yX1_clear : MethodName := ⟨RX1, "clear", "(I)V"⟩
abbrev cX1_copyFrom : ByteArray := prog_3_method_3_code
def yX1_copyFrom : MethodName := ⟨RX1, "copyFrom", "(LFleetTerms$Logs;)V"⟩
abbrev cX1_termAt : ByteArray := prog_3_method_4_code
def yX1_termAt : MethodName := ⟨RX1, "termAt", "(II)I"⟩
abbrev cX1_fishAt : ByteArray := prog_3_method_5_code
def yX1_fishAt : MethodName := ⟨RX1, "fishAt", "(II)I"⟩
abbrev cX1_lastTerm : ByteArray := prog_3_method_6_code
def yX1_lastTerm : MethodName := ⟨RX1, "lastTerm", "(I)I"⟩
abbrev cX1_append : ByteArray := prog_3_method_7_code
def yX1_append : MethodName := ⟨RX1, "append", "(III)V"⟩
abbrev cX1_loseLast : ByteArray := prog_3_method_8_code
def yX1_loseLast : MethodName := ⟨RX1, "loseLast", "(I)V"⟩
abbrev cX1_agreement : ByteArray := prog_3_method_9_code
def yX1_agreement : MethodName := ⟨RX1, "agreement", "(II)I"⟩
abbrev cX1_asNew : ByteArray := prog_3_method_10_code
def yX1_asNew : MethodName := ⟨RX1, "asNew", "(II)Z"⟩
abbrev cX1_mend : ByteArray := prog_3_method_11_code
def yX1_mend : MethodName := ⟨RX1, "mend", "(II)Z"⟩
abbrev cX1_learnCommitted : ByteArray := prog_3_method_12_code
def yX1_learnCommitted : MethodName := ⟨RX1, "learnCommitted", "(II)V"⟩
def RX2 : String := "FleetTerms"
def TX2 : u_T := fun k => match k with
  | 0 => ("FleetTerms", "now", "LFleetTerms$Fleet;", true)
  | _ => ("FleetTerms", "trial", "LFleetTerms$Fleet;", true)
def tyX2 : Nat → FieldType := fun k => match k with
  | 0 => .object "FleetTerms$Fleet"
  | _ => .object "FleetTerms$Fleet"
abbrev wsX20 : List Cond := u_ws RX2 TX2 2
theorem nmX2 : ∀ a, a < 2 → ∀ b, b < 2 → a ≠ b → (TX2 a).2.1 ≠ (TX2 b).2.1 := by decide +kernel
theorem tyX2_ok : ∀ k, k < 2 → parseFieldDescriptor (TX2 k).2.2.1 = some (tyX2 k) := by decide +kernel
abbrev cX2_init : ByteArray := prog_1_method_1_code
def yX2_init : MethodName := ⟨RX2, "<init>", "()V"⟩
abbrev cX2_fleet : ByteArray := prog_1_method_2_code
def yX2_fleet : MethodName := ⟨RX2, "fleet", "(I)I"⟩
abbrev cX2_setPatience : ByteArray := prog_1_method_3_code
def yX2_setPatience : MethodName := ⟨RX2, "setPatience", "(II)I"⟩
abbrev cX2_go : ByteArray := prog_1_method_4_code
def yX2_go : MethodName := ⟨RX2, "go", "(II)I"⟩
abbrev cX2_sink : ByteArray := prog_1_method_5_code
def yX2_sink : MethodName := ⟨RX2, "sink", "(I)Z"⟩
abbrev cX2_write : ByteArray := prog_1_method_6_code
def yX2_write : MethodName := ⟨RX2, "write", "(II)I"⟩
abbrev cX2_pass : ByteArray := prog_1_method_7_code
def yX2_pass : MethodName := ⟨RX2, "pass", "(I)I"⟩
abbrev cX2_told : ByteArray := prog_1_method_8_code
def yX2_told : MethodName := ⟨RX2, "told", "(II)I"⟩
abbrev cX2_entry : ByteArray := prog_1_method_9_code
def yX2_entry : MethodName := ⟨RX2, "entry", "(III)I"⟩
abbrev cX2_agree : ByteArray := prog_1_method_10_code
def yX2_agree : MethodName := ⟨RX2, "agree", "(II)I"⟩
abbrev cX2_newer : ByteArray := prog_1_method_11_code
def yX2_newer : MethodName := ⟨RX2, "newer", "(II)Z"⟩
abbrev cX2_leader : ByteArray := prog_1_method_12_code
def yX2_leader : MethodName := ⟨RX2, "leader", "()I"⟩
abbrev cX2_count : ByteArray := prog_1_method_13_code
def yX2_count : MethodName := ⟨RX2, "count", "(I)I"⟩
abbrev cX2_harbour : ByteArray := prog_1_method_14_code
def yX2_harbour : MethodName := ⟨RX2, "harbour", "(II)I"⟩
abbrev cX2_until : ByteArray := prog_1_method_15_code
def yX2_until : MethodName := ⟨RX2, "until", "()I"⟩
abbrev cX2_foresee : ByteArray := prog_1_method_16_code
def yX2_foresee : MethodName := ⟨RX2, "foresee", "(II)I"⟩
abbrev cX2_advise : ByteArray := prog_1_method_17_code
def yX2_advise : MethodName := ⟨RX2, "advise", "(II)I"⟩
abbrev cX2_mean : ByteArray := prog_1_method_18_code
def yX2_mean : MethodName := ⟨RX2, "mean", "()D"⟩
abbrev cX2_digest : ByteArray := prog_1_method_19_code
def yX2_digest : MethodName := ⟨RX2, "digest", "()J"⟩
abbrev cX2_digestOfBoat : ByteArray := prog_1_method_20_code
def yX2_digestOfBoat : MethodName := ⟨RX2, "digestOfBoat", "(JI)J"⟩
abbrev cX2_needBoat : ByteArray := prog_1_method_21_code
def yX2_needBoat : MethodName := ⟨RX2, "needBoat", "(I)V"⟩
abbrev cX2_needBelow : ByteArray := prog_1_method_22_code
def yX2_needBelow : MethodName := ⟨RX2, "needBelow", "(II)V"⟩
abbrev cX2_needHours : ByteArray := prog_1_method_23_code
def yX2_needHours : MethodName := ⟨RX2, "needHours", "(II)V"⟩
def RX3 : String := "FleetTermsModel$State"
def TX3 : u_T := fun k => match k with
  | 0 => ("FleetTermsModel$State", "boats", "I", false)
  | 1 => ("FleetTermsModel$State", "hour", "I", false)
  | 2 => ("FleetTermsModel$State", "stood", "I", false)
  | 3 => ("FleetTermsModel$State", "began", "I", false)
  | 4 => ("FleetTermsModel$State", "lost", "I", false)
  | 5 => ("FleetTermsModel$State", "patience", "[I", true)
  | 6 => ("FleetTermsModel$State", "clock", "[I", true)
  | 7 => ("FleetTermsModel$State", "term", "[I", true)
  | 8 => ("FleetTermsModel$State", "vote", "[I", true)
  | 9 => ("FleetTermsModel$State", "role", "[I", true)
  | 10 => ("FleetTermsModel$State", "harbour", "[I", true)
  | 11 => ("FleetTermsModel$State", "up", "[I", true)
  | 12 => ("FleetTermsModel$State", "length", "[I", true)
  | 13 => ("FleetTermsModel$State", "sure", "[I", true)
  | 14 => ("FleetTermsModel$State", "terms", "[I", true)
  | _ => ("FleetTermsModel$State", "fish", "[I", true)
def tyX3 : Nat → FieldType := fun k => match k with
  | 0 => .int
  | 1 => .int
  | 2 => .int
  | 3 => .int
  | 4 => .int
  | 5 => .array .int
  | 6 => .array .int
  | 7 => .array .int
  | 8 => .array .int
  | 9 => .array .int
  | 10 => .array .int
  | 11 => .array .int
  | 12 => .array .int
  | 13 => .array .int
  | 14 => .array .int
  | _ => .array .int
abbrev wsX30 : List Cond := u_ws RX3 TX3 16
theorem nmX3 : ∀ a, a < 16 → ∀ b, b < 16 → a ≠ b → (TX3 a).2.1 ≠ (TX3 b).2.1 := by decide +kernel
theorem tyX3_ok : ∀ k, k < 16 → parseFieldDescriptor (TX3 k).2.2.1 = some (tyX3 k) := by decide +kernel
abbrev cX3_init : ByteArray := prog_6_method_1_code
def yX3_init : MethodName := ⟨RX3, "<init>", "()V"⟩
abbrev cX3_begin : ByteArray := prog_6_method_2_code
def yX3_begin : MethodName := ⟨RX3, "begin", "(I)V"⟩
abbrev cX3_copy : ByteArray := prog_6_method_3_code
def yX3_copy : MethodName := ⟨RX3, "copy", "([I[I)V"⟩
abbrev cX3_become : ByteArray := prog_6_method_4_code
def yX3_become : MethodName := ⟨RX3, "become", "(LFleetTermsModel$State;)V"⟩
abbrev cX3_isMore : ByteArray := prog_6_method_5_code
def yX3_isMore : MethodName := ⟨RX3, "isMore", "(I)Z"⟩
abbrev cX3_isUp : ByteArray := prog_6_method_6_code
def yX3_isUp : MethodName := ⟨RX3, "isUp", "(II)Z"⟩
abbrev cX3_hear : ByteArray := prog_6_method_7_code
def yX3_hear : MethodName := ⟨RX3, "hear", "(II)Z"⟩
abbrev cX3_agree : ByteArray := prog_6_method_8_code
def yX3_agree : MethodName := ⟨RX3, "agree", "(II)I"⟩
abbrev cX3_lastTerm : ByteArray := prog_6_method_9_code
def yX3_lastTerm : MethodName := ⟨RX3, "lastTerm", "(I)I"⟩
abbrev cX3_isAsNew : ByteArray := prog_6_method_10_code
def yX3_isAsNew : MethodName := ⟨RX3, "isAsNew", "(II)Z"⟩
abbrev cX3_add : ByteArray := prog_6_method_11_code
def yX3_add : MethodName := ⟨RX3, "add", "(III)V"⟩
abbrev cX3_hearOf : ByteArray := prog_6_method_12_code
def yX3_hearOf : MethodName := ⟨RX3, "hearOf", "(II)V"⟩
abbrev cX3_stand : ByteArray := prog_6_method_13_code
def yX3_stand : MethodName := ⟨RX3, "stand", "(I)V"⟩
abbrev cX3_takeFrom : ByteArray := prog_6_method_14_code
def yX3_takeFrom : MethodName := ⟨RX3, "takeFrom", "(II)V"⟩
abbrev cX3_tell : ByteArray := prog_6_method_15_code
def yX3_tell : MethodName := ⟨RX3, "tell", "(I)V"⟩
abbrev cX3_commit : ByteArray := prog_6_method_16_code
def yX3_commit : MethodName := ⟨RX3, "commit", "(I)V"⟩
abbrev cX3_pass : ByteArray := prog_6_method_17_code
def yX3_pass : MethodName := ⟨RX3, "pass", "()V"⟩
abbrev cX3_passOn : ByteArray := prog_6_method_18_code
def yX3_passOn : MethodName := ⟨RX3, "passOn", "(I)V"⟩
abbrev cX3_counted : ByteArray := prog_6_method_19_code
def yX3_counted : MethodName := ⟨RX3, "counted", "(I)I"⟩
abbrev cX3_isLed : ByteArray := prog_6_method_20_code
def yX3_isLed : MethodName := ⟨RX3, "isLed", "()Z"⟩
def RX4 : String := "FleetTermsModel"
def TX4 : u_T := fun k => match k with
  | 0 => ("FleetTermsModel", "thrown", "I", false)
  | 1 => ("FleetTermsModel", "s", "LFleetTermsModel$State;", true)
  | _ => ("FleetTermsModel", "ahead", "LFleetTermsModel$State;", true)
def tyX4 : Nat → FieldType := fun k => match k with
  | 0 => .int
  | 1 => .object "FleetTermsModel$State"
  | _ => .object "FleetTermsModel$State"
abbrev wsX40 : List Cond := u_ws RX4 TX4 3
theorem nmX4 : ∀ a, a < 3 → ∀ b, b < 3 → a ≠ b → (TX4 a).2.1 ≠ (TX4 b).2.1 := by decide +kernel
theorem tyX4_ok : ∀ k, k < 3 → parseFieldDescriptor (TX4 k).2.2.1 = some (tyX4 k) := by decide +kernel
abbrev cX4_init : ByteArray := prog_5_method_1_code
def yX4_init : MethodName := ⟨RX4, "<init>", "()V"⟩
abbrev cX4_thrown : ByteArray := prog_5_method_2_code
def yX4_thrown : MethodName := ⟨RX4, "thrown", "()I"⟩
abbrev cX4_no : ByteArray := prog_5_method_3_code
def yX4_no : MethodName := ⟨RX4, "no", "(I)I"⟩
abbrev cX4_isIn : ByteArray := prog_5_method_4_code
def yX4_isIn : MethodName := ⟨RX4, "isIn", "(III)Z"⟩
abbrev cX4_isBoat : ByteArray := prog_5_method_5_code
def yX4_isBoat : MethodName := ⟨RX4, "isBoat", "(I)Z"⟩
abbrev cX4_fleet : ByteArray := prog_5_method_6_code
def yX4_fleet : MethodName := ⟨RX4, "fleet", "(I)I"⟩
abbrev cX4_setPatience : ByteArray := prog_5_method_7_code
def yX4_setPatience : MethodName := ⟨RX4, "setPatience", "(II)I"⟩
abbrev cX4_go : ByteArray := prog_5_method_8_code
def yX4_go : MethodName := ⟨RX4, "go", "(II)I"⟩
abbrev cX4_sink : ByteArray := prog_5_method_9_code
def yX4_sink : MethodName := ⟨RX4, "sink", "(I)Z"⟩
abbrev cX4_write : ByteArray := prog_5_method_10_code
def yX4_write : MethodName := ⟨RX4, "write", "(II)I"⟩
abbrev cX4_pass : ByteArray := prog_5_method_11_code
def yX4_pass : MethodName := ⟨RX4, "pass", "(I)I"⟩
abbrev cX4_boatTold : ByteArray := prog_5_method_12_code
def yX4_boatTold : MethodName := ⟨RX4, "boatTold", "(II)I"⟩
abbrev cX4_told : ByteArray := prog_5_method_13_code
def yX4_told : MethodName := ⟨RX4, "told", "(II)I"⟩
abbrev cX4_entryTold : ByteArray := prog_5_method_14_code
def yX4_entryTold : MethodName := ⟨RX4, "entryTold", "(III)I"⟩
abbrev cX4_entry : ByteArray := prog_5_method_15_code
def yX4_entry : MethodName := ⟨RX4, "entry", "(III)I"⟩
abbrev cX4_agree : ByteArray := prog_5_method_16_code
def yX4_agree : MethodName := ⟨RX4, "agree", "(II)I"⟩
abbrev cX4_newer : ByteArray := prog_5_method_17_code
def yX4_newer : MethodName := ⟨RX4, "newer", "(II)Z"⟩
abbrev cX4_leader : ByteArray := prog_5_method_18_code
def yX4_leader : MethodName := ⟨RX4, "leader", "()I"⟩
abbrev cX4_count : ByteArray := prog_5_method_19_code
def yX4_count : MethodName := ⟨RX4, "count", "(I)I"⟩
abbrev cX4_harbourTold : ByteArray := prog_5_method_20_code
def yX4_harbourTold : MethodName := ⟨RX4, "harbourTold", "(II)I"⟩
abbrev cX4_harbour : ByteArray := prog_5_method_21_code
def yX4_harbour : MethodName := ⟨RX4, "harbour", "(II)I"⟩
abbrev cX4_until : ByteArray := prog_5_method_22_code
def yX4_until : MethodName := ⟨RX4, "until", "()I"⟩
abbrev cX4_foresee : ByteArray := prog_5_method_23_code
def yX4_foresee : MethodName := ⟨RX4, "foresee", "(II)I"⟩
abbrev cX4_advise : ByteArray := prog_5_method_24_code
def yX4_advise : MethodName := ⟨RX4, "advise", "(II)I"⟩
abbrev cX4_mean : ByteArray := prog_5_method_25_code
def yX4_mean : MethodName := ⟨RX4, "mean", "()D"⟩
abbrev cX4_digest : ByteArray := prog_5_method_26_code
def yX4_digest : MethodName := ⟨RX4, "digest", "()J"⟩
def RJ9 : String := "java/lang/Math"
def TJ9 : u_T := fun k => match k with
  | _ => ("", "", "", false)
def tyJ9 : Nat → FieldType := fun k => match k with
  | _ => .int
abbrev wsJ90 : List Cond := u_ws RJ9 TJ9 0
theorem nmJ9 : ∀ a, a < 0 → ∀ b, b < 0 → a ≠ b → (TJ9 a).2.1 ≠ (TJ9 b).2.1 := by decide +kernel
theorem tyJ9_ok : ∀ k, k < 0 → parseFieldDescriptor (TJ9 k).2.2.1 = some (tyJ9 k) := by decide +kernel
abbrev cJ9_max_7cf53 : ByteArray := prog_11_method_65_code
def yJ9_max_7cf53 : MethodName := ⟨RJ9, "max", "(II)I"⟩
abbrev cJ9_min_7cf53 : ByteArray := prog_11_method_69_code
def yJ9_min_7cf53 : MethodName := ⟨RJ9, "min", "(II)I"⟩
def RJ0 : String := "java/lang/String"
def TJ0 : u_T := fun k => match k with
  | _ => ("", "", "", false)
def tyJ0 : Nat → FieldType := fun k => match k with
  | _ => .int
abbrev wsJ00 : List Cond := u_ws RJ0 TJ0 0
theorem nmJ0 : ∀ a, a < 0 → ∀ b, b < 0 → a ≠ b → (TJ0 a).2.1 ≠ (TJ0 b).2.1 := by decide +kernel
theorem tyJ0_ok : ∀ k, k < 0 → parseFieldDescriptor (TJ0 k).2.2.1 = some (tyJ0 k) := by decide +kernel
def RJ10 : String := "java/lang/System"
def TJ10 : u_T := fun k => match k with
  | _ => ("", "", "", false)
def tyJ10 : Nat → FieldType := fun k => match k with
  | _ => .int
abbrev wsJ100 : List Cond := u_ws RJ10 TJ10 0
theorem nmJ10 : ∀ a, a < 0 → ∀ b, b < 0 → a ≠ b → (TJ10 a).2.1 ≠ (TJ10 b).2.1 := by decide +kernel
theorem tyJ10_ok : ∀ k, k < 0 → parseFieldDescriptor (TJ10 k).2.2.1 = some (tyJ10 k) := by decide +kernel
def RL : String := "FleetTermsLaw"
abbrev cL_fleet : ByteArray := method_3_code
def yL_fleet : MethodName := ⟨RL, "fleet", "(LFleetTerms;I[J)I"⟩
abbrev cL_setPatience : ByteArray := method_4_code
def yL_setPatience : MethodName := ⟨RL, "setPatience", "(LFleetTerms;II[J)I"⟩
abbrev cL_go : ByteArray := method_5_code
def yL_go : MethodName := ⟨RL, "go", "(LFleetTerms;II[J)I"⟩
abbrev cL_sink : ByteArray := method_6_code
def yL_sink : MethodName := ⟨RL, "sink", "(LFleetTerms;I[J)I"⟩
abbrev cL_write : ByteArray := method_7_code
def yL_write : MethodName := ⟨RL, "write", "(LFleetTerms;II[J)I"⟩
abbrev cL_pass : ByteArray := method_8_code
def yL_pass : MethodName := ⟨RL, "pass", "(LFleetTerms;I[J)I"⟩
abbrev cL_told : ByteArray := method_9_code
def yL_told : MethodName := ⟨RL, "told", "(LFleetTerms;II[J)I"⟩
abbrev cL_entry : ByteArray := method_10_code
def yL_entry : MethodName := ⟨RL, "entry", "(LFleetTerms;III[J)I"⟩
abbrev cL_agree : ByteArray := method_11_code
def yL_agree : MethodName := ⟨RL, "agree", "(LFleetTerms;II[J)I"⟩
abbrev cL_newer : ByteArray := method_12_code
def yL_newer : MethodName := ⟨RL, "newer", "(LFleetTerms;II[J)I"⟩
abbrev cL_count : ByteArray := method_13_code
def yL_count : MethodName := ⟨RL, "count", "(LFleetTerms;I[J)I"⟩
abbrev cL_harbour : ByteArray := method_14_code
def yL_harbour : MethodName := ⟨RL, "harbour", "(LFleetTerms;II[J)I"⟩
abbrev cL_foresee : ByteArray := method_15_code
def yL_foresee : MethodName := ⟨RL, "foresee", "(LFleetTerms;II[J)I"⟩
abbrev cL_advise : ByteArray := method_16_code
def yL_advise : MethodName := ⟨RL, "advise", "(LFleetTerms;II[J)I"⟩
abbrev cL_law : ByteArray := code
def yL_law : MethodName := ⟨RL, "law", "([I)Z"⟩
abbrev vwCl : List vw_C := [(RX0, TX0, 13), (RX1, TX1, 4), (RX2, TX2, 2), (RX3, TX3, 16), (RX4, TX4, 3)]
end
section
/-! A world in blocks, and a walk over it: 'zK ..' is W at a point, for every heap that holds the blocks; a row of it an instruction. -/
/-- texts of exceptions: (class, place, text) -/
def zSt : List (String × Nat × String) := [("FleetTerms", 25, "boats is not 3 to 7"), ("FleetTerms", 153, "no such boat"), ("FleetTerms", 33, "patience is not 2 to 9"), ("FleetTerms", 155, "no such number"), ("FleetTerms", 53, "fish is not 0 to 99"), ("FleetTerms", 61, "the boat is sunk, or does not lead"), ("FleetTerms", 73, "the log has 10 entries"), ("FleetTerms", 157, "too few or too many hours"), ("FleetTerms", 133, "what is not 3 to 9"), ("FleetTerms", 136, "the boat is sunk")]
/-- an exception's class, and one that it is no part of -/
def zNcL : List (String × String) := [("java/lang/IllegalArgumentException", "java/lang/IndexOutOfBoundsException"), ("java/lang/IllegalArgumentException", "java/lang/IllegalStateException"), ("java/lang/IndexOutOfBoundsException", "java/lang/IllegalArgumentException"), ("java/lang/IndexOutOfBoundsException", "java/lang/IllegalStateException"), ("java/lang/IllegalStateException", "java/lang/IllegalArgumentException"), ("java/lang/IllegalStateException", "java/lang/IndexOutOfBoundsException")]
abbrev zS : Type := (ClassId × Nat) ⊕ ((Nat × List (Option Nat)) ⊕ va_E)
abbrev zF : Type := Nat → Nat → Int32
abbrev zB : Type := List (Nat × zS) × zF
def zO : Nat → List (Option Nat) → (Nat → Int32) → List Value
  | _, [], _ => []
  | j, none :: fs, f => .int (f j) :: zO (j + 1) fs f
  | j, some r :: fs, f => .ref r :: zO (j + 1) fs f
def zV (o : Option Nat) (x : Int32) : Value := match o with
  | none => .int x
  | some r => .ref r
def zC (s : zS) (f : Nat → Int32) : va_E := match s with
  | .inl (cA, n) => .inl (cA, n, .inl f)
  | .inr (.inl (ci, fs)) => .inr (ci, zO 0 fs f)
  | .inr (.inr e) => e
def zW1 : Nat → List (Nat × zS) → zF → va_W
  | _, [], _ => []
  | k, p :: sh, σ => (p.1, zC p.2 (σ k)) :: zW1 (k + 1) sh σ
def zW : List zB → va_W
  | [] => []
  | b :: B => zW1 0 b.1 b.2 ++ zW B
def zU (σ : zF) (k i : Nat) (v : Int32) : zF := fun k' => bif k' == k then upd (σ k') i v else σ k'
theorem zU_eq (σ : zF) (k i : Nat) (v : Int32) : zU σ k i v k = upd (σ k) i v := by simp [zU]
theorem zU_ne {σ : zF} {k i k' : Nat} {v : Int32} (h : k' ≠ k) : zU σ k i v k' = σ k' := by
  simp [zU, beq_eq_false_iff_ne.mpr h]
theorem zU_at (σ : zF) (k i : Nat) (v : Int32) (k' j : Nat) : zU σ k i v k' j = if k' = k ∧ j = i then v else σ k' j := by
  by_cases h : k' = k
  · subst h
    rw [zU_eq]
    by_cases h2 : j = i <;> simp [upd, h2]
  · rw [zU_ne h]
    simp [h]
theorem zO_get : ∀ (fs : List (Option Nat)) (j0 : Nat) (f : Nat → Int32) (j : Nat), (zO j0 fs f)[j]? = (fs[j]?).map (fun o => zV o (f (j0 + j)))
  | [], _, _, _ => by simp [zO]
  | o :: fs, j0, f, j => by
    cases j with
    | zero => cases o <;> simp [zO, zV]
    | succ j =>
      have h := zO_get fs (j0 + 1) f j
      rw [show j0 + 1 + j = j0 + (j + 1) by omega] at h
      cases o <;> simpa [zO] using h
theorem zO_len (fs : List (Option Nat)) (j0 : Nat) (f : Nat → Int32) {j : Nat} {o : Option Nat} (h : fs[j]? = some o) : j < (zO j0 fs f).length := by
  have h1 : (zO j0 fs f)[j]? = some (zV o (f (j0 + j))) := by rw [zO_get, h]; rfl
  exact (List.getElem?_eq_some_iff.mp h1).1
theorem zO_set (fs : List (Option Nat)) (j0 : Nat) (f : Nat → Int32) {j : Nat} (v : Int32) (h : fs[j]? = some none) : (zO j0 fs f).set j (.int v) = zO j0 fs (upd f (j0 + j) v) := by
  apply List.ext_getElem?
  intro k
  by_cases hk : k = j
  · subst hk
    rw [List.getElem?_set_self (zO_len fs j0 f h), zO_get, h]
    simp [zV, upd]
  · rw [List.getElem?_set_ne (Ne.symm hk), zO_get, zO_get]
    congr 1
    funext o
    congr 1
    have hne : ¬ j0 + k = j0 + j := by omega
    simp [upd, hk]
theorem zW1_get : ∀ (sh : List (Nat × zS)) (k0 : Nat) (σ : zF) (j : Nat), (zW1 k0 sh σ)[j]? = (sh[j]?).map (fun p => (p.1, zC p.2 (σ (k0 + j))))
  | [], _, _, _ => by simp [zW1]
  | p :: sh, k0, σ, j => by
    cases j with
    | zero => simp [zW1]
    | succ j =>
      have h := zW1_get sh (k0 + 1) σ j
      rw [show k0 + 1 + j = k0 + (j + 1) by omega] at h
      simpa [zW1] using h
theorem zW1_len {sh : List (Nat × zS)} {k0 : Nat} {σ : zF} {j : Nat} {p : Nat × zS} (h : sh[j]? = some p) : j < (zW1 k0 sh σ).length := by
  have h1 : (zW1 k0 sh σ)[j]? = some (p.1, zC p.2 (σ (k0 + j))) := by rw [zW1_get, h]; rfl
  exact (List.getElem?_eq_some_iff.mp h1).1
theorem zW1_set {sh : List (Nat × zS)} {k0 : Nat} {σ σ' : zF} {j a : Nat} {s : zS} {e' : va_E} (h : sh[j]? = some (a, s)) (he : zC s (σ' (k0 + j)) = e') (ho : ∀ k, k ≠ k0 + j → σ' k = σ k) : (zW1 k0 sh σ).set j (a, e') = zW1 k0 sh σ' := by
  apply List.ext_getElem?
  intro k
  by_cases hk : k = j
  · subst hk
    rw [List.getElem?_set_self (zW1_len h), zW1_get, h]
    simp [he]
  · rw [List.getElem?_set_ne (Ne.symm hk), zW1_get, zW1_get]
    congr 1
    funext p
    rw [ho (k0 + k) (by omega)]
theorem zW1_setR {sh : List (Nat × zS)} {k0 : Nat} {σ : zF} {j a : Nat} {s : zS} {e' : va_E} (h : sh[j]? = some (a, s)) : (zW1 k0 sh σ).set j (a, e') = zW1 k0 (sh.set j (a, .inr (.inr e'))) σ := by
  have hl := (List.getElem?_eq_some_iff.mp h).1
  apply List.ext_getElem?
  intro k
  by_cases hk : k = j
  · subst hk
    rw [List.getElem?_set_self (zW1_len h), zW1_get, List.getElem?_set_self hl]
    rfl
  · rw [List.getElem?_set_ne (Ne.symm hk), zW1_get, zW1_get, List.getElem?_set_ne (Ne.symm hk)]
theorem zW_at : ∀ (B : List zB) (b : Nat) {sh : List (Nat × zS)} {σ : zF}, B[b]? = some (sh, σ) → ∀ {k a : Nat} {s : zS}, sh[k]? = some (a, s) → ∃ q0 : Nat, (zW B)[q0]? = some (a, zC s (σ k)) ∧ (∀ (σ' : zF) (e' : va_E), zC s (σ' k) = e' → (∀ k', k' ≠ k → σ' k' = σ k') → (zW B).set q0 (a, e') = zW (B.set b (sh, σ'))) ∧ (∀ e' : va_E, (zW B).set q0 (a, e') = zW (B.set b (sh.set k (a, .inr (.inr e')), σ)))
  | [], b, _, _, h, _, _, _, _ => by simp at h
  | b0 :: B, 0, sh, σ, h, k, a, s, hk => by
    have hb0 : b0 = (sh, σ) := by simpa using h
    subst hb0
    have hl : k < (zW1 0 sh σ).length := zW1_len hk
    refine ⟨k, ?_, fun σ' e' he ho => ?_, fun e' => ?_⟩
    · show (zW1 0 sh σ ++ zW B)[k]? = _
      rw [List.getElem?_append_left hl, zW1_get, hk]
      simp
    · show (zW1 0 sh σ ++ zW B).set k (a, e') = zW1 0 sh σ' ++ zW B
      rw [List.set_append_left k _ hl, zW1_set (σ' := σ') hk (by simpa using he) (fun k' hk' => ho k' (by simpa using hk'))]
    · show (zW1 0 sh σ ++ zW B).set k (a, e') = zW1 0 (sh.set k (a, .inr (.inr e'))) σ ++ zW B
      rw [List.set_append_left k _ hl, zW1_setR hk]
  | b0 :: B, b + 1, sh, σ, h, k, a, s, hk => by
    have hB : B[b]? = some (sh, σ) := by simpa using h
    obtain ⟨q, h1, h2, h3⟩ := zW_at B b hB hk
    refine ⟨(zW1 0 b0.1 b0.2).length + q, ?_, fun σ' e' he ho => ?_, fun e' => ?_⟩
    · show (zW1 0 b0.1 b0.2 ++ zW B)[(zW1 0 b0.1 b0.2).length + q]? = _
      rw [List.getElem?_append_right (by omega), Nat.add_sub_cancel_left]
      exact h1
    · show (zW1 0 b0.1 b0.2 ++ zW B).set ((zW1 0 b0.1 b0.2).length + q) (a, e') = zW1 0 b0.1 b0.2 ++ zW (B.set b (sh, σ'))
      rw [List.set_append_right _ _ (by omega), Nat.add_sub_cancel_left, h2 σ' e' he ho]
    · show (zW1 0 b0.1 b0.2 ++ zW B).set ((zW1 0 b0.1 b0.2).length + q) (a, e') = zW1 0 b0.1 b0.2 ++ zW (B.set b (sh.set k (a, .inr (.inr e')), σ))
      rw [List.set_append_right _ _ (by omega), Nat.add_sub_cancel_left, h3 e']
theorem zD_iff {A : Nat → Prop} {ws : va_W} : va_D A ws ↔ (ws.map (·.1)).Nodup ∧ ∀ q ∈ ws, A q.1 := by
  constructor
  · intro h
    refine ⟨List.nodup_iff_pairwise_ne.mpr (List.pairwise_iff_getElem.mpr fun i j hi hj hij e => ?_), fun q hq => ?_⟩
    · rw [List.length_map] at hi hj
      rw [List.getElem_map, List.getElem_map] at e
      have := h.1 i j _ _ (List.getElem?_eq_getElem hi) (List.getElem?_eq_getElem hj) e
      omega
    · obtain ⟨k, hk⟩ := List.getElem?_of_mem hq
      exact h.2 k q hk
  · intro h
    have h1 := List.pairwise_iff_getElem.mp (List.nodup_iff_pairwise_ne.mp h.1)
    refine ⟨fun i j p q hi hj e => ?_, fun k q hk => h.2 q (List.mem_of_getElem? hk)⟩
    obtain ⟨li, ei⟩ := List.getElem?_eq_some_iff.mp hi
    obtain ⟨lj, ej⟩ := List.getElem?_eq_some_iff.mp hj
    rcases Nat.lt_trichotomy i j with g | g | g
    · exact absurd (by rw [List.getElem_map, List.getElem_map, ei, ej]; exact e) (h1 i j (by rw [List.length_map]; exact li) (by rw [List.length_map]; exact lj) g)
    · exact g
    · exact absurd (by rw [List.getElem_map, List.getElem_map, ei, ej]; exact e.symm) (h1 j i (by rw [List.length_map]; exact lj) (by rw [List.length_map]; exact li) g)
theorem zP_iff {D : va_G} {cl : List vw_C} {ws : va_W} {H : Heap} : va_P D cl ws H ↔ ∀ q ∈ ws, va_at D cl q H := by
  constructor
  · intro h q hq
    obtain ⟨k, hk⟩ := List.getElem?_of_mem hq
    exact h k q hk
  · intro h k q hk
    exact h q (List.mem_of_getElem? hk)
theorem zA_iff {ws : va_W} {sz q : Nat} : va_A ws sz q ↔ (∃ p ∈ ws, p.1 = q) ∨ sz ≤ q := by
  constructor
  · rintro (⟨k, e, h⟩ | h)
    · exact Or.inl ⟨(q, e), List.mem_of_getElem? h, rfl⟩
    · exact Or.inr h
  · rintro (⟨p, hp, rfl⟩ | h)
    · obtain ⟨k, hk⟩ := List.getElem?_of_mem hp
      exact va_A.in hk
    · exact Or.inr h
theorem zW_app : ∀ (B B' : List zB), zW (B ++ B') = zW B ++ zW B'
  | [], _ => rfl
  | b :: B, B' => by
    show zW1 0 b.1 b.2 ++ zW (B ++ B') = zW1 0 b.1 b.2 ++ zW B ++ zW B'
    rw [zW_app B B', List.append_assoc]
theorem zW_perm {B B' : List zB} (h : B.Perm B') : (zW B).Perm (zW B') := by
  induction h with
  | nil => exact List.Perm.refl _
  | cons b _ ih => exact List.Perm.append_left _ ih
  | swap a b l =>
    show (zW1 0 b.1 b.2 ++ (zW1 0 a.1 a.2 ++ zW l)).Perm (zW1 0 a.1 a.2 ++ (zW1 0 b.1 b.2 ++ zW l))
    rw [← List.append_assoc, ← List.append_assoc]
    exact List.Perm.append_right _ List.perm_append_comm
  | trans _ _ h1 h2 => exact h1.trans h2
def zPick : List Bool → List zB → List zB
  | true :: m, b :: B => b :: zPick m B
  | false :: m, _ :: B => zPick m B
  | _, _ => []
def zRest : List Bool → List zB → List zB
  | true :: m, _ :: B => zRest m B
  | false :: m, b :: B => b :: zRest m B
  | _, B => B
def zPut : List Bool → List zB → List zB → List zB
  | true :: m, _ :: B, c :: u => c :: zPut m B u
  | true :: m, _ :: B, [] => zPut m B []
  | false :: m, b :: B, u => b :: zPut m B u
  | _, B, u => B ++ u
theorem zPick_perm : ∀ (m : List Bool) (B : List zB), B.Perm (zRest m B ++ zPick m B)
  | [], B => by cases B <;> simp [zRest, zPick]
  | _ :: _, [] => by simp [zRest, zPick]
  | true :: m, b :: B => by
    show (b :: B).Perm (zRest m B ++ b :: zPick m B)
    exact (List.Perm.cons b (zPick_perm m B)).trans List.perm_middle.symm
  | false :: m, b :: B => List.Perm.cons b (zPick_perm m B)
theorem zPut_perm : ∀ (m : List Bool) (B u : List zB), (zPut m B u).Perm (zRest m B ++ u)
  | [], B, u => by cases B <;> simp [zRest, zPut]
  | _ :: _, [], u => by simp [zRest, zPut]
  | true :: m, b :: B, [] => zPut_perm m B []
  | true :: m, b :: B, c :: u => by
    show (c :: zPut m B u).Perm (zRest m B ++ c :: u)
    exact (List.Perm.cons c (zPut_perm m B u)).trans List.perm_middle.symm
  | false :: m, b :: B, u => List.Perm.cons b (zPut_perm m B u)
theorem zP_perm {D : va_G} {cl : List vw_C} {w w' : va_W} {H : Heap} (h : w.Perm w') (hP : va_P D cl w H) : va_P D cl w' H := zP_iff.mpr fun q hq => zP_iff.mp hP q (h.mem_iff.mpr hq)
theorem zD_perm {A : Nat → Prop} {w w' : va_W} (h : w.Perm w') (hD : va_D A w) : va_D A w' := by
  obtain ⟨h1, h2⟩ := zD_iff.mp hD
  exact zD_iff.mpr ⟨(h.map (·.1)).nodup h1, fun q hq => h2 q (h.mem_iff.mpr hq)⟩
theorem zD_split {A : Nat → Prop} {w w' : va_W} (hD : va_D A (w ++ w')) : va_D A w ∧ va_D A w' ∧ ∀ q ∈ w, ∀ q' ∈ w', q.1 ≠ q'.1 := by
  obtain ⟨h1, h2⟩ := zD_iff.mp hD
  rw [List.map_append, List.nodup_append] at h1
  exact ⟨zD_iff.mpr ⟨h1.1, fun q hq => h2 q (List.mem_append_left _ hq)⟩, zD_iff.mpr ⟨h1.2.1, fun q hq => h2 q (List.mem_append_right _ hq)⟩, fun q hq q' hq' => h1.2.2 _ (List.mem_map_of_mem hq) _ (List.mem_map_of_mem hq')⟩
theorem z_pick {D : va_G} {A0 : Nat → Prop} {H0 H : Heap} {locs : List Loc} (m : List Bool) {B : List zB} (hP : va_P D vwCl (zW B) H) (hD : va_D A0 (zW B)) (hS : va_S A0 H0 H locs) (hA : ∀ q, H0.size ≤ q → A0 q) :
    va_P D vwCl (zW (zPick m B)) H ∧ va_D (fun _ => True) (zW (zPick m B)) ∧ ∀ q, va_A (zW (zPick m B)) H.size q → A0 q := by
  have hp := zW_perm (zPick_perm m B)
  rw [zW_app] at hp
  have hP1 := zP_perm hp hP
  have hD1 := zD_perm hp hD
  obtain ⟨-, d2, -⟩ := zD_split hD1
  refine ⟨zP_iff.mpr fun q hq => zP_iff.mp hP1 q (List.mem_append_right _ hq), d2.weaken (fun _ _ _ _ => trivial), fun q h => ?_⟩
  rcases zA_iff.mp h with ⟨p, hp, rfl⟩ | h
  · exact (zD_iff.mp d2).2 p hp
  · exact hA q (Nat.le_trans hS.1 h)
theorem z_join {D : va_G} {A0 : Nat → Prop} (m : List Bool) {B u : List zB} {H H1 : Heap} (hP : va_P D vwCl (zW B) H) (hD : va_D A0 (zW B)) (hk : ∀ q : Nat, q < H.size → ¬ va_A (zW (zPick m B)) H.size q → H1[q]? = H[q]?) (hF : ∀ q, va_A (zW (zPick m B)) H.size q → A0 q) (hP1 : va_P D vwCl (zW u) H1) (hD1 : va_D (va_A (zW (zPick m B)) H.size) (zW u)) :
    va_P D vwCl (zW (zPut m B u)) H1 ∧ va_D A0 (zW (zPut m B u)) := by
  have hp := zW_perm (zPick_perm m B)
  rw [zW_app] at hp
  have hPb := zP_perm hp hP
  obtain ⟨d1, -, d3⟩ := zD_split (zD_perm hp hD)
  have apart : ∀ q ∈ zW (zRest m B), q.1 < H.size ∧ ¬ va_A (zW (zPick m B)) H.size q.1 := fun q hq => by
    have hl := (zP_iff.mp hPb q (List.mem_append_left _ hq)).lt
    refine ⟨hl, fun h => ?_⟩
    rcases zA_iff.mp h with ⟨p, hp, e⟩ | h
    · exact d3 q hq p hp e.symm
    · omega
  have hq := zW_perm (zPut_perm m B u).symm
  rw [zW_app] at hq
  refine ⟨zP_perm hq (zP_iff.mpr fun q hq => ?_), zD_perm hq (zD_iff.mpr ⟨?_, fun q hq => ?_⟩)⟩
  · rcases List.mem_append.mp hq with h | h
    · exact (zP_iff.mp hPb q (List.mem_append_left _ h)).kept (hk q.1 (apart q h).1 (apart q h).2)
    · exact zP_iff.mp hP1 q h
  · rw [List.map_append, List.nodup_append]
    refine ⟨(zD_iff.mp d1).1, (zD_iff.mp hD1).1, fun a ha b hb e => ?_⟩
    obtain ⟨q, hq, rfl⟩ := List.mem_map.mp ha
    obtain ⟨q', hq', rfl⟩ := List.mem_map.mp hb
    exact (apart q hq).2 (by rw [e]; exact (zD_iff.mp hD1).2 q' hq')
  · rcases List.mem_append.mp hq with h | h
    · exact (zD_iff.mp d1).2 q h
    · exact hF q.1 ((zD_iff.mp hD1).2 q h)
/-- the words that go with every method: those of the tables that any warming keeps -/
def lw_all : List Cond := lw_tbl.filter goodWord
/-- the words that go in premises: members of nest mates, and casts -/
def zNk : Cond → Bool
  | .fieldLinkNest .. => true
  | .methodLinkNest .. => true
  | .castable .. => true
  | _ => false
def lw_env : List Cond := lw_tbl.filter zNk
theorem zNk_go {s U : State} (hW : s.WarmedH U.vm) : ∀ w : Cond, zNk w = true → va_Nw w s → va_Nw w U := by
  intro w hw h
  cases w with
  | fieldLinkNest a i b n d h9 => exact va_Nw.warmF hW h
  | methodLinkNest a i x h9 => exact va_Nw.warmM hW h
  | castable a b => exact va_tabs rfl (rfl : (s.setVm U.vm).vm = U.vm) (Cond.before_shiftedFace (State.Shifted.of_warmed hW) (.castable a b) rfl h)
  | _ => simp [zNk] at hw
def zEv (A : Nat → Prop) (U : State) (H : Heap) : Prop :=
  (∀ w ∈ lw_env, va_Nw w U) ∧ (∀ q ∈ zSt, ∃ sa : Nat, vk_R q.1 q.2.1 q.2.2 sa U) ∧ (∀ q ∈ zNcL, va_Nc q.1 q.2 U) ∧ vx_Zq Bundle.tN "UNASSIGNED_STACK" Bundle.steD A U H ∧ vx_Zq Bundle.tN "SUPPRESSED_SENTINEL" Bundle.listD A U H
theorem zEv.go {A B : Nat → Prop} {s U : State} {H H1 : Heap} (h : zEv A s H) (hW : s.WarmedH U.vm) (hq : ∀ a : Nat, a < H.size → ¬ A a → H1[a]? = H[a]?) (hAB : ∀ q, B q → A q) : zEv B U H1 := by
  obtain ⟨h1, h2, h3, h4, h5⟩ := h
  refine ⟨fun w hw => zNk_go hW w (List.mem_filter.mp hw).2 (h1 w hw), fun q hq => ?_, fun q hq => (h3 q hq).moved hW.alike, ((h4.kept hq).narrow hAB).moved hW.alike, ((h5.kept hq).narrow hAB).moved hW.alike⟩
  obtain ⟨sa, h⟩ := h2 q hq
  exact ⟨sa, vk_R.warm hW h⟩
theorem zEv_calling {A : Nat → Prop} {U : State} {g : JFrame} {mk : MethodId} {a : Array Value} (h : zEv A U U.heap) : zEv A (U.calling g mk a) (U.calling g mk a).heap := h.go (State.WarmedH.refl U) (fun _ _ _ => rfl) (fun _ h => h)
/-- a method's words -/
abbrev wz (y : MethodName) (cc : ByteArray) (n : Nat) (ret : Option FieldType) : List Cond := Cond.code y cc n ret :: lw_all
theorem lw_good {w : Cond} (h : w ∈ lw_all) : w ∈ lw_all ∧ ((w.onTables && w.keeps) = true ∨ ∃ ty, w = .arrayClass ty) := ⟨h, good_of_word (List.mem_filter.mp h).2⟩
theorem lw_goodIn {l : List Cond} (h : ∀ w ∈ l, w ∈ lw_all) : GoodIn lw_all l := fun w hw => lw_good (h w hw)
/-- what a caller asks of a method's tables: its code, and that it is found in objects of the class Cl -/
def zCal (y : MethodName) (cc : ByteArray) (n : Nat) (ret : Option FieldType) (k : Nat) : Prop := Cond.code y cc n ret ∈ lw_all ∧ Cond.initialized y.cls ∈ lw_all ∧ (y.cls ≠ "java/lang/invoke/MethodHandle" ∧ y.cls ≠ "java/lang/invoke/VarHandle" ∧ (parseMethodDescriptor y.desc).map (fun d => d.parameters.length) = some k)
theorem zCal.ws {y : MethodName} {cc : ByteArray} {n k : Nat} {ret : Option FieldType} (h : zCal y cc n ret k) : ∀ w ∈ wz y cc n ret, w ∈ lw_all := fun w hw => by
  rcases List.mem_cons.mp hw with rfl | hw
  · exact h.1
  · exact hw
theorem zg_V {own Cl : String} {idx : Nat} {y : MethodName} {ws : List Cond} (h1 : Cond.methodLink own idx y ∈ lw_all) (h2 : Cond.instanceMethod y ∈ lw_all) (h3 : Cond.selects Cl y y ∈ lw_all) (h4 : Cond.initialized Cl ∈ lw_all) (h5 : ∀ w ∈ ws, w ∈ lw_all) : GoodIn lw_all (wsV own idx Cl y ws) := lw_goodIn fun w hw => by
  rcases List.mem_append.mp hw with h | h
  · simp only [List.mem_cons, List.not_mem_nil, or_false] at h
    rcases h with rfl | rfl | rfl | rfl
    · exact h1
    · exact h2
    · exact h3
    · exact h4
  · exact h5 w h
theorem zg_S {own : String} {idx : Nat} {y : MethodName} {ws : List Cond} (h1 : Cond.methodLink own idx y ∈ lw_all) (h2 : Cond.static y ∈ lw_all) (h4 : Cond.initialized y.cls ∈ lw_all) (h5 : ∀ w ∈ ws, w ∈ lw_all) : GoodIn lw_all (va_wsS own idx y ws) := lw_goodIn fun w hw => by
  rcases List.mem_append.mp hw with h | h
  · simp only [List.mem_cons, List.not_mem_nil, or_false] at h
    rcases h with rfl | rfl | rfl
    · exact h1
    · exact h2
    · exact h4
  · exact h5 w h
/-- what holds all along a method's walk -/
def zX (p : Program) (s : State) (m : MethodId) (args : Array Value) (meth : Method) (c : Code) (D : va_G) (tys : List (ClassId × FieldType)) (A : Nat → Prop) (own : String) (cc : ByteArray) (nL : Nat) : Prop :=
  p.tables.exec = Jvm.exec ∧ c.code = cc ∧ c.maxLocals = nL ∧ s.vm.findClass own = some m.cls ∧ (∀ w ∈ lw_all, w.before args s = true) ∧ va_K D vwCl tys s ∧ (∀ q : Nat, s.heap.size ≤ q → A q) ∧ meth.locks = false ∧ zEv A s s.heap
def zK (p : Program) (l : Launch) (e : Env) (R : Room) (s : State) (m : MethodId) (args : Array Value) (below : List Frame) (meth : Method) (c : Code) (D : va_G) (A : Nat → Prop) (nL : Nat) (Q : State → Prop) (cells slots pc : Nat) (L : List (Nat × Value)) (st : List Value) (B : List zB) : Prop :=
  ∀ (H : Heap) (locs : List Loc) (ls : Array Slot), va_P D vwCl (zW B) H → va_D A (zW B) → va_S A s.heap H locs → lv_has ls nL L → W p l e R s m args below meth c H locs cells slots Q (F0 m pc ls st)
/-- a contract: from the blocks B it returns; what it answers, and the blocks behind it -/
def zPre (D : va_G) (tys : List (ClassId × FieldType)) (sz : Nat) (B : List zB) (U : State) : Prop := U.heap.size = sz ∧ va_P D vwCl (zW B) U.heap ∧ va_K D vwCl tys U ∧ va_D (fun _ => True) (zW B) ∧ zEv (va_A (zW B) sz) U U.heap
def zQ (post : Option Value → List zB → Prop) (D : va_G) (tys : List (ClassId × FieldType)) (A : Nat → Prop) : Array Value → State → Outcome → State → Prop := fun _ st oc t =>
  (∃ (r : Option Value) (u : List zB), oc = .returned r ∧ post r u ∧ va_P D vwCl (zW u) t.heap ∧ va_K D vwCl tys t ∧ va_D A (zW u)) ∧ va_F A st t
def zM (l : Launch) (D : va_G) (tys : List (ClassId × FieldType)) (y : MethodName) (cc : ByteArray) (n : Nat) (ret : Option FieldType) (rm : Room) (as : List Value) (B : List zB) (mc ms : Nat) (post : Option Value → List zB → Prop) : Prop :=
  ∀ sz : Nat, Met l y (wz y cc n ret) rm (va_Pc as (zPre D tys sz B)) (zQ post D tys (va_A (zW B) sz)) mc ms (va_A (zW B) sz)
theorem zPre_blind {D : va_G} {tys : List (ClassId × FieldType)} {sz : Nat} {B : List zB} {as : List Value} : FrameBlind (va_Pc as (zPre D tys sz B)) := fun a U g mk q => by
  obtain ⟨q0, q1, qP, qK, qD, qE⟩ := q
  exact ⟨q0, q1, qP, va_K.moved (u := U) (U := U.calling g mk a) (Vm.Alike.refl U.vm) qK, qD, zEv_calling qE⟩
section ZROWS
variable {p : Program} {l : Launch} {e : Env} {R : Room} {s : State} {m : MethodId} {args : Array Value} {below : List Frame} {meth : Method} {c : Code} {D : va_G} {tys : List (ClassId × FieldType)} {A : Nat → Prop} {own : String} {cc : ByteArray} {nL : Nat} {Q : State → Prop} {cells slots pc : Nat} {L L' : List (Nat × Value)} {st rest : List Value} {B B' : List zB}
theorem z_of {y : MethodName} {rm : Room} {as : List Value} {mc ms : Nat} {post : Option Value → List zB → Prop} {maxL : Nat} {ret : Option FieldType} (hy : plainName y.cls = true) (hlen : (lg_sl as).length ≤ maxL) (hL : lv_args 0 as = L)
    (body : ∀ (p : Program) (e : Env) (s : State) (m : MethodId) (args : Array Value) (below : List Frame) (meth : Method) (c : Code) (A : Nat → Prop), zX p s m args meth c D tys A y.cls cc maxL → meth.sig.returnType = ret → (y.name = "<init>" → meth.name = "<init>") → zK p l e rm s m args below meth c D A maxL (MQ below (zQ post D tys A) args s mc ms A) 0 0 0 L [] B) : zM l D tys y cc maxL ret rm as B mc ms post := by
  intro sz
  refine Met.ofW (cc := cc) (maxL := maxL) (ret := ret) hy rfl ?_
  intro p e s m args below meth c s₁ BL hml hv
  obtain ⟨rfl, hsz, hP, hK, hD0, hE⟩ := hv
  subst hsz
  have hl := lv_entry as (n := maxL) hlen
  rw [hL] at hl
  rw [lg_entry_eq]
  have hts := atoms_spec (ws := wz y cc maxL ret) BL.pre
  exact body p e s m as.toArray below meth c (va_A (zW B) s.heap.size) ⟨BL.exec, BL.bytes, hml, findClass_of_methodNamed BL.named, fun w hw => hts w (List.mem_cons_of_mem _ hw), hK, fun q h => Or.inr h, BL.notSynchronized, hE⟩ BL.returns (fun h => (name_of_methodNamed BL.named BL.method).1.trans h) s.heap [] _ hP hD0.self va_S.rf hl
theorem z_sub (ks : List Nat) (hl : lv_pick L ks = L') (k : zK p l e R s m args below meth c D A nL Q cells slots pc L' st B) : zK p l e R s m args below meth c D A nL Q cells slots pc L st B := fun H locs ls hP hD hS hh => k H locs ls hP hD hS (lv_sub hh ks hl)
theorem z_widen {k n : Nat} (h1 : cells ≤ k) (h2 : slots ≤ n) (kk : zK p l e R s m args below meth c D A nL Q k n pc L st B) : zK p l e R s m args below meth c D A nL Q cells slots pc L st B := fun H locs ls hP hD hS hh => W.widen h1 h2 (kk H locs ls hP hD hS hh)
theorem z_top {x y : Int32} (h : x = y) (k : zK p l e R s m args below meth c D A nL Q cells slots pc L (.int y :: st) B) : zK p l e R s m args below meth c D A nL Q cells slots pc L (.int x :: st) B := h ▸ k
theorem z_eq (hB : B = B') (k : zK p l e R s m args below meth c D A nL Q cells slots pc L st B') : zK p l e R s m args below meth c D A nL Q cells slots pc L st B := hB ▸ k

theorem z_iconst (C : zX p s m args meth c D tys A own cc nL) {n : Int} {v : Int32} (hv : Int32.ofInt n = v) (hdg : decode cc pc = .ok (.iconst n, 1)) (k : zK p l e R s m args below meth c D A nL Q cells slots (pc + 1) L (.int v :: st) B) : zK p l e R s m args below meth c D A nL Q cells slots pc L (st) B := fun H locs ls hP hD hS hl => lv_iconst C.1 C.2.1 hdg hv (k H locs ls hP hD hS hl)
theorem z_bipush (C : zX p s m args meth c D tys A own cc nL) {n : Int} {v : Int32} (hv : (Int8.ofInt n).toInt32 = v) (hdg : decode cc pc = .ok (.bipush n, 2)) (k : zK p l e R s m args below meth c D A nL Q cells slots (pc + 2) L (.int v :: st) B) : zK p l e R s m args below meth c D A nL Q cells slots pc L (st) B := fun H locs ls hP hD hS hl => lv_bipush C.1 C.2.1 hdg hv (k H locs ls hP hD hS hl)
theorem z_lconst (C : zX p s m args meth c D tys A own cc nL) {n : Fin 2} {v : Int64} (hv : Int64.ofNat (n : Nat) = v) (hdg : decode cc pc = .ok (.lconst n, 1)) (k : zK p l e R s m args below meth c D A nL Q cells slots (pc + 1) L (.long v :: st) B) : zK p l e R s m args below meth c D A nL Q cells slots pc L (st) B := fun H locs ls hP hD hS hl => lv_lconst C.1 C.2.1 hdg hv (k H locs ls hP hD hS hl)
theorem z_iload_n (C : zX p s m args meth c D tys A own cc nL) {k : Fin 4} {i : Nat} {x : Int32} (hdg : decode cc pc = .ok (.iload_n k, 1)) (hi : (k : Nat) = i) (j : Nat) (hj : L[j]? = some (i, .int x)) (kk : zK p l e R s m args below meth c D A nL Q cells slots (pc + 1) L (.int x :: st) B) : zK p l e R s m args below meth c D A nL Q cells slots pc L st B := fun H locs ls hP hD hS hl => lv_iload_n C.1 C.2.1 hdg hi (lv_at hl j hj) (kk H locs ls hP hD hS hl)
theorem z_iload (C : zX p s m args meth c D tys A own cc nL) {i : Nat} {x : Int32} (hdg : decode cc pc = .ok (.iload i, 2)) (j : Nat) (hj : L[j]? = some (i, .int x)) (kk : zK p l e R s m args below meth c D A nL Q cells slots (pc + 2) L (.int x :: st) B) : zK p l e R s m args below meth c D A nL Q cells slots pc L st B := fun H locs ls hP hD hS hl => lv_iload C.1 C.2.1 hdg (lv_at hl j hj) (kk H locs ls hP hD hS hl)
theorem z_istore_n (C : zX p s m args meth c D tys A own cc nL) {k : Fin 4} {i : Nat} {x : Int32} (hdg : decode cc pc = .ok (.istore_n k, 1)) (hi : (k : Nat) = i) (hn : i < nL) (hL : (i, Value.int x) :: L.filter (fun q => !(q.1 == i) && !(q.1 + 1 == i && q.2.category == 2)) = L') (kk : zK p l e R s m args below meth c D A nL Q cells slots (pc + 1) L' st B) : zK p l e R s m args below meth c D A nL Q cells slots pc L (.int x :: st) B := fun H locs ls hP hD hS hl => lv_istore_n C.1 C.2.1 hdg hi hl hn hL (fun ls hl => kk H locs ls hP hD hS hl)
theorem z_istore (C : zX p s m args meth c D tys A own cc nL) {i : Nat} {x : Int32} (hdg : decode cc pc = .ok (.istore i, 2)) (hn : i < nL) (hL : (i, Value.int x) :: L.filter (fun q => !(q.1 == i) && !(q.1 + 1 == i && q.2.category == 2)) = L') (kk : zK p l e R s m args below meth c D A nL Q cells slots (pc + 2) L' st B) : zK p l e R s m args below meth c D A nL Q cells slots pc L (.int x :: st) B := fun H locs ls hP hD hS hl => lv_istore C.1 C.2.1 hdg hl hn hL (fun ls hl => kk H locs ls hP hD hS hl)
theorem z_lload_n (C : zX p s m args meth c D tys A own cc nL) {k : Fin 4} {i : Nat} {x : Int64} (hdg : decode cc pc = .ok (.lload_n k, 1)) (hi : (k : Nat) = i) (j : Nat) (hj : L[j]? = some (i, .long x)) (kk : zK p l e R s m args below meth c D A nL Q cells slots (pc + 1) L (.long x :: st) B) : zK p l e R s m args below meth c D A nL Q cells slots pc L st B := fun H locs ls hP hD hS hl => lv_lload_n C.1 C.2.1 hdg hi (lv_at hl j hj) (kk H locs ls hP hD hS hl)
theorem z_lload (C : zX p s m args meth c D tys A own cc nL) {i : Nat} {x : Int64} (hdg : decode cc pc = .ok (.lload i, 2)) (j : Nat) (hj : L[j]? = some (i, .long x)) (kk : zK p l e R s m args below meth c D A nL Q cells slots (pc + 2) L (.long x :: st) B) : zK p l e R s m args below meth c D A nL Q cells slots pc L st B := fun H locs ls hP hD hS hl => lv_lload C.1 C.2.1 hdg (lv_at hl j hj) (kk H locs ls hP hD hS hl)
theorem z_lstore_n (C : zX p s m args meth c D tys A own cc nL) {k : Fin 4} {i : Nat} {x : Int64} (hdg : decode cc pc = .ok (.lstore_n k, 1)) (hi : (k : Nat) = i) (hn : i + 1 < nL) (hL : (i, Value.long x) :: L.filter (fun q => !(q.1 == i) && (!(q.1 == i + 1) && !(q.1 + 1 == i && q.2.category == 2))) = L') (kk : zK p l e R s m args below meth c D A nL Q cells slots (pc + 1) L' st B) : zK p l e R s m args below meth c D A nL Q cells slots pc L (.long x :: st) B := fun H locs ls hP hD hS hl => lv_lstore_n C.1 C.2.1 hdg hi hl hn hL (fun ls hl => kk H locs ls hP hD hS hl)
theorem z_lstore (C : zX p s m args meth c D tys A own cc nL) {i : Nat} {x : Int64} (hdg : decode cc pc = .ok (.lstore i, 2)) (hn : i + 1 < nL) (hL : (i, Value.long x) :: L.filter (fun q => !(q.1 == i) && (!(q.1 == i + 1) && !(q.1 + 1 == i && q.2.category == 2))) = L') (kk : zK p l e R s m args below meth c D A nL Q cells slots (pc + 2) L' st B) : zK p l e R s m args below meth c D A nL Q cells slots pc L (.long x :: st) B := fun H locs ls hP hD hS hl => lv_lstore C.1 C.2.1 hdg hl hn hL (fun ls hl => kk H locs ls hP hD hS hl)
theorem z_aload_n (C : zX p s m args meth c D tys A own cc nL) {k : Fin 4} {i : Nat} {x : Nat} (hdg : decode cc pc = .ok (.aload_n k, 1)) (hi : (k : Nat) = i) (j : Nat) (hj : L[j]? = some (i, .ref x)) (kk : zK p l e R s m args below meth c D A nL Q cells slots (pc + 1) L (.ref x :: st) B) : zK p l e R s m args below meth c D A nL Q cells slots pc L st B := fun H locs ls hP hD hS hl => lv_aload_n C.1 C.2.1 hdg hi (lv_at hl j hj) (kk H locs ls hP hD hS hl)
theorem z_aload (C : zX p s m args meth c D tys A own cc nL) {i : Nat} {x : Nat} (hdg : decode cc pc = .ok (.aload i, 2)) (j : Nat) (hj : L[j]? = some (i, .ref x)) (kk : zK p l e R s m args below meth c D A nL Q cells slots (pc + 2) L (.ref x :: st) B) : zK p l e R s m args below meth c D A nL Q cells slots pc L st B := fun H locs ls hP hD hS hl => lv_aload C.1 C.2.1 hdg (lv_at hl j hj) (kk H locs ls hP hD hS hl)
theorem z_astore_n (C : zX p s m args meth c D tys A own cc nL) {k : Fin 4} {i : Nat} {x : Nat} (hdg : decode cc pc = .ok (.astore_n k, 1)) (hi : (k : Nat) = i) (hn : i < nL) (hL : (i, Value.ref x) :: L.filter (fun q => !(q.1 == i) && !(q.1 + 1 == i && q.2.category == 2)) = L') (kk : zK p l e R s m args below meth c D A nL Q cells slots (pc + 1) L' st B) : zK p l e R s m args below meth c D A nL Q cells slots pc L (.ref x :: st) B := fun H locs ls hP hD hS hl => lv_astore_n C.1 C.2.1 hdg hi hl hn hL (fun ls hl => kk H locs ls hP hD hS hl)
theorem z_astore (C : zX p s m args meth c D tys A own cc nL) {i : Nat} {x : Nat} (hdg : decode cc pc = .ok (.astore i, 2)) (hn : i < nL) (hL : (i, Value.ref x) :: L.filter (fun q => !(q.1 == i) && !(q.1 + 1 == i && q.2.category == 2)) = L') (kk : zK p l e R s m args below meth c D A nL Q cells slots (pc + 2) L' st B) : zK p l e R s m args below meth c D A nL Q cells slots pc L (.ref x :: st) B := fun H locs ls hP hD hS hl => lv_astore C.1 C.2.1 hdg hl hn hL (fun ls hl => kk H locs ls hP hD hS hl)
theorem z_dload_n (C : zX p s m args meth c D tys A own cc nL) {k : Fin 4} {i : Nat} {x : UInt64} (hdg : decode cc pc = .ok (.dload_n k, 1)) (hi : (k : Nat) = i) (j : Nat) (hj : L[j]? = some (i, .double x)) (kk : zK p l e R s m args below meth c D A nL Q cells slots (pc + 1) L (.double x :: st) B) : zK p l e R s m args below meth c D A nL Q cells slots pc L st B := fun H locs ls hP hD hS hl => lv_dload_n C.1 C.2.1 hdg hi (lv_at hl j hj) (kk H locs ls hP hD hS hl)
theorem z_dload (C : zX p s m args meth c D tys A own cc nL) {i : Nat} {x : UInt64} (hdg : decode cc pc = .ok (.dload i, 2)) (j : Nat) (hj : L[j]? = some (i, .double x)) (kk : zK p l e R s m args below meth c D A nL Q cells slots (pc + 2) L (.double x :: st) B) : zK p l e R s m args below meth c D A nL Q cells slots pc L st B := fun H locs ls hP hD hS hl => lv_dload C.1 C.2.1 hdg (lv_at hl j hj) (kk H locs ls hP hD hS hl)
theorem z_dstore_n (C : zX p s m args meth c D tys A own cc nL) {k : Fin 4} {i : Nat} {x : UInt64} (hdg : decode cc pc = .ok (.dstore_n k, 1)) (hi : (k : Nat) = i) (hn : i + 1 < nL) (hL : (i, Value.double x) :: L.filter (fun q => !(q.1 == i) && (!(q.1 == i + 1) && !(q.1 + 1 == i && q.2.category == 2))) = L') (kk : zK p l e R s m args below meth c D A nL Q cells slots (pc + 1) L' st B) : zK p l e R s m args below meth c D A nL Q cells slots pc L (.double x :: st) B := fun H locs ls hP hD hS hl => lv_dstore_n C.1 C.2.1 hdg hi hl hn hL (fun ls hl => kk H locs ls hP hD hS hl)
theorem z_dstore (C : zX p s m args meth c D tys A own cc nL) {i : Nat} {x : UInt64} (hdg : decode cc pc = .ok (.dstore i, 2)) (hn : i + 1 < nL) (hL : (i, Value.double x) :: L.filter (fun q => !(q.1 == i) && (!(q.1 == i + 1) && !(q.1 + 1 == i && q.2.category == 2))) = L') (kk : zK p l e R s m args below meth c D A nL Q cells slots (pc + 2) L' st B) : zK p l e R s m args below meth c D A nL Q cells slots pc L (.double x :: st) B := fun H locs ls hP hD hS hl => lv_dstore C.1 C.2.1 hdg hl hn hL (fun ls hl => kk H locs ls hP hD hS hl)
theorem z_iinc (C : zX p s m args meth c D tys A own cc nL) {i : Nat} {n : Int} {x v : Int32} (hdg : decode cc pc = .ok (.iinc i n, 3)) (j : Nat) (hj : L[j]? = some (i, .int x)) (hv : x + Int32.ofInt n = v) (hn : i < nL) (hL : (i, Value.int v) :: L.filter (fun q => !(q.1 == i) && !(q.1 + 1 == i && q.2.category == 2)) = L') (kk : zK p l e R s m args below meth c D A nL Q cells slots (pc + 3) L' st B) : zK p l e R s m args below meth c D A nL Q cells slots pc L st B := fun H locs ls hP hD hS hl => lv_iinc (k := j) C.1 C.2.1 hdg hl hj hv hn hL (fun ls hl => kk H locs ls hP hD hS hl)
theorem z_inc1 (a : Nat) : nI a + Int32.ofInt 1 = nI (a + 1) := (nI_1 a)
theorem z_dec1 {a : Nat} (h : 1 ≤ a) : nI a + Int32.ofInt (-1) = nI (a - 1) := sb_m1 h
theorem z_iadd (C : zX p s m args meth c D tys A own cc nL) {x y : Int32} (hdg : decode cc pc = .ok (.iadd, 1)) (k : zK p l e R s m args below meth c D A nL Q cells slots (pc + 1) L (.int (x + y) :: st) B) : zK p l e R s m args below meth c D A nL Q cells slots pc L (.int y :: .int x :: st) B := fun H locs ls hP hD hS hl => lv_iadd C.1 C.2.1 hdg (k H locs ls hP hD hS hl)
theorem z_isub (C : zX p s m args meth c D tys A own cc nL) {x y : Int32} (hdg : decode cc pc = .ok (.isub, 1)) (k : zK p l e R s m args below meth c D A nL Q cells slots (pc + 1) L (.int (x - y) :: st) B) : zK p l e R s m args below meth c D A nL Q cells slots pc L (.int y :: .int x :: st) B := fun H locs ls hP hD hS hl => lv_isub C.1 C.2.1 hdg (k H locs ls hP hD hS hl)
theorem z_imul (C : zX p s m args meth c D tys A own cc nL) {x y : Int32} (hdg : decode cc pc = .ok (.imul, 1)) (k : zK p l e R s m args below meth c D A nL Q cells slots (pc + 1) L (.int (x * y) :: st) B) : zK p l e R s m args below meth c D A nL Q cells slots pc L (.int y :: .int x :: st) B := fun H locs ls hP hD hS hl => lv_imul C.1 C.2.1 hdg (k H locs ls hP hD hS hl)
theorem z_iand (C : zX p s m args meth c D tys A own cc nL) {x y : Int32} (hdg : decode cc pc = .ok (.iand, 1)) (k : zK p l e R s m args below meth c D A nL Q cells slots (pc + 1) L (.int (x &&& y) :: st) B) : zK p l e R s m args below meth c D A nL Q cells slots pc L (.int y :: .int x :: st) B := fun H locs ls hP hD hS hl => lv_iand C.1 C.2.1 hdg (k H locs ls hP hD hS hl)
theorem z_ladd (C : zX p s m args meth c D tys A own cc nL) {x y : Int64} (hdg : decode cc pc = .ok (.ladd, 1)) (k : zK p l e R s m args below meth c D A nL Q cells slots (pc + 1) L (.long (x + y) :: st) B) : zK p l e R s m args below meth c D A nL Q cells slots pc L (.long y :: .long x :: st) B := fun H locs ls hP hD hS hl => lv_ladd C.1 C.2.1 hdg (k H locs ls hP hD hS hl)
theorem z_lmul (C : zX p s m args meth c D tys A own cc nL) {x y : Int64} (hdg : decode cc pc = .ok (.lmul, 1)) (k : zK p l e R s m args below meth c D A nL Q cells slots (pc + 1) L (.long (x * y) :: st) B) : zK p l e R s m args below meth c D A nL Q cells slots pc L (.long y :: .long x :: st) B := fun H locs ls hP hD hS hl => lv_lmul C.1 C.2.1 hdg (k H locs ls hP hD hS hl)
theorem z_idiv (C : zX p s m args meth c D tys A own cc nL) {x y : Int32} (hne : ¬ y = 0) (hdg : decode cc pc = .ok (.idiv, 1)) (k : zK p l e R s m args below meth c D A nL Q cells slots (pc + 1) L (.int (x / y) :: st) B) : zK p l e R s m args below meth c D A nL Q cells slots pc L (.int y :: .int x :: st) B := fun H locs ls hP hD hS hl => lv_idiv C.1 C.2.1 hdg hne (k H locs ls hP hD hS hl)
theorem z_i2l (C : zX p s m args meth c D tys A own cc nL) {x : Int32} {v : Int64} (hv : x.toInt64 = v) (hdg : decode cc pc = .ok (.i2l, 1)) (k : zK p l e R s m args below meth c D A nL Q cells slots (pc + 1) L (.long v :: st) B) : zK p l e R s m args below meth c D A nL Q cells slots pc L (.int x :: st) B := fun H locs ls hP hD hS hl => lv_i2l C.1 C.2.1 hdg hv (k H locs ls hP hD hS hl)
theorem z_i2d (C : zX p s m args meth c D tys A own cc nL) {x : Int32} (hdg : decode cc pc = .ok (.i2d, 1)) (k : zK p l e R s m args below meth c D A nL Q cells slots (pc + 1) L (.double (FP.i2d x) :: st) B) : zK p l e R s m args below meth c D A nL Q cells slots pc L (.int x :: st) B := fun H locs ls hP hD hS hl => lv_i2d C.1 C.2.1 hdg (k H locs ls hP hD hS hl)
theorem z_ddiv (C : zX p s m args meth c D tys A own cc nL) {x y : UInt64} (hne : vf_n64 (FP.ddiv x y)) (hdg : decode cc pc = .ok (.ddiv, 1)) (k : zK p l e R s m args below meth c D A nL Q cells slots (pc + 1) L (.double (FP.ddiv x y) :: st) B) : zK p l e R s m args below meth c D A nL Q cells slots pc L (.double y :: .double x :: st) B := fun H locs ls hP hD hS hl => lv_ddiv C.1 C.2.1 hdg hne (k H locs ls hP hD hS hl)
theorem z_dcmp (C : zX p s m args meth c D tys A own cc nL) {x y : UInt64} {op : CmpOp} (hdg : decode cc pc = .ok (.dcmp op, 1)) (k : zK p l e R s m args below meth c D A nL Q cells slots (pc + 1) L (.int (Op.cmpValue (FP.dcmp x y) op) :: st) B) : zK p l e R s m args below meth c D A nL Q cells slots pc L (.double y :: .double x :: st) B := fun H locs ls hP hD hS hl => lv_dcmp C.1 C.2.1 hdg (k H locs ls hP hD hS hl)
theorem z_dconst0 (C : zX p s m args meth c D tys A own cc nL)  (hdg : decode cc pc = .ok (.dconst 0, 1)) (k : zK p l e R s m args below meth c D A nL Q cells slots (pc + 1) L (.double FP.dconst0 :: st) B) : zK p l e R s m args below meth c D A nL Q cells slots pc L (st) B := fun H locs ls hP hD hS hl => lv_dconst0 C.1 C.2.1 hdg (k H locs ls hP hD hS hl)
theorem z_lcmp (C : zX p s m args meth c D tys A own cc nL) {x y : Int64} (hdg : decode cc pc = .ok (.lcmp, 1)) (k : zK p l e R s m args below meth c D A nL Q cells slots (pc + 1) L (.int (lg_cmp x y) :: st) B) : zK p l e R s m args below meth c D A nL Q cells slots pc L (.long y :: .long x :: st) B := fun H locs ls hP hD hS hl => W.lcmp C.1 C.2.1 hdg (k H locs ls hP hD hS hl)
theorem z_dup (C : zX p s m args meth c D tys A own cc nL) {va : Value} (hva : va.category = 1) (hdg : decode cc pc = .ok (.dup, 1)) (k : zK p l e R s m args below meth c D A nL Q cells slots (pc + 1) L (va :: va :: st) B) : zK p l e R s m args below meth c D A nL Q cells slots pc L (va :: st) B := fun H locs ls hP hD hS hl => lv_dup C.1 C.2.1 hdg hva (k H locs ls hP hD hS hl)
theorem z_dup2 (C : zX p s m args meth c D tys A own cc nL) {va vb : Value} (hva : va.category = 1) (hvb : vb.category = 1) (hdg : decode cc pc = .ok (.dup2, 1)) (k : zK p l e R s m args below meth c D A nL Q cells slots (pc + 1) L (va :: vb :: va :: vb :: st) B) : zK p l e R s m args below meth c D A nL Q cells slots pc L (va :: vb :: st) B := fun H locs ls hP hD hS hl => lv_dup2_11 C.1 C.2.1 hdg hva hvb (k H locs ls hP hD hS hl)
theorem z_ldc2 (C : zX p s m args meth c D tys A own cc nL) {index : Nat} {v : Int64} (hw : Jvm.Cond.constantLong own index v ∈ lw_all) (hdg : decode cc pc = .ok (.ldc2_w index, 3)) (k : zK p l e R s m args below meth c D A nL Q cells slots (pc + 3) L (.long v :: st) B) : zK p l e R s m args below meth c D A nL Q cells slots pc L st B := fun H locs ls hP hD hS hl => lv_ldc2 C.1 C.2.1 C.2.2.2.1 (C.2.2.2.2.1 _ hw) hdg (k H locs ls hP hD hS hl)
theorem z_goto (C : zX p s m args meth c D tys A own cc nL) {off : Int} {tgt : Nat} (hdg : decode cc pc = .ok (.goto off, 3)) (ht : (pc : Int) + off = (tgt : Int)) (k : zK p l e R s m args below meth c D A nL Q cells slots tgt L st B) : zK p l e R s m args below meth c D A nL Q cells slots pc L st B := fun H locs ls hP hD hS hl => lv_goto C.1 C.2.1 hdg ht (k H locs ls hP hD hS hl)
theorem z_if_eq (C : zX p s m args meth c D tys A own cc nL) {x : Int32} {off : Int} {tgt : Nat} (hdg : decode cc pc = .ok (.ifCond .eq off, 3)) (ht : (pc : Int) + off = (tgt : Int)) (kt : x = 0 → zK p l e R s m args below meth c D A nL Q cells slots tgt L st B) (kf : ¬ x = 0 → zK p l e R s m args below meth c D A nL Q cells slots (pc + 3) L st B) : zK p l e R s m args below meth c D A nL Q cells slots pc L (.int x :: st) B := fun H locs ls hP hD hS hl => lv_if_eq C.1 C.2.1 hdg ht (fun h => kt h H locs ls hP hD hS hl) (fun h => kf h H locs ls hP hD hS hl)
theorem z_icmp_eq (C : zX p s m args meth c D tys A own cc nL) {x y : Int32} {off : Int} {tgt : Nat} (hdg : decode cc pc = .ok (.if_icmp .eq off, 3)) (ht : (pc : Int) + off = (tgt : Int)) (kt : x = y → zK p l e R s m args below meth c D A nL Q cells slots tgt L st B) (kf : ¬ x = y → zK p l e R s m args below meth c D A nL Q cells slots (pc + 3) L st B) : zK p l e R s m args below meth c D A nL Q cells slots pc L (.int y :: .int x :: st) B := fun H locs ls hP hD hS hl => lv_icmp_eq C.1 C.2.1 hdg ht (fun h => kt h H locs ls hP hD hS hl) (fun h => kf h H locs ls hP hD hS hl)
theorem z_icmp_eqN (C : zX p s m args meth c D tys A own cc nL) {a b : Nat} {off : Int} {tgt : Nat} (hdg : decode cc pc = .ok (.if_icmp .eq off, 3)) (ht : (pc : Int) + off = (tgt : Int)) (ha : a < 2 ^ 31) (hb : b < 2 ^ 31) (kt : a = b → zK p l e R s m args below meth c D A nL Q cells slots tgt L st B) (kf : a ≠ b → zK p l e R s m args below meth c D A nL Q cells slots (pc + 3) L st B) : zK p l e R s m args below meth c D A nL Q cells slots pc L (.int (nI b) :: .int (nI a) :: st) B := z_icmp_eq C hdg ht (fun h => kt ((nI_eq ha hb).mp h)) (fun h => kf (fun q => h ((nI_eq ha hb).mpr q)))
theorem z_if_ne (C : zX p s m args meth c D tys A own cc nL) {x : Int32} {off : Int} {tgt : Nat} (hdg : decode cc pc = .ok (.ifCond .ne off, 3)) (ht : (pc : Int) + off = (tgt : Int)) (kt : ¬ x = 0 → zK p l e R s m args below meth c D A nL Q cells slots tgt L st B) (kf : x = 0 → zK p l e R s m args below meth c D A nL Q cells slots (pc + 3) L st B) : zK p l e R s m args below meth c D A nL Q cells slots pc L (.int x :: st) B := fun H locs ls hP hD hS hl => lv_if_ne C.1 C.2.1 hdg ht (fun h => kt h H locs ls hP hD hS hl) (fun h => kf h H locs ls hP hD hS hl)
theorem z_icmp_ne (C : zX p s m args meth c D tys A own cc nL) {x y : Int32} {off : Int} {tgt : Nat} (hdg : decode cc pc = .ok (.if_icmp .ne off, 3)) (ht : (pc : Int) + off = (tgt : Int)) (kt : ¬ x = y → zK p l e R s m args below meth c D A nL Q cells slots tgt L st B) (kf : x = y → zK p l e R s m args below meth c D A nL Q cells slots (pc + 3) L st B) : zK p l e R s m args below meth c D A nL Q cells slots pc L (.int y :: .int x :: st) B := fun H locs ls hP hD hS hl => lv_icmp_ne C.1 C.2.1 hdg ht (fun h => kt h H locs ls hP hD hS hl) (fun h => kf h H locs ls hP hD hS hl)
theorem z_icmp_neN (C : zX p s m args meth c D tys A own cc nL) {a b : Nat} {off : Int} {tgt : Nat} (hdg : decode cc pc = .ok (.if_icmp .ne off, 3)) (ht : (pc : Int) + off = (tgt : Int)) (ha : a < 2 ^ 31) (hb : b < 2 ^ 31) (kt : a ≠ b → zK p l e R s m args below meth c D A nL Q cells slots tgt L st B) (kf : a = b → zK p l e R s m args below meth c D A nL Q cells slots (pc + 3) L st B) : zK p l e R s m args below meth c D A nL Q cells slots pc L (.int (nI b) :: .int (nI a) :: st) B := z_icmp_ne C hdg ht (fun h => kt (fun q => h ((nI_eq ha hb).mpr q))) (fun h => kf ((nI_eq ha hb).mp h))
theorem z_if_lt (C : zX p s m args meth c D tys A own cc nL) {x : Int32} {off : Int} {tgt : Nat} (hdg : decode cc pc = .ok (.ifCond .lt off, 3)) (ht : (pc : Int) + off = (tgt : Int)) (kt : x < 0 → zK p l e R s m args below meth c D A nL Q cells slots tgt L st B) (kf : ¬ x < 0 → zK p l e R s m args below meth c D A nL Q cells slots (pc + 3) L st B) : zK p l e R s m args below meth c D A nL Q cells slots pc L (.int x :: st) B := fun H locs ls hP hD hS hl => lv_if_lt C.1 C.2.1 hdg ht (fun h => kt h H locs ls hP hD hS hl) (fun h => kf h H locs ls hP hD hS hl)
theorem z_icmp_lt (C : zX p s m args meth c D tys A own cc nL) {x y : Int32} {off : Int} {tgt : Nat} (hdg : decode cc pc = .ok (.if_icmp .lt off, 3)) (ht : (pc : Int) + off = (tgt : Int)) (kt : x < y → zK p l e R s m args below meth c D A nL Q cells slots tgt L st B) (kf : ¬ x < y → zK p l e R s m args below meth c D A nL Q cells slots (pc + 3) L st B) : zK p l e R s m args below meth c D A nL Q cells slots pc L (.int y :: .int x :: st) B := fun H locs ls hP hD hS hl => lv_icmp_lt C.1 C.2.1 hdg ht (fun h => kt h H locs ls hP hD hS hl) (fun h => kf h H locs ls hP hD hS hl)
theorem z_icmp_ltN (C : zX p s m args meth c D tys A own cc nL) {a b : Nat} {off : Int} {tgt : Nat} (hdg : decode cc pc = .ok (.if_icmp .lt off, 3)) (ht : (pc : Int) + off = (tgt : Int)) (ha : a < 2 ^ 31) (hb : b < 2 ^ 31) (kt : a < b → zK p l e R s m args below meth c D A nL Q cells slots tgt L st B) (kf : b ≤ a → zK p l e R s m args below meth c D A nL Q cells slots (pc + 3) L st B) : zK p l e R s m args below meth c D A nL Q cells slots pc L (.int (nI b) :: .int (nI a) :: st) B := z_icmp_lt C hdg ht (fun h => kt ((nI_ltI ha hb).mp h)) (fun h => kf (Nat.le_of_not_lt fun q => h ((nI_ltI ha hb).mpr q)))
theorem z_if_ge (C : zX p s m args meth c D tys A own cc nL) {x : Int32} {off : Int} {tgt : Nat} (hdg : decode cc pc = .ok (.ifCond .ge off, 3)) (ht : (pc : Int) + off = (tgt : Int)) (kt : 0 ≤ x → zK p l e R s m args below meth c D A nL Q cells slots tgt L st B) (kf : ¬ 0 ≤ x → zK p l e R s m args below meth c D A nL Q cells slots (pc + 3) L st B) : zK p l e R s m args below meth c D A nL Q cells slots pc L (.int x :: st) B := fun H locs ls hP hD hS hl => lv_if_ge C.1 C.2.1 hdg ht (fun h => kt h H locs ls hP hD hS hl) (fun h => kf h H locs ls hP hD hS hl)
theorem z_icmp_ge (C : zX p s m args meth c D tys A own cc nL) {x y : Int32} {off : Int} {tgt : Nat} (hdg : decode cc pc = .ok (.if_icmp .ge off, 3)) (ht : (pc : Int) + off = (tgt : Int)) (kt : y ≤ x → zK p l e R s m args below meth c D A nL Q cells slots tgt L st B) (kf : ¬ y ≤ x → zK p l e R s m args below meth c D A nL Q cells slots (pc + 3) L st B) : zK p l e R s m args below meth c D A nL Q cells slots pc L (.int y :: .int x :: st) B := fun H locs ls hP hD hS hl => lv_icmp_ge C.1 C.2.1 hdg ht (fun h => kt h H locs ls hP hD hS hl) (fun h => kf h H locs ls hP hD hS hl)
theorem z_icmp_geN (C : zX p s m args meth c D tys A own cc nL) {a b : Nat} {off : Int} {tgt : Nat} (hdg : decode cc pc = .ok (.if_icmp .ge off, 3)) (ht : (pc : Int) + off = (tgt : Int)) (ha : a < 2 ^ 31) (hb : b < 2 ^ 31) (kt : b ≤ a → zK p l e R s m args below meth c D A nL Q cells slots tgt L st B) (kf : a < b → zK p l e R s m args below meth c D A nL Q cells slots (pc + 3) L st B) : zK p l e R s m args below meth c D A nL Q cells slots pc L (.int (nI b) :: .int (nI a) :: st) B := z_icmp_ge C hdg ht (fun h => kt ((nI_leI hb ha).mp h)) (fun h => kf (Nat.lt_of_not_le fun q => h ((nI_leI hb ha).mpr q)))
theorem z_if_gt (C : zX p s m args meth c D tys A own cc nL) {x : Int32} {off : Int} {tgt : Nat} (hdg : decode cc pc = .ok (.ifCond .gt off, 3)) (ht : (pc : Int) + off = (tgt : Int)) (kt : 0 < x → zK p l e R s m args below meth c D A nL Q cells slots tgt L st B) (kf : ¬ 0 < x → zK p l e R s m args below meth c D A nL Q cells slots (pc + 3) L st B) : zK p l e R s m args below meth c D A nL Q cells slots pc L (.int x :: st) B := fun H locs ls hP hD hS hl => lv_if_gt C.1 C.2.1 hdg ht (fun h => kt h H locs ls hP hD hS hl) (fun h => kf h H locs ls hP hD hS hl)
theorem z_icmp_gt (C : zX p s m args meth c D tys A own cc nL) {x y : Int32} {off : Int} {tgt : Nat} (hdg : decode cc pc = .ok (.if_icmp .gt off, 3)) (ht : (pc : Int) + off = (tgt : Int)) (kt : y < x → zK p l e R s m args below meth c D A nL Q cells slots tgt L st B) (kf : ¬ y < x → zK p l e R s m args below meth c D A nL Q cells slots (pc + 3) L st B) : zK p l e R s m args below meth c D A nL Q cells slots pc L (.int y :: .int x :: st) B := fun H locs ls hP hD hS hl => lv_icmp_gt C.1 C.2.1 hdg ht (fun h => kt h H locs ls hP hD hS hl) (fun h => kf h H locs ls hP hD hS hl)
theorem z_icmp_gtN (C : zX p s m args meth c D tys A own cc nL) {a b : Nat} {off : Int} {tgt : Nat} (hdg : decode cc pc = .ok (.if_icmp .gt off, 3)) (ht : (pc : Int) + off = (tgt : Int)) (ha : a < 2 ^ 31) (hb : b < 2 ^ 31) (kt : b < a → zK p l e R s m args below meth c D A nL Q cells slots tgt L st B) (kf : a ≤ b → zK p l e R s m args below meth c D A nL Q cells slots (pc + 3) L st B) : zK p l e R s m args below meth c D A nL Q cells slots pc L (.int (nI b) :: .int (nI a) :: st) B := z_icmp_gt C hdg ht (fun h => kt ((nI_ltI hb ha).mp h)) (fun h => kf (Nat.le_of_not_lt fun q => h ((nI_ltI hb ha).mpr q)))
theorem z_if_le (C : zX p s m args meth c D tys A own cc nL) {x : Int32} {off : Int} {tgt : Nat} (hdg : decode cc pc = .ok (.ifCond .le off, 3)) (ht : (pc : Int) + off = (tgt : Int)) (kt : x ≤ 0 → zK p l e R s m args below meth c D A nL Q cells slots tgt L st B) (kf : ¬ x ≤ 0 → zK p l e R s m args below meth c D A nL Q cells slots (pc + 3) L st B) : zK p l e R s m args below meth c D A nL Q cells slots pc L (.int x :: st) B := fun H locs ls hP hD hS hl => lv_if_le C.1 C.2.1 hdg ht (fun h => kt h H locs ls hP hD hS hl) (fun h => kf h H locs ls hP hD hS hl)
theorem z_icmp_le (C : zX p s m args meth c D tys A own cc nL) {x y : Int32} {off : Int} {tgt : Nat} (hdg : decode cc pc = .ok (.if_icmp .le off, 3)) (ht : (pc : Int) + off = (tgt : Int)) (kt : x ≤ y → zK p l e R s m args below meth c D A nL Q cells slots tgt L st B) (kf : ¬ x ≤ y → zK p l e R s m args below meth c D A nL Q cells slots (pc + 3) L st B) : zK p l e R s m args below meth c D A nL Q cells slots pc L (.int y :: .int x :: st) B := fun H locs ls hP hD hS hl => lv_icmp_le C.1 C.2.1 hdg ht (fun h => kt h H locs ls hP hD hS hl) (fun h => kf h H locs ls hP hD hS hl)
theorem z_icmp_leN (C : zX p s m args meth c D tys A own cc nL) {a b : Nat} {off : Int} {tgt : Nat} (hdg : decode cc pc = .ok (.if_icmp .le off, 3)) (ht : (pc : Int) + off = (tgt : Int)) (ha : a < 2 ^ 31) (hb : b < 2 ^ 31) (kt : a ≤ b → zK p l e R s m args below meth c D A nL Q cells slots tgt L st B) (kf : b < a → zK p l e R s m args below meth c D A nL Q cells slots (pc + 3) L st B) : zK p l e R s m args below meth c D A nL Q cells slots pc L (.int (nI b) :: .int (nI a) :: st) B := z_icmp_le C hdg ht (fun h => kt ((nI_leI ha hb).mp h)) (fun h => kf (Nat.lt_of_not_le fun q => h ((nI_leI ha hb).mpr q)))
def zb (b : Bool) : Int32 := if b = true then nI 1 else nI 0
theorem zb_0 {b : Bool} : zb b = 0 ↔ b = false := by cases b <;> decide
theorem z_b1 {x : Bool} (h : x = true) : some (Value.int (nI 1)) = some (Value.int (zb x)) := by subst h; rfl
theorem z_b0 {x : Bool} (h : x = false) : some (Value.int (nI 0)) = some (Value.int (zb x)) := by subst h; rfl
theorem nI_z {a : Nat} (h : a < 2 ^ 31) : nI a = 0 ↔ a = 0 := (nI_eq h (Nat.lt_of_sub_ne_zero (by decide)) : nI a = nI 0 ↔ a = 0)
theorem z_if_eqN (C : zX p s m args meth c D tys A own cc nL) {a : Nat} {off : Int} {tgt : Nat} (hdg : decode cc pc = .ok (.ifCond .eq off, 3)) (ht : (pc : Int) + off = (tgt : Int)) (ha : a < 2 ^ 31) (kt : a = 0 → zK p l e R s m args below meth c D A nL Q cells slots tgt L st B) (kf : 0 < a → zK p l e R s m args below meth c D A nL Q cells slots (pc + 3) L st B) : zK p l e R s m args below meth c D A nL Q cells slots pc L (.int (nI a) :: st) B := z_if_eq C hdg ht (fun h => kt ((nI_z ha).mp h)) (fun h => kf (Nat.pos_of_ne_zero fun q => h ((nI_z ha).mpr q)))
theorem z_if_neN (C : zX p s m args meth c D tys A own cc nL) {a : Nat} {off : Int} {tgt : Nat} (hdg : decode cc pc = .ok (.ifCond .ne off, 3)) (ht : (pc : Int) + off = (tgt : Int)) (ha : a < 2 ^ 31) (kt : 0 < a → zK p l e R s m args below meth c D A nL Q cells slots tgt L st B) (kf : a = 0 → zK p l e R s m args below meth c D A nL Q cells slots (pc + 3) L st B) : zK p l e R s m args below meth c D A nL Q cells slots pc L (.int (nI a) :: st) B := z_if_ne C hdg ht (fun h => kt (Nat.pos_of_ne_zero fun q => h ((nI_z ha).mpr q))) (fun h => kf ((nI_z ha).mp h))
theorem z_if_leN (C : zX p s m args meth c D tys A own cc nL) {a : Nat} {off : Int} {tgt : Nat} (hdg : decode cc pc = .ok (.ifCond .le off, 3)) (ht : (pc : Int) + off = (tgt : Int)) (ha : a < 2 ^ 31) (kt : a = 0 → zK p l e R s m args below meth c D A nL Q cells slots tgt L st B) (kf : 0 < a → zK p l e R s m args below meth c D A nL Q cells slots (pc + 3) L st B) : zK p l e R s m args below meth c D A nL Q cells slots pc L (.int (nI a) :: st) B := z_if_le C hdg ht (fun h => kt (Nat.eq_zero_of_le_zero ((nI_leI ha (b := 0) (by decide)).mp h))) (fun h => kf (Nat.pos_of_ne_zero fun q => h ((nI_leI ha (b := 0) (by decide)).mpr (Nat.le_of_eq q))))
theorem z_if_gtN (C : zX p s m args meth c D tys A own cc nL) {a : Nat} {off : Int} {tgt : Nat} (hdg : decode cc pc = .ok (.ifCond .gt off, 3)) (ht : (pc : Int) + off = (tgt : Int)) (ha : a < 2 ^ 31) (kt : 0 < a → zK p l e R s m args below meth c D A nL Q cells slots tgt L st B) (kf : a = 0 → zK p l e R s m args below meth c D A nL Q cells slots (pc + 3) L st B) : zK p l e R s m args below meth c D A nL Q cells slots pc L (.int (nI a) :: st) B := z_if_gt C hdg ht (fun h => kt ((nI_ltI (a := 0) (by decide) ha).mp h)) (fun h => kf (Nat.eq_zero_of_not_pos fun q => h ((nI_ltI (a := 0) (by decide) ha).mpr q)))
theorem z_if_ltN (C : zX p s m args meth c D tys A own cc nL) {a : Nat} {off : Int} (hdg : decode cc pc = .ok (.ifCond .lt off, 3)) {tgt : Nat} (ht : (pc : Int) + off = (tgt : Int)) (ha : a < 2 ^ 31) (kf : zK p l e R s m args below meth c D A nL Q cells slots (pc + 3) L st B) : zK p l e R s m args below meth c D A nL Q cells slots pc L (.int (nI a) :: st) B := z_if_lt C hdg ht (fun h => absurd h (nI_pos ha)) (fun _ => kf)
theorem z_if_geN (C : zX p s m args meth c D tys A own cc nL) {a : Nat} {off : Int} {tgt : Nat} (hdg : decode cc pc = .ok (.ifCond .ge off, 3)) (ht : (pc : Int) + off = (tgt : Int)) (ha : a < 2 ^ 31) (kt : zK p l e R s m args below meth c D A nL Q cells slots tgt L st B) : zK p l e R s m args below meth c D A nL Q cells slots pc L (.int (nI a) :: st) B := z_if_ge C hdg ht (fun _ => kt) (fun h => absurd (nI_pos' ha) h)
theorem z_if_eqB (C : zX p s m args meth c D tys A own cc nL) {b : Bool} {off : Int} {tgt : Nat} (hdg : decode cc pc = .ok (.ifCond .eq off, 3)) (ht : (pc : Int) + off = (tgt : Int)) (kt : b = false → zK p l e R s m args below meth c D A nL Q cells slots tgt L st B) (kf : b = true → zK p l e R s m args below meth c D A nL Q cells slots (pc + 3) L st B) : zK p l e R s m args below meth c D A nL Q cells slots pc L (.int (zb b) :: st) B := z_if_eq C hdg ht (fun h => kt (zb_0.mp h)) (fun h => kf (by cases b with | true => rfl | false => exact absurd (zb_0.mpr rfl) h))
theorem z_if_neB (C : zX p s m args meth c D tys A own cc nL) {b : Bool} {off : Int} {tgt : Nat} (hdg : decode cc pc = .ok (.ifCond .ne off, 3)) (ht : (pc : Int) + off = (tgt : Int)) (kt : b = true → zK p l e R s m args below meth c D A nL Q cells slots tgt L st B) (kf : b = false → zK p l e R s m args below meth c D A nL Q cells slots (pc + 3) L st B) : zK p l e R s m args below meth c D A nL Q cells slots pc L (.int (zb b) :: st) B := z_if_ne C hdg ht (fun h => kt (by cases b with | true => rfl | false => exact absurd (zb_0.mpr rfl) h)) (fun h => kf (zb_0.mp h))
theorem z_iaddN (C : zX p s m args meth c D tys A own cc nL) {a b : Nat} (hdg : decode cc pc = .ok (.iadd, 1)) (k : zK p l e R s m args below meth c D A nL Q cells slots (pc + 1) L (.int (nI (a + b)) :: st) B) : zK p l e R s m args below meth c D A nL Q cells slots pc L (.int (nI b) :: .int (nI a) :: st) B := z_iadd C hdg (z_top (nI_add a b) k)
theorem z_imulN (C : zX p s m args meth c D tys A own cc nL) {a b : Nat} (hdg : decode cc pc = .ok (.imul, 1)) (k : zK p l e R s m args below meth c D A nL Q cells slots (pc + 1) L (.int (nI (a * b)) :: st) B) : zK p l e R s m args below meth c D A nL Q cells slots pc L (.int (nI b) :: .int (nI a) :: st) B := z_imul C hdg (z_top (pk_mul a b) k)
theorem z_isubN (C : zX p s m args meth c D tys A own cc nL) {a b : Nat} (hdg : decode cc pc = .ok (.isub, 1)) (h : b ≤ a) (k : zK p l e R s m args below meth c D A nL Q cells slots (pc + 1) L (.int (nI (a - b)) :: st) B) : zK p l e R s m args below meth c D A nL Q cells slots pc L (.int (nI b) :: .int (nI a) :: st) B := z_isub C hdg (z_top (pk_sub h) k)
theorem z_idivN (C : zX p s m args meth c D tys A own cc nL) {a b : Nat} (hdg : decode cc pc = .ok (.idiv, 1)) (ha : a < 2 ^ 31) (h0 : 0 < b) (hb : b < 2 ^ 31) (k : zK p l e R s m args below meth c D A nL Q cells slots (pc + 1) L (.int (nI (a / b)) :: st) B) : zK p l e R s m args below meth c D A nL Q cells slots pc L (.int (nI b) :: .int (nI a) :: st) B := z_idiv C (nI_ne0 h0 hb) hdg (z_top (pk_div ha h0 hb) k)
theorem z_iald (C : zX p s m args meth c D tys A own cc nL) (b : Nat) {sh : List (Nat × zS)} {σ : zF} (hb : B[b]? = some (sh, σ)) (q t : Nat) {a n i : Nat} {cA : ClassId} (hq : sh[q]? = some (a, .inl (cA, n))) (ht : tys[t]? = some (cA, .int)) (hdg : decode cc pc = .ok (.iaload, 1)) (hi : i < n) (hn : n < 2 ^ 31) (k : zK p l e R s m args below meth c D A nL Q cells slots (pc + 1) L (.int (σ q i) :: st) B) : zK p l e R s m args below meth c D A nL Q cells slots pc L (.int (nI i) :: .ref a :: st) B := fun H locs ls hP hD hS hl => by
  obtain ⟨q0, h1, -⟩ := zW_at B b hb hq
  refine va_iald (D := D) C.1 C.2.1 C.2.2.2.2.2.1 hP q0 t h1 ht (vp_in_nI hi hn) hdg ?_
  rw [nI_clamp (Nat.lt_trans hi hn)]
  exact k H locs ls hP hD hS hl
theorem z_zald (C : zX p s m args meth c D tys A own cc nL) (b : Nat) {sh : List (Nat × zS)} {σ : zF} (hb : B[b]? = some (sh, σ)) (q t : Nat) {a n i : Nat} {cA : ClassId} (hq : sh[q]? = some (a, .inl (cA, n))) (ht : tys[t]? = some (cA, .boolean)) (hdg : decode cc pc = .ok (.baload, 1)) (hi : i < n) (hn : n < 2 ^ 31) (k : zK p l e R s m args below meth c D A nL Q cells slots (pc + 1) L (.int (σ q i) :: st) B) : zK p l e R s m args below meth c D A nL Q cells slots pc L (.int (nI i) :: .ref a :: st) B := fun H locs ls hP hD hS hl => by
  obtain ⟨q0, h1, -⟩ := zW_at B b hb hq
  refine va_zald (D := D) C.1 C.2.1 C.2.2.2.2.2.1 hP q0 t h1 ht (vp_in_nI hi hn) hdg ?_
  rw [nI_clamp (Nat.lt_trans hi hn)]
  exact k H locs ls hP hD hS hl
theorem z_iast (C : zX p s m args meth c D tys A own cc nL) (b : Nat) {sh : List (Nat × zS)} {σ : zF} (hb : B[b]? = some (sh, σ)) (q t : Nat) {a n i : Nat} {x : Int32} {cA : ClassId} (hq : sh[q]? = some (a, .inl (cA, n))) (ht : tys[t]? = some (cA, .int)) (hdg : decode cc pc = .ok (.iastore, 1)) (hi : i < n) (hn : n < 2 ^ 31) (hB : B.set b (sh, zU σ q i x) = B') (k : zK p l e R s m args below meth c D A nL Q cells slots (pc + 1) L st B') : zK p l e R s m args below meth c D A nL Q cells slots pc L (.int x :: .int (nI i) :: .ref a :: st) B := fun H locs ls hP hD hS hl => by
  obtain ⟨q0, h1, h2, -⟩ := zW_at B b hb hq
  have h3 := h2 (zU σ q i x) (.inl (cA, n, .inl (upd (σ q) i x))) (by rw [zU_eq]; rfl) (fun k' hk' => zU_ne hk')
  refine va_iast (D := D) C.1 C.2.1 C.2.2.2.2.2.1 hP hD hS q0 t h1 ht (vp_in_nI hi hn) hdg (fun H1 locs1 hP1 hD1 hS1 => ?_)
  rw [nI_clamp (Nat.lt_trans hi hn), h3, hB] at hP1 hD1
  exact k H1 locs1 ls hP1 hD1 hS1 hl
theorem z_zast (C : zX p s m args meth c D tys A own cc nL) (b : Nat) {sh : List (Nat × zS)} {σ : zF} (hb : B[b]? = some (sh, σ)) (q t : Nat) {a n i : Nat} {x : Int32} {cA : ClassId} (hq : sh[q]? = some (a, .inl (cA, n))) (ht : tys[t]? = some (cA, .boolean)) (hdg : decode cc pc = .ok (.bastore, 1)) (hi : i < n) (hn : n < 2 ^ 31) (hx : vp_nar .boolean x = x) (hB : B.set b (sh, zU σ q i x) = B') (k : zK p l e R s m args below meth c D A nL Q cells slots (pc + 1) L st B') : zK p l e R s m args below meth c D A nL Q cells slots pc L (.int x :: .int (nI i) :: .ref a :: st) B := fun H locs ls hP hD hS hl => by
  obtain ⟨q0, h1, h2, -⟩ := zW_at B b hb hq
  have h3 := h2 (zU σ q i x) (.inl (cA, n, .inl (upd (σ q) i x))) (by rw [zU_eq]; rfl) (fun k' hk' => zU_ne hk')
  refine va_zast (D := D) C.1 C.2.1 C.2.2.2.2.2.1 hP hD hS q0 t h1 ht (vp_in_nI hi hn) hdg (fun H1 locs1 hP1 hD1 hS1 => ?_)
  rw [nI_clamp (Nat.lt_trans hi hn), hx, h3, hB] at hP1 hD1
  exact k H1 locs1 ls hP1 hD1 hS1 hl
theorem z_lald (C : zX p s m args meth c D tys A own cc nL) (b : Nat) {sh : List (Nat × zS)} {σ : zF} (hb : B[b]? = some (sh, σ)) (q t : Nat) {a n i : Nat} {g : Nat → Int64} {cA : ClassId} (hq : sh[q]? = some (a, .inr (.inr (.inl (cA, n, .inr (.inl g)))))) (ht : tys[t]? = some (cA, .long)) (hdg : decode cc pc = .ok (.laload, 1)) (hi : i < n) (hn : n < 2 ^ 31) (k : zK p l e R s m args below meth c D A nL Q cells slots (pc + 1) L (.long (g i) :: st) B) : zK p l e R s m args below meth c D A nL Q cells slots pc L (.int (nI i) :: .ref a :: st) B := fun H locs ls hP hD hS hl => by
  obtain ⟨q0, h1, -⟩ := zW_at B b hb hq
  refine va_lald (D := D) C.1 C.2.1 C.2.2.2.2.2.1 hP q0 t h1 ht (vp_in_nI hi hn) hdg ?_
  rw [nI_clamp (Nat.lt_trans hi hn)]
  exact k H locs ls hP hD hS hl
theorem z_last (C : zX p s m args meth c D tys A own cc nL) (b : Nat) {sh : List (Nat × zS)} {σ : zF} (hb : B[b]? = some (sh, σ)) (q t : Nat) {a n i : Nat} {x : Int64} {g : Nat → Int64} {cA : ClassId} (hq : sh[q]? = some (a, .inr (.inr (.inl (cA, n, .inr (.inl g)))))) (ht : tys[t]? = some (cA, .long)) (hdg : decode cc pc = .ok (.lastore, 1)) (hi : i < n) (hn : n < 2 ^ 31) (hB : B.set b (sh.set q (a, .inr (.inr (.inl (cA, n, .inr (.inl (vp_updL g i x)))))), σ) = B') (k : zK p l e R s m args below meth c D A nL Q cells slots (pc + 1) L st B') : zK p l e R s m args below meth c D A nL Q cells slots pc L (.long x :: .int (nI i) :: .ref a :: st) B := fun H locs ls hP hD hS hl => by
  obtain ⟨q0, h1, -, h3⟩ := zW_at B b hb hq
  refine va_last (D := D) C.1 C.2.1 C.2.2.2.2.2.1 hP hD hS q0 t h1 ht (vp_in_nI hi hn) hdg (fun H1 locs1 hP1 hD1 hS1 => ?_)
  rw [nI_clamp (Nat.lt_trans hi hn), h3, hB] at hP1 hD1
  exact k H1 locs1 ls hP1 hD1 hS1 hl
theorem z_getI (C : zX p s m args meth c D tys A own cc nL) {Cn : String} {T : u_T} {N ci index : Nat} (hin : ∀ w ∈ u_ws Cn T N, w ∈ lw_all) (b : Nat) {sh : List (Nat × zS)} {σ : zF} (hb : B[b]? = some (sh, σ)) (q : Nat) {a : Nat} {fs : List (Option Nat)} (hq : sh[q]? = some (a, .inr (.inl (ci, fs)))) (hc : vwCl[ci]? = some (Cn, T, N)) (j : Nat) (hj : j < N) (hf : fs[j]? = some none) (hlink : Cond.fieldLink own index (T j).1 (T j).2.1 (T j).2.2.1 ∈ lw_all) (hdg : decode cc pc = .ok (.getfield index, 3)) (k : zK p l e R s m args below meth c D A nL Q cells slots (pc + 3) L (.int (σ q j) :: st) B) : zK p l e R s m args below meth c D A nL Q cells slots pc L (.ref a :: st) B := fun H locs ls hP hD hS hl => by
  obtain ⟨q0, h1, -⟩ := zW_at B b hb hq
  refine va_get (D := D) C.1 C.2.1 C.2.2.2.2.1 hin C.2.2.2.1 C.2.2.2.2.2.1 hP q0 (fs := zO 0 fs (σ q)) h1 hc j hj (C.2.2.2.2.1 _ hlink) (fun _ h9 => h9) (v := .int (σ q j)) (by rw [zO_get, hf]; simp [zV]) hdg ?_
  exact k H locs ls hP hD hS hl
theorem z_getIN (C : zX p s m args meth c D tys A own cc nL) {Cn : String} {T : u_T} {N ci index : Nat} {host : String} (hin : ∀ w ∈ u_ws Cn T N, w ∈ lw_all) (b : Nat) {sh : List (Nat × zS)} {σ : zF} (hb : B[b]? = some (sh, σ)) (q : Nat) {a : Nat} {fs : List (Option Nat)} (hq : sh[q]? = some (a, .inr (.inl (ci, fs)))) (hc : vwCl[ci]? = some (Cn, T, N)) (j : Nat) (hj : j < N) (hf : fs[j]? = some none) (hlink : Cond.fieldLinkNest own index (T j).1 (T j).2.1 (T j).2.2.1 host ∈ lw_env) (hdg : decode cc pc = .ok (.getfield index, 3)) (k : zK p l e R s m args below meth c D A nL Q cells slots (pc + 3) L (.int (σ q j) :: st) B) : zK p l e R s m args below meth c D A nL Q cells slots pc L (.ref a :: st) B := fun H locs ls hP hD hS hl => by
  obtain ⟨q0, h1, -⟩ := zW_at B b hb hq
  refine va_getN (D := D) C.1 C.2.1 C.2.2.2.2.1 hin C.2.2.2.1 C.2.2.2.2.2.1 hP q0 (fs := zO 0 fs (σ q)) h1 hc j hj ((C.2.2.2.2.2.2.2.2.1 _ hlink).use rfl) (fun _ h9 => h9) (v := .int (σ q j)) (by rw [zO_get, hf]; simp [zV]) hdg ?_
  exact k H locs ls hP hD hS hl
theorem z_getR (C : zX p s m args meth c D tys A own cc nL) {Cn : String} {T : u_T} {N ci index : Nat} (hin : ∀ w ∈ u_ws Cn T N, w ∈ lw_all) (b : Nat) {sh : List (Nat × zS)} {σ : zF} (hb : B[b]? = some (sh, σ)) (q : Nat) {a : Nat} {fs : List (Option Nat)} (hq : sh[q]? = some (a, .inr (.inl (ci, fs)))) (hc : vwCl[ci]? = some (Cn, T, N)) (j : Nat) (hj : j < N) {r : Nat} (hf : fs[j]? = some (some r)) (hlink : Cond.fieldLink own index (T j).1 (T j).2.1 (T j).2.2.1 ∈ lw_all) (hdg : decode cc pc = .ok (.getfield index, 3)) (k : zK p l e R s m args below meth c D A nL Q cells slots (pc + 3) L (.ref r :: st) B) : zK p l e R s m args below meth c D A nL Q cells slots pc L (.ref a :: st) B := fun H locs ls hP hD hS hl => by
  obtain ⟨q0, h1, -⟩ := zW_at B b hb hq
  refine va_get (D := D) C.1 C.2.1 C.2.2.2.2.1 hin C.2.2.2.1 C.2.2.2.2.2.1 hP q0 (fs := zO 0 fs (σ q)) h1 hc j hj (C.2.2.2.2.1 _ hlink) (fun _ h9 => h9) (v := .ref r) (by rw [zO_get, hf]; simp [zV]) hdg ?_
  exact k H locs ls hP hD hS hl
theorem z_getRN (C : zX p s m args meth c D tys A own cc nL) {Cn : String} {T : u_T} {N ci index : Nat} {host : String} (hin : ∀ w ∈ u_ws Cn T N, w ∈ lw_all) (b : Nat) {sh : List (Nat × zS)} {σ : zF} (hb : B[b]? = some (sh, σ)) (q : Nat) {a : Nat} {fs : List (Option Nat)} (hq : sh[q]? = some (a, .inr (.inl (ci, fs)))) (hc : vwCl[ci]? = some (Cn, T, N)) (j : Nat) (hj : j < N) {r : Nat} (hf : fs[j]? = some (some r)) (hlink : Cond.fieldLinkNest own index (T j).1 (T j).2.1 (T j).2.2.1 host ∈ lw_env) (hdg : decode cc pc = .ok (.getfield index, 3)) (k : zK p l e R s m args below meth c D A nL Q cells slots (pc + 3) L (.ref r :: st) B) : zK p l e R s m args below meth c D A nL Q cells slots pc L (.ref a :: st) B := fun H locs ls hP hD hS hl => by
  obtain ⟨q0, h1, -⟩ := zW_at B b hb hq
  refine va_getN (D := D) C.1 C.2.1 C.2.2.2.2.1 hin C.2.2.2.1 C.2.2.2.2.2.1 hP q0 (fs := zO 0 fs (σ q)) h1 hc j hj ((C.2.2.2.2.2.2.2.2.1 _ hlink).use rfl) (fun _ h9 => h9) (v := .ref r) (by rw [zO_get, hf]; simp [zV]) hdg ?_
  exact k H locs ls hP hD hS hl
theorem z_putI (C : zX p s m args meth c D tys A own cc nL) {Cn : String} {T : u_T} {N ci index : Nat} (hin : ∀ w ∈ u_ws Cn T N, w ∈ lw_all) {ty0 : Nat → FieldType} (hty : ∀ k, k < N → parseFieldDescriptor (T k).2.2.1 = some (ty0 k)) (hnm : ∀ a, a < N → ∀ b, b < N → a ≠ b → (T a).2.1 ≠ (T b).2.1) (b : Nat) {sh : List (Nat × zS)} {σ : zF} (hb : B[b]? = some (sh, σ)) (q : Nat) {a : Nat} {fs : List (Option Nat)} (hq : sh[q]? = some (a, .inr (.inl (ci, fs)))) (hc : vwCl[ci]? = some (Cn, T, N)) (j : Nat) (hj : j < N) {x : Int32} (hf : fs[j]? = some none) (hlink : Cond.fieldLink own index (T j).1 (T j).2.1 (T j).2.2.1 ∈ lw_all) (hfin : (T j).2.2.2 = false) (hd : parseFieldDescriptor (T j).2.2.1 = some .int) (hdg : decode cc pc = .ok (.putfield index, 3)) (hB : B.set b (sh, zU σ q j x) = B') (k : zK p l e R s m args below meth c D A nL Q cells slots (pc + 3) L st B') : zK p l e R s m args below meth c D A nL Q cells slots pc L (.int x :: .ref a :: st) B := fun H locs ls hP hD hS hl => by
  obtain ⟨q0, h1, h2, -⟩ := zW_at B b hb hq
  have h3 := h2 (zU σ q j x) (.inr (ci, (zO 0 fs (σ q)).set j (.int x))) (by rw [zU_eq, zO_set fs 0 (σ q) x hf, Nat.zero_add]; rfl) (fun k' hk' => zU_ne hk')
  refine va_put (D := D) C.1 C.2.1 C.2.2.2.2.1 hin ty0 hty hnm C.2.2.2.1 C.2.2.2.2.2.1 hP hD hS q0 (fs := zO 0 fs (σ q)) h1 hc j hj (C.2.2.2.2.1 _ hlink) (fun _ h9 => h9) hfin (ty := .int) (v := .int x) hd rfl rfl (zO_len fs 0 (σ q) hf) hdg (fun H1 locs1 hP1 hD1 hS1 => ?_)
  rw [h3, hB] at hP1 hD1
  exact k H1 locs1 ls hP1 hD1 hS1 hl
theorem z_putIN (C : zX p s m args meth c D tys A own cc nL) {Cn : String} {T : u_T} {N ci index : Nat} {host : String} (hin : ∀ w ∈ u_ws Cn T N, w ∈ lw_all) {ty0 : Nat → FieldType} (hty : ∀ k, k < N → parseFieldDescriptor (T k).2.2.1 = some (ty0 k)) (hnm : ∀ a, a < N → ∀ b, b < N → a ≠ b → (T a).2.1 ≠ (T b).2.1) (b : Nat) {sh : List (Nat × zS)} {σ : zF} (hb : B[b]? = some (sh, σ)) (q : Nat) {a : Nat} {fs : List (Option Nat)} (hq : sh[q]? = some (a, .inr (.inl (ci, fs)))) (hc : vwCl[ci]? = some (Cn, T, N)) (j : Nat) (hj : j < N) {x : Int32} (hf : fs[j]? = some none) (hlink : Cond.fieldLinkNest own index (T j).1 (T j).2.1 (T j).2.2.1 host ∈ lw_env) (hfin : (T j).2.2.2 = false) (hd : parseFieldDescriptor (T j).2.2.1 = some .int) (hdg : decode cc pc = .ok (.putfield index, 3)) (hB : B.set b (sh, zU σ q j x) = B') (k : zK p l e R s m args below meth c D A nL Q cells slots (pc + 3) L st B') : zK p l e R s m args below meth c D A nL Q cells slots pc L (.int x :: .ref a :: st) B := fun H locs ls hP hD hS hl => by
  obtain ⟨q0, h1, h2, -⟩ := zW_at B b hb hq
  have h3 := h2 (zU σ q j x) (.inr (ci, (zO 0 fs (σ q)).set j (.int x))) (by rw [zU_eq, zO_set fs 0 (σ q) x hf, Nat.zero_add]; rfl) (fun k' hk' => zU_ne hk')
  refine va_putN (D := D) C.1 C.2.1 C.2.2.2.2.1 hin ty0 hty hnm C.2.2.2.1 C.2.2.2.2.2.1 hP hD hS q0 (fs := zO 0 fs (σ q)) h1 hc j hj ((C.2.2.2.2.2.2.2.2.1 _ hlink).use rfl) (fun _ h9 => h9) hfin (ty := .int) (v := .int x) hd rfl rfl (zO_len fs 0 (σ q) hf) hdg (fun H1 locs1 hP1 hD1 hS1 => ?_)
  rw [h3, hB] at hP1 hD1
  exact k H1 locs1 ls hP1 hD1 hS1 hl
theorem z_iret (C : zX p s m args meth c D tys A own cc nL) {post : Option Value → List zB → Prop} {v : Int32} (hr : meth.sig.returnType = some .int) (hdg : decode cc pc = .ok (.ireturn, 1)) (hp : post (some (.int v)) B) : zK p l e R s m args below meth c D A nL (MQ below (zQ post D tys A) args s cells slots A) cells slots pc L [.int v] B := fun H locs ls hP hD hS hl => W.iret C.1 C.2.1 hr (fun t ht hW => ⟨⟨_, B, rfl, hp, by rw [ht]; exact hP, va_K.moved hW.alike C.2.2.2.2.2.1, hD⟩, hS.F ht⟩) hS.2.2 hdg C.2.2.2.2.2.2.2.1
theorem z_zret (C : zX p s m args meth c D tys A own cc nL) {post : Option Value → List zB → Prop} {v : Int32} (hr : meth.sig.returnType = some .boolean) (hv : narrow .boolean (.int v) = .int v) (hdg : decode cc pc = .ok (.ireturn, 1)) (hp : post (some (.int v)) B) : zK p l e R s m args below meth c D A nL (MQ below (zQ post D tys A) args s cells slots A) cells slots pc L [.int v] B := fun H locs ls hP hD hS hl => W.zret C.1 C.2.1 hr hv (fun t ht hW => ⟨⟨_, B, rfl, hp, by rw [ht]; exact hP, va_K.moved hW.alike C.2.2.2.2.2.1, hD⟩, hS.F ht⟩) hS.2.2 hdg C.2.2.2.2.2.2.2.1
theorem z_lret (C : zX p s m args meth c D tys A own cc nL) {post : Option Value → List zB → Prop} {v : Int64} (hr : meth.sig.returnType = some .long) (hdg : decode cc pc = .ok (.lreturn, 1)) (hp : post (some (.long v)) B) : zK p l e R s m args below meth c D A nL (MQ below (zQ post D tys A) args s cells slots A) cells slots pc L [.long v] B := fun H locs ls hP hD hS hl => W.lret C.1 C.2.1 hr (fun t ht hW => ⟨⟨_, B, rfl, hp, by rw [ht]; exact hP, va_K.moved hW.alike C.2.2.2.2.2.1, hD⟩, hS.F ht⟩) hS.2.2 hdg C.2.2.2.2.2.2.2.1
theorem z_dret (C : zX p s m args meth c D tys A own cc nL) {post : Option Value → List zB → Prop} {v : UInt64} (hr : meth.sig.returnType = some .double) (hdg : decode cc pc = .ok (.dreturn, 1)) (hp : post (some (.double v)) B) : zK p l e R s m args below meth c D A nL (MQ below (zQ post D tys A) args s cells slots A) cells slots pc L [.double v] B := fun H locs ls hP hD hS hl => W.dret C.1 C.2.1 hr (fun t ht hW => ⟨⟨_, B, rfl, hp, by rw [ht]; exact hP, va_K.moved hW.alike C.2.2.2.2.2.1, hD⟩, hS.F ht⟩) hS.2.2 hdg C.2.2.2.2.2.2.2.1
theorem z_vret (C : zX p s m args meth c D tys A own cc nL) {post : Option Value → List zB → Prop} (hr : meth.sig.returnType = none) (hdg : decode cc pc = .ok (.return_, 1)) (hp : post none B) : zK p l e R s m args below meth c D A nL (MQ below (zQ post D tys A) args s cells slots A) cells slots pc L [] B := fun H locs ls hP hD hS hl => W.vret C.1 C.2.1 hr (fun t ht hW => ⟨⟨_, B, rfl, hp, by rw [ht]; exact hP, va_K.moved hW.alike C.2.2.2.2.2.1, hD⟩, hS.F ht⟩) hS.2.2 hdg C.2.2.2.2.2.2.2.1
theorem z_back {mc ms : Nat} {post : Option Value → List zB → Prop} {a : Array Value} {H : Heap} {locs : List Loc} {ls : Array Slot} {st0 : List Value} (K : va_K D vwCl tys s) (hAq : ∀ q : Nat, s.heap.size ≤ q → A q) (msk : List Bool) (hP : va_P D vwCl (zW B) H) (hD : va_D A (zW B)) (hS : va_S A s.heap H locs) (hl : lv_has ls nL L)
    (hr : va_Run p l e R s m args below meth c H locs cells slots mc ms (F0 m pc ls st0) rest (zQ post D tys (va_A (zW (zPick msk B)) H.size) a) (va_A (zW (zPick msk B)) H.size))
    (kk : ∀ (r : Option Value) (u : List zB), post r u → zK p l e R s m args below meth c D A nL Q (cells + mc) (slots + ms) (pc + 3) L (r.toList ++ rest) (zPut msk B u)) : W p l e R s m args below meth c H locs cells slots Q (F0 m pc ls st0) := by
  obtain ⟨-, -, hF⟩ := z_pick msk hP hD hS hAq
  intro T hT X
  obtain ⟨v, st₀, t, T', Lc, h0, X', hLc, e1, e2, ⟨⟨r, u, hv, hp, hb, -, hDu⟩, hz, hk⟩, stp⟩ := hr T hT X
  cases hv
  rw [h0] at hz hk
  rw [← e1] at hb hz hk
  obtain ⟨hP2, hD2⟩ := z_join msk hP hD hk hF hb hDu
  obtain ⟨t2, a1, b1⟩ := kk v u hp T'.heap (locs ++ Lc) ls hP2 hD2 ⟨Nat.le_trans hS.1 hz, fun q h1 h2 => by
      rw [hk q (Nat.lt_of_lt_of_le h1 hS.1) (fun z => h2 (hF q z))]
      exact hS.2.1 q h1 h2, fun q hq => by
      rcases List.mem_append.mp hq with h | h
      · exact hS.2.2 q h
      · exact hF _ (hLc q h)⟩ hl T' rfl X'
  exact ⟨t2, stp t2 a1, b1⟩
theorem z_callV (C : zX p s m args meth c D tys A own cc nL) {y : MethodName} {bytes : ByteArray} {maxL mc ms n index : Nat} {ret : Option FieldType} {rm : Room} {post : Option Value → List zB → Prop} {As : List Value} {Bc : List zB} {b : Nat} (msk : List Bool) (hBc : zPick msk B = Bc) (hM : zM l D tys y bytes maxL ret rm (.ref b :: As) Bc mc ms post) (hcal : zCal y bytes maxL ret n) (hlink : Cond.methodLink own index y ∈ lw_all) (hinst : Cond.instanceMethod y ∈ lw_all ∧ Cond.selects y.cls y y ∈ lw_all) (hR : rm.cells = mc ∧ rm.slots = ms ∧ rm.frames + 1 ≤ R.frames ∧ 8 + (maxL + 11) + rm.locals ≤ R.locals)
    (bi : Nat) {sh : List (Nat × zS)} {σ : zF} (hbi : B[bi]? = some (sh, σ)) (q : Nat) {fs : List (Option Nat)} {ci : Nat} {T : u_T} {N : Nat} (hq : sh[q]? = some (b, .inr (.inl (ci, fs)))) (hc : vwCl[ci]? = some (y.cls, T, N))
    (hst : st = As.reverse ++ .ref b :: rest) (hn : As.length = n) (hcat : (rest.map fun v => v.category).sum ≤ 8) (hdg : decode cc pc = .ok (.invokevirtual index, 3)) (hf : cells + mc ≤ R.cells ∧ slots + ms ≤ R.slots)
    (kk : ∀ (r : Option Value) (u : List zB), post r u → zK p l e R s m args below meth c D A nL Q (cells + mc) (slots + ms) (pc + 3) L (r.toList ++ rest) (zPut msk B u)) : zK p l e R s m args below meth c D A nL Q cells slots pc L st B := fun H locs ls hP hD hS hl => by
  subst hBc
  subst hst
  obtain ⟨hPc, hDc, hF⟩ := z_pick msk hP hD hS C.2.2.2.2.2.2.1
  obtain ⟨q0, h1, -⟩ := zW_at B bi hbi hq
  exact z_back (a := (Value.ref b :: As).toArray) C.2.2.2.2.2.1 C.2.2.2.2.2.2.1 msk hP hD hS hl (va_runV (As := As) (rest := rest) ⟨C.1, C.2.1, C.2.2.1, C.2.2.2.1, C.2.2.2.2.1⟩ (hM H.size) (cwV n C.2.2.2.2.1 (zg_V hlink hinst.1 hinst.2 hcal.2.1 hcal.ws) rfl hR.1 hR.2.1 ⟨rfl, hcal.2.2⟩ hR.2.2) ⟨zPre_blind, va_recv C.2.2.2.2.2.1 hP hc h1, fun U hU hW => ⟨rfl, by rw [hU], by rw [hU]; exact hPc, va_K.moved hW.alike C.2.2.2.2.2.1, hDc, by rw [hU]; exact C.2.2.2.2.2.2.2.2.go hW hS.2.1 hF⟩⟩ rfl hn hl.1 rfl (lv_room hcat) hdg hf) kk
theorem z_callS (C : zX p s m args meth c D tys A own cc nL) {y : MethodName} {bytes : ByteArray} {maxL mc ms n index : Nat} {ret : Option FieldType} {rm : Room} {post : Option Value → List zB → Prop} {As : List Value} {Bc : List zB}  (msk : List Bool) (hBc : zPick msk B = Bc) (hM : zM l D tys y bytes maxL ret rm As Bc mc ms post) (hcal : zCal y bytes maxL ret n) (hlink : Cond.methodLink own index y ∈ lw_all) (hstat : Cond.static y ∈ lw_all) (hR : rm.cells = mc ∧ rm.slots = ms ∧ rm.frames + 1 ≤ R.frames ∧ 8 + (maxL + 11) + rm.locals ≤ R.locals)
    (hst : st = As.reverse ++ rest) (hn : As.length = n) (hcat : (rest.map fun v => v.category).sum ≤ 8) (hdg : decode cc pc = .ok (.invokestatic index, 3)) (hf : cells + mc ≤ R.cells ∧ slots + ms ≤ R.slots)
    (kk : ∀ (r : Option Value) (u : List zB), post r u → zK p l e R s m args below meth c D A nL Q (cells + mc) (slots + ms) (pc + 3) L (r.toList ++ rest) (zPut msk B u)) : zK p l e R s m args below meth c D A nL Q cells slots pc L st B := fun H locs ls hP hD hS hl => by
  subst hBc
  subst hst
  obtain ⟨hPc, hDc, hF⟩ := z_pick msk hP hD hS C.2.2.2.2.2.2.1
  exact z_back (a := As.toArray) C.2.2.2.2.2.1 C.2.2.2.2.2.2.1 msk hP hD hS hl (va_runS (As := As) (rest := rest) ⟨C.1, C.2.1, C.2.2.1, C.2.2.2.1, C.2.2.2.2.1⟩ (hM H.size) (va_cwS n C.2.2.2.2.1 (zg_S hlink hstat hcal.2.1 hcal.ws) rfl hR.1 hR.2.1 hcal.2.2 hR.2.2) ⟨zPre_blind, fun U hU hW => ⟨rfl, by rw [hU], by rw [hU]; exact hPc, va_K.moved hW.alike C.2.2.2.2.2.1, hDc, by rw [hU]; exact C.2.2.2.2.2.2.2.2.go hW hS.2.1 hF⟩⟩ rfl hn hl.1 rfl (lv_room hcat) hdg hf) kk
theorem z_callI (C : zX p s m args meth c D tys A own cc nL) {y : MethodName} {bytes : ByteArray} {maxL mc ms n index : Nat} {ret : Option FieldType} {rm : Room} {post : Option Value → List zB → Prop} {As : List Value} {Bc : List zB} {b : Nat} (msk : List Bool) (hBc : zPick msk B = Bc) (hM : zM l D tys y bytes maxL none rm (.ref b :: As) Bc mc ms post) (hcal : zCal y bytes maxL none n) (hlink : Cond.methodLink own index y ∈ lw_all) (hinst : y.name = "<init>" ∧ Cond.instanceMethod y ∈ lw_all) (hR : rm.cells = mc ∧ rm.slots = ms ∧ rm.frames + 1 ≤ R.frames ∧ 8 + (maxL + 11) + rm.locals ≤ R.locals)
    (hst : st = As.reverse ++ .ref b :: rest) (hn : As.length = n) (hcat : (rest.map fun v => v.category).sum ≤ 8) (hdg : decode cc pc = .ok (.invokespecial index, 3)) (hf : cells + mc ≤ R.cells ∧ slots + ms ≤ R.slots)
    (kk : ∀ (r : Option Value) (u : List zB), post r u → zK p l e R s m args below meth c D A nL Q (cells + mc) (slots + ms) (pc + 3) L (r.toList ++ rest) (zPut msk B u)) : zK p l e R s m args below meth c D A nL Q cells slots pc L st B := fun H locs ls hP hD hS hl => by
  subst hBc
  subst hst
  obtain ⟨hPc, hDc, hF⟩ := z_pick msk hP hD hS C.2.2.2.2.2.2.1
  exact z_back (a := (Value.ref b :: As).toArray) C.2.2.2.2.2.1 C.2.2.2.2.2.2.1 msk hP hD hS hl (va_runI (As := As) (rest := rest) ⟨C.1, C.2.1, C.2.2.1, C.2.2.2.1, C.2.2.2.2.1⟩ (hM H.size) (cwI n C.2.2.2.2.1 (lw_goodIn hcal.ws) rfl hR.1 hR.2.1 (C.2.2.2.2.1 _ hcal.2.1) (C.2.2.2.2.1 _ hlink) (C.2.2.2.2.1 _ hinst.2) hinst.1 hcal.2.2 hR.2.2) ⟨zPre_blind, fun U hU hW => ⟨rfl, by rw [hU], by rw [hU]; exact hPc, va_K.moved hW.alike C.2.2.2.2.2.1, hDc, by rw [hU]; exact C.2.2.2.2.2.2.2.2.go hW hS.2.1 hF⟩⟩ rfl hn hl.1 rfl (lv_room hcat) hdg hf) kk
theorem z_mmin (C : zX p s m args meth c D tys A own cc nL) {index : Nat} {x y : Int32} (h1 : Cond.methodLink own index Lib.Math.min.name ∈ lw_all) (h2 : Cond.static Lib.Math.min.name ∈ lw_all) (h3 : Cond.initialized "java/lang/Math" ∈ lw_all) (h4 : Cond.code Lib.Math.min.name Lib.Math.min.code 2 (some .int) ∈ lw_all) (hR : 1 ≤ R.frames ∧ (st.map fun v => v.category).sum + 13 ≤ R.locals ∧ cells ≤ R.cells ∧ slots ≤ R.slots) (hdg : decode cc pc = .ok (.invokestatic index, 3)) (k : zK p l e R s m args below meth c D A nL Q cells slots (pc + 3) L (.int (if y < x then y else x) :: st) B) : zK p l e R s m args below meth c D A nL Q cells slots pc L (.int y :: .int x :: st) B := fun H locs ls hP hD hS hl => va_mmin C.1 C.2.1 (C.2.2.1.trans hl.1.symm) C.2.2.2.1 (C.2.2.2.2.1 _ h1) (C.2.2.2.2.1 _ h2) (C.2.2.2.2.1 _ h3) (C.2.2.2.2.1 _ h4) hR.1 hR.2.1 hR.2.2.1 hR.2.2.2 hdg (k H locs ls hP hD hS hl)
theorem z_mmax (C : zX p s m args meth c D tys A own cc nL) {index : Nat} {x y : Int32} (h1 : Cond.methodLink own index Lib.Math.max.name ∈ lw_all) (h2 : Cond.static Lib.Math.max.name ∈ lw_all) (h3 : Cond.initialized "java/lang/Math" ∈ lw_all) (h4 : Cond.code Lib.Math.max.name Lib.Math.max.code 2 (some .int) ∈ lw_all) (hR : 1 ≤ R.frames ∧ (st.map fun v => v.category).sum + 13 ≤ R.locals ∧ cells ≤ R.cells ∧ slots ≤ R.slots) (hdg : decode cc pc = .ok (.invokestatic index, 3)) (k : zK p l e R s m args below meth c D A nL Q cells slots (pc + 3) L (.int (if x < y then y else x) :: st) B) : zK p l e R s m args below meth c D A nL Q cells slots pc L (.int y :: .int x :: st) B := fun H locs ls hP hD hS hl => va_mmax C.1 C.2.1 (C.2.2.1.trans hl.1.symm) C.2.2.2.1 (C.2.2.2.2.1 _ h1) (C.2.2.2.2.1 _ h2) (C.2.2.2.2.1 _ h3) (C.2.2.2.2.1 _ h4) hR.1 hR.2.1 hR.2.2.1 hR.2.2.2 hdg (k H locs ls hP hD hS hl)
end ZROWS
end
section
/-! which words stand in the tables, by their places -/
theorem wi_L : Cond.initialized RL ∈ lw_all := List.mem_filter.mpr ⟨List.mem_append_right _ (List.mem_of_getElem? (i := 0) (by decide +kernel)), by decide⟩
theorem wi_X2 : Cond.initialized RX2 ∈ lw_all := List.mem_filter.mpr ⟨List.mem_append_right _ (List.mem_of_getElem? (i := 1) (by decide +kernel)), by decide⟩
theorem wi_X0 : Cond.initialized RX0 ∈ lw_all := List.mem_filter.mpr ⟨List.mem_append_right _ (List.mem_of_getElem? (i := 2) (by decide +kernel)), by decide⟩
theorem wi_X1 : Cond.initialized RX1 ∈ lw_all := List.mem_filter.mpr ⟨List.mem_append_right _ (List.mem_of_getElem? (i := 3) (by decide +kernel)), by decide⟩
theorem wi_J9 : Cond.initialized RJ9 ∈ lw_all := List.mem_filter.mpr ⟨List.mem_append_right _ (List.mem_of_getElem? (i := 4) (by decide +kernel)), by decide⟩
theorem wi_X4 : Cond.initialized RX4 ∈ lw_all := List.mem_filter.mpr ⟨List.mem_append_right _ (List.mem_of_getElem? (i := 5) (by decide +kernel)), by decide⟩
theorem wi_X3 : Cond.initialized RX3 ∈ lw_all := List.mem_filter.mpr ⟨List.mem_append_right _ (List.mem_of_getElem? (i := 6) (by decide +kernel)), by decide⟩
theorem wi_Throwable : Cond.initialized "java/lang/Throwable" ∈ lw_all := List.mem_filter.mpr ⟨List.mem_append_right _ (List.mem_of_getElem? (i := 7) (by decide +kernel)), by decide⟩
theorem wi_Exception : Cond.initialized "java/lang/Exception" ∈ lw_all := List.mem_filter.mpr ⟨List.mem_append_right _ (List.mem_of_getElem? (i := 8) (by decide +kernel)), by decide⟩
theorem wi_RuntimeException : Cond.initialized "java/lang/RuntimeException" ∈ lw_all := List.mem_filter.mpr ⟨List.mem_append_right _ (List.mem_of_getElem? (i := 9) (by decide +kernel)), by decide⟩
theorem wi_IllegalArgumentException : Cond.initialized "java/lang/IllegalArgumentException" ∈ lw_all := List.mem_filter.mpr ⟨List.mem_append_right _ (List.mem_of_getElem? (i := 10) (by decide +kernel)), by decide⟩
theorem wi_IndexOutOfBoundsException : Cond.initialized "java/lang/IndexOutOfBoundsException" ∈ lw_all := List.mem_filter.mpr ⟨List.mem_append_right _ (List.mem_of_getElem? (i := 11) (by decide +kernel)), by decide⟩
theorem wi_IllegalStateException : Cond.initialized "java/lang/IllegalStateException" ∈ lw_all := List.mem_filter.mpr ⟨List.mem_append_right _ (List.mem_of_getElem? (i := 12) (by decide +kernel)), by decide⟩
theorem wi_J10 : Cond.initialized RJ10 ∈ lw_all := List.mem_filter.mpr ⟨List.mem_append_right _ (List.mem_of_getElem? (i := 13) (by decide +kernel)), by decide⟩
theorem wl_L_8 : Cond.classLink RL 8 RX2 ∈ lw_all := List.mem_filter.mpr ⟨List.mem_append_right _ (List.mem_of_getElem? (i := 14) (by decide +kernel)), by decide⟩
theorem wz_X2 : Cond.instantiable RX2 2 ∈ lw_all := List.mem_filter.mpr ⟨List.mem_append_right _ (List.mem_of_getElem? (i := 15) (by decide +kernel)), by decide⟩
theorem wm_L_62 : Cond.methodLink RL 62 yX2_init ∈ lw_all := List.mem_filter.mpr ⟨List.mem_append_right _ (List.mem_of_getElem? (i := 16) (by decide +kernel)), by decide⟩
theorem wn_yX2_init : Cond.instanceMethod yX2_init ∈ lw_all := List.mem_filter.mpr ⟨List.mem_append_right _ (List.mem_of_getElem? (i := 17) (by decide +kernel)), by decide⟩
theorem wk_yX2_init : Cond.code yX2_init cX2_init 1 none ∈ lw_all := List.mem_filter.mpr ⟨List.mem_append_right _ (List.mem_of_getElem? (i := 18) (by decide +kernel)), by decide⟩
theorem wm_X2_1 : Cond.methodLink RX2 1 objectInit ∈ lw_all := List.mem_filter.mpr ⟨List.mem_append_right _ (List.mem_of_getElem? (i := 19) (by decide +kernel)), by decide⟩
theorem wn_objectInit : Cond.instanceMethod objectInit ∈ lw_all := List.mem_filter.mpr ⟨List.mem_append_right _ (List.mem_of_getElem? (i := 20) (by decide +kernel)), by decide⟩
theorem wk_oinit : Cond.code objectInit ⟨#[0xb1]⟩ 1 none ∈ lw_all := List.mem_filter.mpr ⟨List.mem_append_right _ (List.mem_of_getElem? (i := 21) (by decide +kernel)), by decide⟩
theorem wl_X2_7 : Cond.classLink RX2 7 RX0 ∈ lw_all := List.mem_filter.mpr ⟨List.mem_append_right _ (List.mem_of_getElem? (i := 22) (by decide +kernel)), by decide⟩
theorem wz_X0 : Cond.instantiable RX0 13 ∈ lw_all := List.mem_filter.mpr ⟨List.mem_append_right _ (List.mem_of_getElem? (i := 23) (by decide +kernel)), by decide⟩
theorem wm_X2_9 : Cond.methodLinkNest RX2 9 yX0_init "FleetTerms" ∈ lw_env := List.mem_filter.mpr ⟨List.mem_append_right _ (List.mem_of_getElem? (i := 24) (by decide +kernel)), by decide⟩
theorem wn_yX0_init : Cond.instanceMethod yX0_init ∈ lw_all := List.mem_filter.mpr ⟨List.mem_append_right _ (List.mem_of_getElem? (i := 25) (by decide +kernel)), by decide⟩
theorem wk_yX0_init : Cond.code yX0_init cX0_init 1 none ∈ lw_all := List.mem_filter.mpr ⟨List.mem_append_right _ (List.mem_of_getElem? (i := 26) (by decide +kernel)), by decide⟩
theorem wm_X0_3 : Cond.methodLink RX0 3 objectInit ∈ lw_all := List.mem_filter.mpr ⟨List.mem_append_right _ (List.mem_of_getElem? (i := 27) (by decide +kernel)), by decide⟩
theorem wl_X0_34 : Cond.classLink RX0 34 RX1 ∈ lw_all := List.mem_filter.mpr ⟨List.mem_append_right _ (List.mem_of_getElem? (i := 28) (by decide +kernel)), by decide⟩
theorem wz_X1 : Cond.instantiable RX1 4 ∈ lw_all := List.mem_filter.mpr ⟨List.mem_append_right _ (List.mem_of_getElem? (i := 29) (by decide +kernel)), by decide⟩
theorem wm_X0_36 : Cond.methodLinkNest RX0 36 yX1_init "FleetTerms" ∈ lw_env := List.mem_filter.mpr ⟨List.mem_append_right _ (List.mem_of_getElem? (i := 30) (by decide +kernel)), by decide⟩
theorem wn_yX1_init : Cond.instanceMethod yX1_init ∈ lw_all := List.mem_filter.mpr ⟨List.mem_append_right _ (List.mem_of_getElem? (i := 31) (by decide +kernel)), by decide⟩
theorem wk_yX1_init : Cond.code yX1_init cX1_init 1 none ∈ lw_all := List.mem_filter.mpr ⟨List.mem_append_right _ (List.mem_of_getElem? (i := 32) (by decide +kernel)), by decide⟩
theorem wm_X1_3 : Cond.methodLink RX1 3 objectInit ∈ lw_all := List.mem_filter.mpr ⟨List.mem_append_right _ (List.mem_of_getElem? (i := 33) (by decide +kernel)), by decide⟩
theorem wf_X1_9 : Cond.fieldLink RX1 9 (TX1 0).1 (TX1 0).2.1 (TX1 0).2.2.1 ∈ lw_all := List.mem_filter.mpr ⟨List.mem_append_right _ (List.mem_of_getElem? (i := 34) (by decide +kernel)), by decide⟩
theorem wf_X2_68 : Cond.fieldLink RX2 68 (TX1 0).1 (TX1 0).2.1 (TX1 0).2.2.1 ∈ lw_all := List.mem_filter.mpr ⟨List.mem_append_right _ (List.mem_of_getElem? (i := 35) (by decide +kernel)), by decide⟩
theorem wf_X0_128 : Cond.fieldLink RX0 128 (TX1 0).1 (TX1 0).2.1 (TX1 0).2.2.1 ∈ lw_all := List.mem_filter.mpr ⟨List.mem_append_right _ (List.mem_of_getElem? (i := 36) (by decide +kernel)), by decide⟩
theorem wf_X1_15 : Cond.fieldLink RX1 15 (TX1 1).1 (TX1 1).2.1 (TX1 1).2.2.1 ∈ lw_all := List.mem_filter.mpr ⟨List.mem_append_right _ (List.mem_of_getElem? (i := 37) (by decide +kernel)), by decide⟩
theorem wf_X0_74 : Cond.fieldLink RX0 74 (TX1 1).1 (TX1 1).2.1 (TX1 1).2.2.1 ∈ lw_all := List.mem_filter.mpr ⟨List.mem_append_right _ (List.mem_of_getElem? (i := 38) (by decide +kernel)), by decide⟩
theorem wf_X2_142 : Cond.fieldLink RX2 142 (TX1 1).1 (TX1 1).2.1 (TX1 1).2.2.1 ∈ lw_all := List.mem_filter.mpr ⟨List.mem_append_right _ (List.mem_of_getElem? (i := 39) (by decide +kernel)), by decide⟩
theorem wf_X1_18 : Cond.fieldLink RX1 18 (TX1 2).1 (TX1 2).2.1 (TX1 2).2.2.1 ∈ lw_all := List.mem_filter.mpr ⟨List.mem_append_right _ (List.mem_of_getElem? (i := 40) (by decide +kernel)), by decide⟩
theorem wf_X1_21 : Cond.fieldLink RX1 21 (TX1 3).1 (TX1 3).2.1 (TX1 3).2.2.1 ∈ lw_all := List.mem_filter.mpr ⟨List.mem_append_right _ (List.mem_of_getElem? (i := 41) (by decide +kernel)), by decide⟩
theorem wa_int : Cond.arrayClass .int ∈ lw_all := List.mem_filter.mpr ⟨List.mem_append_right _ (List.mem_of_getElem? (i := 51) (by decide +kernel)), by decide⟩
theorem wa_boolean : Cond.arrayClass .boolean ∈ lw_all := List.mem_filter.mpr ⟨List.mem_append_right _ (List.mem_of_getElem? (i := 52) (by decide +kernel)), by decide⟩
theorem wf_X0_50 : Cond.fieldLink RX0 50 (TX0 0).1 (TX0 0).2.1 (TX0 0).2.2.1 ∈ lw_all := List.mem_filter.mpr ⟨List.mem_append_right _ (List.mem_of_getElem? (i := 53) (by decide +kernel)), by decide⟩
theorem wf_X2_107 : Cond.fieldLink RX2 107 (TX0 0).1 (TX0 0).2.1 (TX0 0).2.2.1 ∈ lw_all := List.mem_filter.mpr ⟨List.mem_append_right _ (List.mem_of_getElem? (i := 54) (by decide +kernel)), by decide⟩
theorem wf_X0_54 : Cond.fieldLink RX0 54 (TX0 1).1 (TX0 1).2.1 (TX0 1).2.2.1 ∈ lw_all := List.mem_filter.mpr ⟨List.mem_append_right _ (List.mem_of_getElem? (i := 55) (by decide +kernel)), by decide⟩
theorem wf_X0_57 : Cond.fieldLink RX0 57 (TX0 2).1 (TX0 2).2.1 (TX0 2).2.2.1 ∈ lw_all := List.mem_filter.mpr ⟨List.mem_append_right _ (List.mem_of_getElem? (i := 56) (by decide +kernel)), by decide⟩
theorem wf_X0_60 : Cond.fieldLink RX0 60 (TX0 3).1 (TX0 3).2.1 (TX0 3).2.2.1 ∈ lw_all := List.mem_filter.mpr ⟨List.mem_append_right _ (List.mem_of_getElem? (i := 57) (by decide +kernel)), by decide⟩
theorem wf_X2_85 : Cond.fieldLink RX2 85 (TX0 3).1 (TX0 3).2.1 (TX0 3).2.2.1 ∈ lw_all := List.mem_filter.mpr ⟨List.mem_append_right _ (List.mem_of_getElem? (i := 58) (by decide +kernel)), by decide⟩
theorem wf_X0_63 : Cond.fieldLink RX0 63 (TX0 4).1 (TX0 4).2.1 (TX0 4).2.2.1 ∈ lw_all := List.mem_filter.mpr ⟨List.mem_append_right _ (List.mem_of_getElem? (i := 59) (by decide +kernel)), by decide⟩
theorem wf_X0_9 : Cond.fieldLink RX0 9 (TX0 5).1 (TX0 5).2.1 (TX0 5).2.2.1 ∈ lw_all := List.mem_filter.mpr ⟨List.mem_append_right _ (List.mem_of_getElem? (i := 60) (by decide +kernel)), by decide⟩
theorem wf_X2_35 : Cond.fieldLink RX2 35 (TX0 5).1 (TX0 5).2.1 (TX0 5).2.2.1 ∈ lw_all := List.mem_filter.mpr ⟨List.mem_append_right _ (List.mem_of_getElem? (i := 61) (by decide +kernel)), by decide⟩
theorem wf_X0_15 : Cond.fieldLink RX0 15 (TX0 6).1 (TX0 6).2.1 (TX0 6).2.2.1 ∈ lw_all := List.mem_filter.mpr ⟨List.mem_append_right _ (List.mem_of_getElem? (i := 62) (by decide +kernel)), by decide⟩
theorem wf_X0_18 : Cond.fieldLink RX0 18 (TX0 7).1 (TX0 7).2.1 (TX0 7).2.2.1 ∈ lw_all := List.mem_filter.mpr ⟨List.mem_append_right _ (List.mem_of_getElem? (i := 63) (by decide +kernel)), by decide⟩
theorem wf_X2_75 : Cond.fieldLink RX2 75 (TX0 7).1 (TX0 7).2.1 (TX0 7).2.2.1 ∈ lw_all := List.mem_filter.mpr ⟨List.mem_append_right _ (List.mem_of_getElem? (i := 64) (by decide +kernel)), by decide⟩
theorem wf_X0_21 : Cond.fieldLink RX0 21 (TX0 8).1 (TX0 8).2.1 (TX0 8).2.2.1 ∈ lw_all := List.mem_filter.mpr ⟨List.mem_append_right _ (List.mem_of_getElem? (i := 65) (by decide +kernel)), by decide⟩
theorem wf_X0_24 : Cond.fieldLink RX0 24 (TX0 9).1 (TX0 9).2.1 (TX0 9).2.2.1 ∈ lw_all := List.mem_filter.mpr ⟨List.mem_append_right _ (List.mem_of_getElem? (i := 66) (by decide +kernel)), by decide⟩
theorem wf_X0_27 : Cond.fieldLink RX0 27 (TX0 10).1 (TX0 10).2.1 (TX0 10).2.2.1 ∈ lw_all := List.mem_filter.mpr ⟨List.mem_append_right _ (List.mem_of_getElem? (i := 67) (by decide +kernel)), by decide⟩
theorem wf_X2_43 : Cond.fieldLink RX2 43 (TX0 10).1 (TX0 10).2.1 (TX0 10).2.2.1 ∈ lw_all := List.mem_filter.mpr ⟨List.mem_append_right _ (List.mem_of_getElem? (i := 68) (by decide +kernel)), by decide⟩
theorem wf_X0_30 : Cond.fieldLink RX0 30 (TX0 11).1 (TX0 11).2.1 (TX0 11).2.2.1 ∈ lw_all := List.mem_filter.mpr ⟨List.mem_append_right _ (List.mem_of_getElem? (i := 69) (by decide +kernel)), by decide⟩
theorem wf_X2_46 : Cond.fieldLink RX2 46 (TX0 11).1 (TX0 11).2.1 (TX0 11).2.2.1 ∈ lw_all := List.mem_filter.mpr ⟨List.mem_append_right _ (List.mem_of_getElem? (i := 70) (by decide +kernel)), by decide⟩
theorem wf_X0_37 : Cond.fieldLink RX0 37 (TX0 12).1 (TX0 12).2.1 (TX0 12).2.2.1 ∈ lw_all := List.mem_filter.mpr ⟨List.mem_append_right _ (List.mem_of_getElem? (i := 71) (by decide +kernel)), by decide⟩
theorem wf_X2_64 : Cond.fieldLink RX2 64 (TX0 12).1 (TX0 12).2.1 (TX0 12).2.2.1 ∈ lw_all := List.mem_filter.mpr ⟨List.mem_append_right _ (List.mem_of_getElem? (i := 72) (by decide +kernel)), by decide⟩
theorem wm_X2_19 : Cond.methodLink RX2 19 yX0_begin ∈ lw_all := List.mem_filter.mpr ⟨List.mem_append_right _ (List.mem_of_getElem? (i := 100) (by decide +kernel)), by decide⟩
theorem wn_yX0_begin : Cond.instanceMethod yX0_begin ∈ lw_all := List.mem_filter.mpr ⟨List.mem_append_right _ (List.mem_of_getElem? (i := 101) (by decide +kernel)), by decide⟩
theorem wo_yX0_begin : Cond.selects yX0_begin.cls yX0_begin yX0_begin ∈ lw_all := List.mem_filter.mpr ⟨List.mem_append_right _ (List.mem_of_getElem? (i := 102) (by decide +kernel)), by decide⟩
theorem wk_yX0_begin : Cond.code yX0_begin cX0_begin 3 none ∈ lw_all := List.mem_filter.mpr ⟨List.mem_append_right _ (List.mem_of_getElem? (i := 103) (by decide +kernel)), by decide⟩
theorem wm_X0_41 : Cond.methodLink RX0 41 yJ9_min_7cf53 ∈ lw_all := List.mem_filter.mpr ⟨List.mem_append_right _ (List.mem_of_getElem? (i := 104) (by decide +kernel)), by decide⟩
theorem ws_yJ9_min_7cf53 : Cond.static yJ9_min_7cf53 ∈ lw_all := List.mem_filter.mpr ⟨List.mem_append_right _ (List.mem_of_getElem? (i := 105) (by decide +kernel)), by decide⟩
theorem wk_yJ9_min_7cf53 : Cond.code yJ9_min_7cf53 cJ9_min_7cf53 2 (some .int) ∈ lw_all := List.mem_filter.mpr ⟨List.mem_append_right _ (List.mem_of_getElem? (i := 106) (by decide +kernel)), by decide⟩
theorem wm_X0_47 : Cond.methodLink RX0 47 yJ9_max_7cf53 ∈ lw_all := List.mem_filter.mpr ⟨List.mem_append_right _ (List.mem_of_getElem? (i := 107) (by decide +kernel)), by decide⟩
theorem ws_yJ9_max_7cf53 : Cond.static yJ9_max_7cf53 ∈ lw_all := List.mem_filter.mpr ⟨List.mem_append_right _ (List.mem_of_getElem? (i := 108) (by decide +kernel)), by decide⟩
theorem wk_yJ9_max_7cf53 : Cond.code yJ9_max_7cf53 cJ9_max_7cf53 2 (some .int) ∈ lw_all := List.mem_filter.mpr ⟨List.mem_append_right _ (List.mem_of_getElem? (i := 109) (by decide +kernel)), by decide⟩
theorem wm_X0_66 : Cond.methodLink RX0 66 yX1_clear ∈ lw_all := List.mem_filter.mpr ⟨List.mem_append_right _ (List.mem_of_getElem? (i := 110) (by decide +kernel)), by decide⟩
theorem wn_yX1_clear : Cond.instanceMethod yX1_clear ∈ lw_all := List.mem_filter.mpr ⟨List.mem_append_right _ (List.mem_of_getElem? (i := 111) (by decide +kernel)), by decide⟩
theorem wo_yX1_clear : Cond.selects yX1_clear.cls yX1_clear yX1_clear ∈ lw_all := List.mem_filter.mpr ⟨List.mem_append_right _ (List.mem_of_getElem? (i := 112) (by decide +kernel)), by decide⟩
theorem wk_yX1_clear : Cond.code yX1_clear cX1_clear 2 none ∈ lw_all := List.mem_filter.mpr ⟨List.mem_append_right _ (List.mem_of_getElem? (i := 113) (by decide +kernel)), by decide⟩
theorem wf_X2_10 : Cond.fieldLink RX2 10 (TX2 0).1 (TX2 0).2.1 (TX2 0).2.2.1 ∈ lw_all := List.mem_filter.mpr ⟨List.mem_append_right _ (List.mem_of_getElem? (i := 114) (by decide +kernel)), by decide⟩
theorem wf_X2_16 : Cond.fieldLink RX2 16 (TX2 1).1 (TX2 1).2.1 (TX2 1).2.2.1 ∈ lw_all := List.mem_filter.mpr ⟨List.mem_append_right _ (List.mem_of_getElem? (i := 115) (by decide +kernel)), by decide⟩
theorem wm_L_105 : Cond.methodLink RL 105 yX2_leader ∈ lw_all := List.mem_filter.mpr ⟨List.mem_append_right _ (List.mem_of_getElem? (i := 121) (by decide +kernel)), by decide⟩
theorem wn_yX2_leader : Cond.instanceMethod yX2_leader ∈ lw_all := List.mem_filter.mpr ⟨List.mem_append_right _ (List.mem_of_getElem? (i := 122) (by decide +kernel)), by decide⟩
theorem wo_yX2_leader : Cond.selects yX2_leader.cls yX2_leader yX2_leader ∈ lw_all := List.mem_filter.mpr ⟨List.mem_append_right _ (List.mem_of_getElem? (i := 123) (by decide +kernel)), by decide⟩
theorem wk_yX2_leader : Cond.code yX2_leader cX2_leader 3 (some .int) ∈ lw_all := List.mem_filter.mpr ⟨List.mem_append_right _ (List.mem_of_getElem? (i := 124) (by decide +kernel)), by decide⟩
theorem wm_X2_55 : Cond.methodLink RX2 55 yX0_leadsNow ∈ lw_all := List.mem_filter.mpr ⟨List.mem_append_right _ (List.mem_of_getElem? (i := 125) (by decide +kernel)), by decide⟩
theorem wn_yX0_leadsNow : Cond.instanceMethod yX0_leadsNow ∈ lw_all := List.mem_filter.mpr ⟨List.mem_append_right _ (List.mem_of_getElem? (i := 126) (by decide +kernel)), by decide⟩
theorem wo_yX0_leadsNow : Cond.selects yX0_leadsNow.cls yX0_leadsNow yX0_leadsNow ∈ lw_all := List.mem_filter.mpr ⟨List.mem_append_right _ (List.mem_of_getElem? (i := 127) (by decide +kernel)), by decide⟩
theorem wk_yX0_leadsNow : Cond.code yX0_leadsNow cX0_leadsNow 2 (some .boolean) ∈ lw_all := List.mem_filter.mpr ⟨List.mem_append_right _ (List.mem_of_getElem? (i := 128) (by decide +kernel)), by decide⟩
theorem wm_L_115 : Cond.methodLink RL 115 yX2_until ∈ lw_all := List.mem_filter.mpr ⟨List.mem_append_right _ (List.mem_of_getElem? (i := 129) (by decide +kernel)), by decide⟩
theorem wn_yX2_until : Cond.instanceMethod yX2_until ∈ lw_all := List.mem_filter.mpr ⟨List.mem_append_right _ (List.mem_of_getElem? (i := 130) (by decide +kernel)), by decide⟩
theorem wo_yX2_until : Cond.selects yX2_until.cls yX2_until yX2_until ∈ lw_all := List.mem_filter.mpr ⟨List.mem_append_right _ (List.mem_of_getElem? (i := 131) (by decide +kernel)), by decide⟩
theorem wk_yX2_until : Cond.code yX2_until cX2_until 2 (some .int) ∈ lw_all := List.mem_filter.mpr ⟨List.mem_append_right _ (List.mem_of_getElem? (i := 132) (by decide +kernel)), by decide⟩
theorem wm_X2_123 : Cond.methodLink RX2 123 yX0_copyFrom ∈ lw_all := List.mem_filter.mpr ⟨List.mem_append_right _ (List.mem_of_getElem? (i := 133) (by decide +kernel)), by decide⟩
theorem wn_yX0_copyFrom : Cond.instanceMethod yX0_copyFrom ∈ lw_all := List.mem_filter.mpr ⟨List.mem_append_right _ (List.mem_of_getElem? (i := 134) (by decide +kernel)), by decide⟩
theorem wo_yX0_copyFrom : Cond.selects yX0_copyFrom.cls yX0_copyFrom yX0_copyFrom ∈ lw_all := List.mem_filter.mpr ⟨List.mem_append_right _ (List.mem_of_getElem? (i := 135) (by decide +kernel)), by decide⟩
theorem wk_yX0_copyFrom : Cond.code yX0_copyFrom cX0_copyFrom 3 none ∈ lw_all := List.mem_filter.mpr ⟨List.mem_append_right _ (List.mem_of_getElem? (i := 136) (by decide +kernel)), by decide⟩
theorem wm_X0_70 : Cond.methodLink RX0 70 yX1_copyFrom ∈ lw_all := List.mem_filter.mpr ⟨List.mem_append_right _ (List.mem_of_getElem? (i := 137) (by decide +kernel)), by decide⟩
theorem wn_yX1_copyFrom : Cond.instanceMethod yX1_copyFrom ∈ lw_all := List.mem_filter.mpr ⟨List.mem_append_right _ (List.mem_of_getElem? (i := 138) (by decide +kernel)), by decide⟩
theorem wo_yX1_copyFrom : Cond.selects yX1_copyFrom.cls yX1_copyFrom yX1_copyFrom ∈ lw_all := List.mem_filter.mpr ⟨List.mem_append_right _ (List.mem_of_getElem? (i := 139) (by decide +kernel)), by decide⟩
theorem wk_yX1_copyFrom : Cond.code yX1_copyFrom cX1_copyFrom 2 none ∈ lw_all := List.mem_filter.mpr ⟨List.mem_append_right _ (List.mem_of_getElem? (i := 140) (by decide +kernel)), by decide⟩
theorem wm_X1_24 : Cond.methodLink RX1 24 arraycopyName ∈ lw_all := List.mem_filter.mpr ⟨List.mem_append_right _ (List.mem_of_getElem? (i := 141) (by decide +kernel)), by decide⟩
theorem ws_arraycopyName : Cond.static arraycopyName ∈ lw_all := List.mem_filter.mpr ⟨List.mem_append_right _ (List.mem_of_getElem? (i := 142) (by decide +kernel)), by decide⟩
theorem wnat_arraycopyName : Cond.native arraycopyName ∈ lw_all := List.mem_filter.mpr ⟨List.mem_append_right _ (List.mem_of_getElem? (i := 143) (by decide +kernel)), by decide⟩
theorem wm_X2_127 : Cond.methodLink RX2 127 yX0_isLed ∈ lw_all := List.mem_filter.mpr ⟨List.mem_append_right _ (List.mem_of_getElem? (i := 144) (by decide +kernel)), by decide⟩
theorem wn_yX0_isLed : Cond.instanceMethod yX0_isLed ∈ lw_all := List.mem_filter.mpr ⟨List.mem_append_right _ (List.mem_of_getElem? (i := 145) (by decide +kernel)), by decide⟩
theorem wo_yX0_isLed : Cond.selects yX0_isLed.cls yX0_isLed yX0_isLed ∈ lw_all := List.mem_filter.mpr ⟨List.mem_append_right _ (List.mem_of_getElem? (i := 146) (by decide +kernel)), by decide⟩
theorem wk_yX0_isLed : Cond.code yX0_isLed cX0_isLed 2 (some .boolean) ∈ lw_all := List.mem_filter.mpr ⟨List.mem_append_right _ (List.mem_of_getElem? (i := 147) (by decide +kernel)), by decide⟩
theorem wm_X0_89 : Cond.methodLink RX0 89 yX0_leadsNow ∈ lw_all := List.mem_filter.mpr ⟨List.mem_append_right _ (List.mem_of_getElem? (i := 148) (by decide +kernel)), by decide⟩
theorem wm_X0_140 : Cond.methodLink RX0 140 yX0_upIn ∈ lw_all := List.mem_filter.mpr ⟨List.mem_append_right _ (List.mem_of_getElem? (i := 149) (by decide +kernel)), by decide⟩
theorem wn_yX0_upIn : Cond.instanceMethod yX0_upIn ∈ lw_all := List.mem_filter.mpr ⟨List.mem_append_right _ (List.mem_of_getElem? (i := 150) (by decide +kernel)), by decide⟩
theorem wo_yX0_upIn : Cond.selects yX0_upIn.cls yX0_upIn yX0_upIn ∈ lw_all := List.mem_filter.mpr ⟨List.mem_append_right _ (List.mem_of_getElem? (i := 151) (by decide +kernel)), by decide⟩
theorem wk_yX0_upIn : Cond.code yX0_upIn cX0_upIn 4 (some .int) ∈ lw_all := List.mem_filter.mpr ⟨List.mem_append_right _ (List.mem_of_getElem? (i := 152) (by decide +kernel)), by decide⟩
theorem wm_X0_106 : Cond.methodLink RX0 106 yX0_isMoreThanHalf ∈ lw_all := List.mem_filter.mpr ⟨List.mem_append_right _ (List.mem_of_getElem? (i := 153) (by decide +kernel)), by decide⟩
theorem wn_yX0_isMoreThanHalf : Cond.instanceMethod yX0_isMoreThanHalf ∈ lw_all := List.mem_filter.mpr ⟨List.mem_append_right _ (List.mem_of_getElem? (i := 154) (by decide +kernel)), by decide⟩
theorem wo_yX0_isMoreThanHalf : Cond.selects yX0_isMoreThanHalf.cls yX0_isMoreThanHalf yX0_isMoreThanHalf ∈ lw_all := List.mem_filter.mpr ⟨List.mem_append_right _ (List.mem_of_getElem? (i := 155) (by decide +kernel)), by decide⟩
theorem wk_yX0_isMoreThanHalf : Cond.code yX0_isMoreThanHalf cX0_isMoreThanHalf 2 (some .boolean) ∈ lw_all := List.mem_filter.mpr ⟨List.mem_append_right _ (List.mem_of_getElem? (i := 156) (by decide +kernel)), by decide⟩
theorem wm_X2_89 : Cond.methodLink RX2 89 yX0_passHours ∈ lw_all := List.mem_filter.mpr ⟨List.mem_append_right _ (List.mem_of_getElem? (i := 157) (by decide +kernel)), by decide⟩
theorem wn_yX0_passHours : Cond.instanceMethod yX0_passHours ∈ lw_all := List.mem_filter.mpr ⟨List.mem_append_right _ (List.mem_of_getElem? (i := 158) (by decide +kernel)), by decide⟩
theorem wo_yX0_passHours : Cond.selects yX0_passHours.cls yX0_passHours yX0_passHours ∈ lw_all := List.mem_filter.mpr ⟨List.mem_append_right _ (List.mem_of_getElem? (i := 159) (by decide +kernel)), by decide⟩
theorem wk_yX0_passHours : Cond.code yX0_passHours cX0_passHours 3 none ∈ lw_all := List.mem_filter.mpr ⟨List.mem_append_right _ (List.mem_of_getElem? (i := 160) (by decide +kernel)), by decide⟩
theorem wm_X0_77 : Cond.methodLink RX0 77 yX0_runClocks ∈ lw_all := List.mem_filter.mpr ⟨List.mem_append_right _ (List.mem_of_getElem? (i := 161) (by decide +kernel)), by decide⟩
theorem wn_yX0_runClocks : Cond.instanceMethod yX0_runClocks ∈ lw_all := List.mem_filter.mpr ⟨List.mem_append_right _ (List.mem_of_getElem? (i := 162) (by decide +kernel)), by decide⟩
theorem wo_yX0_runClocks : Cond.selects yX0_runClocks.cls yX0_runClocks yX0_runClocks ∈ lw_all := List.mem_filter.mpr ⟨List.mem_append_right _ (List.mem_of_getElem? (i := 163) (by decide +kernel)), by decide⟩
theorem wk_yX0_runClocks : Cond.code yX0_runClocks cX0_runClocks 2 none ∈ lw_all := List.mem_filter.mpr ⟨List.mem_append_right _ (List.mem_of_getElem? (i := 164) (by decide +kernel)), by decide⟩
theorem wm_X0_86 : Cond.methodLink RX0 86 yX0_stand ∈ lw_all := List.mem_filter.mpr ⟨List.mem_append_right _ (List.mem_of_getElem? (i := 165) (by decide +kernel)), by decide⟩
theorem wn_yX0_stand : Cond.instanceMethod yX0_stand ∈ lw_all := List.mem_filter.mpr ⟨List.mem_append_right _ (List.mem_of_getElem? (i := 166) (by decide +kernel)), by decide⟩
theorem wo_yX0_stand : Cond.selects yX0_stand.cls yX0_stand yX0_stand ∈ lw_all := List.mem_filter.mpr ⟨List.mem_append_right _ (List.mem_of_getElem? (i := 167) (by decide +kernel)), by decide⟩
theorem wk_yX0_stand : Cond.code yX0_stand cX0_stand 4 none ∈ lw_all := List.mem_filter.mpr ⟨List.mem_append_right _ (List.mem_of_getElem? (i := 168) (by decide +kernel)), by decide⟩
theorem wm_X0_99 : Cond.methodLink RX0 99 yX0_hear ∈ lw_all := List.mem_filter.mpr ⟨List.mem_append_right _ (List.mem_of_getElem? (i := 169) (by decide +kernel)), by decide⟩
theorem wn_yX0_hear : Cond.instanceMethod yX0_hear ∈ lw_all := List.mem_filter.mpr ⟨List.mem_append_right _ (List.mem_of_getElem? (i := 170) (by decide +kernel)), by decide⟩
theorem wo_yX0_hear : Cond.selects yX0_hear.cls yX0_hear yX0_hear ∈ lw_all := List.mem_filter.mpr ⟨List.mem_append_right _ (List.mem_of_getElem? (i := 171) (by decide +kernel)), by decide⟩
theorem wk_yX0_hear : Cond.code yX0_hear cX0_hear 3 (some .boolean) ∈ lw_all := List.mem_filter.mpr ⟨List.mem_append_right _ (List.mem_of_getElem? (i := 172) (by decide +kernel)), by decide⟩
theorem wm_X0_103 : Cond.methodLink RX0 103 yX0_givesVote ∈ lw_all := List.mem_filter.mpr ⟨List.mem_append_right _ (List.mem_of_getElem? (i := 173) (by decide +kernel)), by decide⟩
theorem wn_yX0_givesVote : Cond.instanceMethod yX0_givesVote ∈ lw_all := List.mem_filter.mpr ⟨List.mem_append_right _ (List.mem_of_getElem? (i := 174) (by decide +kernel)), by decide⟩
theorem wo_yX0_givesVote : Cond.selects yX0_givesVote.cls yX0_givesVote yX0_givesVote ∈ lw_all := List.mem_filter.mpr ⟨List.mem_append_right _ (List.mem_of_getElem? (i := 175) (by decide +kernel)), by decide⟩
theorem wk_yX0_givesVote : Cond.code yX0_givesVote cX0_givesVote 4 (some .boolean) ∈ lw_all := List.mem_filter.mpr ⟨List.mem_append_right _ (List.mem_of_getElem? (i := 176) (by decide +kernel)), by decide⟩
theorem wm_X0_109 : Cond.methodLink RX0 109 yX0_meetTerms ∈ lw_all := List.mem_filter.mpr ⟨List.mem_append_right _ (List.mem_of_getElem? (i := 177) (by decide +kernel)), by decide⟩
theorem wn_yX0_meetTerms : Cond.instanceMethod yX0_meetTerms ∈ lw_all := List.mem_filter.mpr ⟨List.mem_append_right _ (List.mem_of_getElem? (i := 178) (by decide +kernel)), by decide⟩
theorem wo_yX0_meetTerms : Cond.selects yX0_meetTerms.cls yX0_meetTerms yX0_meetTerms ∈ lw_all := List.mem_filter.mpr ⟨List.mem_append_right _ (List.mem_of_getElem? (i := 179) (by decide +kernel)), by decide⟩
theorem wk_yX0_meetTerms : Cond.code yX0_meetTerms cX0_meetTerms 3 (some .boolean) ∈ lw_all := List.mem_filter.mpr ⟨List.mem_append_right _ (List.mem_of_getElem? (i := 180) (by decide +kernel)), by decide⟩
theorem wm_X0_125 : Cond.methodLink RX0 125 yX0_takeTerm ∈ lw_all := List.mem_filter.mpr ⟨List.mem_append_right _ (List.mem_of_getElem? (i := 181) (by decide +kernel)), by decide⟩
theorem wn_yX0_takeTerm : Cond.instanceMethod yX0_takeTerm ∈ lw_all := List.mem_filter.mpr ⟨List.mem_append_right _ (List.mem_of_getElem? (i := 182) (by decide +kernel)), by decide⟩
theorem wo_yX0_takeTerm : Cond.selects yX0_takeTerm.cls yX0_takeTerm yX0_takeTerm ∈ lw_all := List.mem_filter.mpr ⟨List.mem_append_right _ (List.mem_of_getElem? (i := 183) (by decide +kernel)), by decide⟩
theorem wk_yX0_takeTerm : Cond.code yX0_takeTerm cX0_takeTerm 3 none ∈ lw_all := List.mem_filter.mpr ⟨List.mem_append_right _ (List.mem_of_getElem? (i := 184) (by decide +kernel)), by decide⟩
theorem wm_X0_112 : Cond.methodLink RX0 112 yX1_asNew ∈ lw_all := List.mem_filter.mpr ⟨List.mem_append_right _ (List.mem_of_getElem? (i := 185) (by decide +kernel)), by decide⟩
theorem wn_yX1_asNew : Cond.instanceMethod yX1_asNew ∈ lw_all := List.mem_filter.mpr ⟨List.mem_append_right _ (List.mem_of_getElem? (i := 186) (by decide +kernel)), by decide⟩
theorem wo_yX1_asNew : Cond.selects yX1_asNew.cls yX1_asNew yX1_asNew ∈ lw_all := List.mem_filter.mpr ⟨List.mem_append_right _ (List.mem_of_getElem? (i := 187) (by decide +kernel)), by decide⟩
theorem wk_yX1_asNew : Cond.code yX1_asNew cX1_asNew 5 (some .boolean) ∈ lw_all := List.mem_filter.mpr ⟨List.mem_append_right _ (List.mem_of_getElem? (i := 188) (by decide +kernel)), by decide⟩
theorem wm_X1_36 : Cond.methodLink RX1 36 yX1_lastTerm ∈ lw_all := List.mem_filter.mpr ⟨List.mem_append_right _ (List.mem_of_getElem? (i := 189) (by decide +kernel)), by decide⟩
theorem wn_yX1_lastTerm : Cond.instanceMethod yX1_lastTerm ∈ lw_all := List.mem_filter.mpr ⟨List.mem_append_right _ (List.mem_of_getElem? (i := 190) (by decide +kernel)), by decide⟩
theorem wo_yX1_lastTerm : Cond.selects yX1_lastTerm.cls yX1_lastTerm yX1_lastTerm ∈ lw_all := List.mem_filter.mpr ⟨List.mem_append_right _ (List.mem_of_getElem? (i := 191) (by decide +kernel)), by decide⟩
theorem wk_yX1_lastTerm : Cond.code yX1_lastTerm cX1_lastTerm 2 (some .int) ∈ lw_all := List.mem_filter.mpr ⟨List.mem_append_right _ (List.mem_of_getElem? (i := 192) (by decide +kernel)), by decide⟩
theorem wm_X0_80 : Cond.methodLink RX0 80 yX0_tellAll ∈ lw_all := List.mem_filter.mpr ⟨List.mem_append_right _ (List.mem_of_getElem? (i := 193) (by decide +kernel)), by decide⟩
theorem wn_yX0_tellAll : Cond.instanceMethod yX0_tellAll ∈ lw_all := List.mem_filter.mpr ⟨List.mem_append_right _ (List.mem_of_getElem? (i := 194) (by decide +kernel)), by decide⟩
theorem wo_yX0_tellAll : Cond.selects yX0_tellAll.cls yX0_tellAll yX0_tellAll ∈ lw_all := List.mem_filter.mpr ⟨List.mem_append_right _ (List.mem_of_getElem? (i := 195) (by decide +kernel)), by decide⟩
theorem wk_yX0_tellAll : Cond.code yX0_tellAll cX0_tellAll 2 none ∈ lw_all := List.mem_filter.mpr ⟨List.mem_append_right _ (List.mem_of_getElem? (i := 196) (by decide +kernel)), by decide⟩
theorem wm_X0_93 : Cond.methodLink RX0 93 yX0_tellOthers ∈ lw_all := List.mem_filter.mpr ⟨List.mem_append_right _ (List.mem_of_getElem? (i := 197) (by decide +kernel)), by decide⟩
theorem wn_yX0_tellOthers : Cond.instanceMethod yX0_tellOthers ∈ lw_all := List.mem_filter.mpr ⟨List.mem_append_right _ (List.mem_of_getElem? (i := 198) (by decide +kernel)), by decide⟩
theorem wo_yX0_tellOthers : Cond.selects yX0_tellOthers.cls yX0_tellOthers yX0_tellOthers ∈ lw_all := List.mem_filter.mpr ⟨List.mem_append_right _ (List.mem_of_getElem? (i := 199) (by decide +kernel)), by decide⟩
theorem wk_yX0_tellOthers : Cond.code yX0_tellOthers cX0_tellOthers 3 none ∈ lw_all := List.mem_filter.mpr ⟨List.mem_append_right _ (List.mem_of_getElem? (i := 200) (by decide +kernel)), by decide⟩
theorem wm_X0_115 : Cond.methodLink RX0 115 yX0_tell ∈ lw_all := List.mem_filter.mpr ⟨List.mem_append_right _ (List.mem_of_getElem? (i := 201) (by decide +kernel)), by decide⟩
theorem wn_yX0_tell : Cond.instanceMethod yX0_tell ∈ lw_all := List.mem_filter.mpr ⟨List.mem_append_right _ (List.mem_of_getElem? (i := 202) (by decide +kernel)), by decide⟩
theorem wo_yX0_tell : Cond.selects yX0_tell.cls yX0_tell yX0_tell ∈ lw_all := List.mem_filter.mpr ⟨List.mem_append_right _ (List.mem_of_getElem? (i := 203) (by decide +kernel)), by decide⟩
theorem wk_yX0_tell : Cond.code yX0_tell cX0_tell 3 none ∈ lw_all := List.mem_filter.mpr ⟨List.mem_append_right _ (List.mem_of_getElem? (i := 204) (by decide +kernel)), by decide⟩
theorem wm_X0_119 : Cond.methodLink RX0 119 yX1_mend ∈ lw_all := List.mem_filter.mpr ⟨List.mem_append_right _ (List.mem_of_getElem? (i := 205) (by decide +kernel)), by decide⟩
theorem wn_yX1_mend : Cond.instanceMethod yX1_mend ∈ lw_all := List.mem_filter.mpr ⟨List.mem_append_right _ (List.mem_of_getElem? (i := 206) (by decide +kernel)), by decide⟩
theorem wo_yX1_mend : Cond.selects yX1_mend.cls yX1_mend yX1_mend ∈ lw_all := List.mem_filter.mpr ⟨List.mem_append_right _ (List.mem_of_getElem? (i := 207) (by decide +kernel)), by decide⟩
theorem wk_yX1_mend : Cond.code yX1_mend cX1_mend 4 (some .boolean) ∈ lw_all := List.mem_filter.mpr ⟨List.mem_append_right _ (List.mem_of_getElem? (i := 208) (by decide +kernel)), by decide⟩
theorem wm_X1_40 : Cond.methodLink RX1 40 yX1_agreement ∈ lw_all := List.mem_filter.mpr ⟨List.mem_append_right _ (List.mem_of_getElem? (i := 209) (by decide +kernel)), by decide⟩
theorem wn_yX1_agreement : Cond.instanceMethod yX1_agreement ∈ lw_all := List.mem_filter.mpr ⟨List.mem_append_right _ (List.mem_of_getElem? (i := 210) (by decide +kernel)), by decide⟩
theorem wo_yX1_agreement : Cond.selects yX1_agreement.cls yX1_agreement yX1_agreement ∈ lw_all := List.mem_filter.mpr ⟨List.mem_append_right _ (List.mem_of_getElem? (i := 211) (by decide +kernel)), by decide⟩
theorem wk_yX1_agreement : Cond.code yX1_agreement cX1_agreement 7 (some .int) ∈ lw_all := List.mem_filter.mpr ⟨List.mem_append_right _ (List.mem_of_getElem? (i := 212) (by decide +kernel)), by decide⟩
theorem wm_X1_30 : Cond.methodLink RX1 30 yJ9_min_7cf53 ∈ lw_all := List.mem_filter.mpr ⟨List.mem_append_right _ (List.mem_of_getElem? (i := 213) (by decide +kernel)), by decide⟩
theorem wm_X1_43 : Cond.methodLink RX1 43 yX1_loseLast ∈ lw_all := List.mem_filter.mpr ⟨List.mem_append_right _ (List.mem_of_getElem? (i := 214) (by decide +kernel)), by decide⟩
theorem wn_yX1_loseLast : Cond.instanceMethod yX1_loseLast ∈ lw_all := List.mem_filter.mpr ⟨List.mem_append_right _ (List.mem_of_getElem? (i := 215) (by decide +kernel)), by decide⟩
theorem wo_yX1_loseLast : Cond.selects yX1_loseLast.cls yX1_loseLast yX1_loseLast ∈ lw_all := List.mem_filter.mpr ⟨List.mem_append_right _ (List.mem_of_getElem? (i := 216) (by decide +kernel)), by decide⟩
theorem wk_yX1_loseLast : Cond.code yX1_loseLast cX1_loseLast 2 none ∈ lw_all := List.mem_filter.mpr ⟨List.mem_append_right _ (List.mem_of_getElem? (i := 217) (by decide +kernel)), by decide⟩
theorem wm_X1_47 : Cond.methodLink RX1 47 yX1_termAt ∈ lw_all := List.mem_filter.mpr ⟨List.mem_append_right _ (List.mem_of_getElem? (i := 218) (by decide +kernel)), by decide⟩
theorem wn_yX1_termAt : Cond.instanceMethod yX1_termAt ∈ lw_all := List.mem_filter.mpr ⟨List.mem_append_right _ (List.mem_of_getElem? (i := 219) (by decide +kernel)), by decide⟩
theorem wo_yX1_termAt : Cond.selects yX1_termAt.cls yX1_termAt yX1_termAt ∈ lw_all := List.mem_filter.mpr ⟨List.mem_append_right _ (List.mem_of_getElem? (i := 220) (by decide +kernel)), by decide⟩
theorem wk_yX1_termAt : Cond.code yX1_termAt cX1_termAt 3 (some .int) ∈ lw_all := List.mem_filter.mpr ⟨List.mem_append_right _ (List.mem_of_getElem? (i := 221) (by decide +kernel)), by decide⟩
theorem wm_X1_50 : Cond.methodLink RX1 50 yX1_fishAt ∈ lw_all := List.mem_filter.mpr ⟨List.mem_append_right _ (List.mem_of_getElem? (i := 222) (by decide +kernel)), by decide⟩
theorem wn_yX1_fishAt : Cond.instanceMethod yX1_fishAt ∈ lw_all := List.mem_filter.mpr ⟨List.mem_append_right _ (List.mem_of_getElem? (i := 223) (by decide +kernel)), by decide⟩
theorem wo_yX1_fishAt : Cond.selects yX1_fishAt.cls yX1_fishAt yX1_fishAt ∈ lw_all := List.mem_filter.mpr ⟨List.mem_append_right _ (List.mem_of_getElem? (i := 224) (by decide +kernel)), by decide⟩
theorem wk_yX1_fishAt : Cond.code yX1_fishAt cX1_fishAt 3 (some .int) ∈ lw_all := List.mem_filter.mpr ⟨List.mem_append_right _ (List.mem_of_getElem? (i := 225) (by decide +kernel)), by decide⟩
theorem wm_X1_53 : Cond.methodLink RX1 53 yX1_append ∈ lw_all := List.mem_filter.mpr ⟨List.mem_append_right _ (List.mem_of_getElem? (i := 226) (by decide +kernel)), by decide⟩
theorem wn_yX1_append : Cond.instanceMethod yX1_append ∈ lw_all := List.mem_filter.mpr ⟨List.mem_append_right _ (List.mem_of_getElem? (i := 227) (by decide +kernel)), by decide⟩
theorem wo_yX1_append : Cond.selects yX1_append.cls yX1_append yX1_append ∈ lw_all := List.mem_filter.mpr ⟨List.mem_append_right _ (List.mem_of_getElem? (i := 228) (by decide +kernel)), by decide⟩
theorem wk_yX1_append : Cond.code yX1_append cX1_append 5 none ∈ lw_all := List.mem_filter.mpr ⟨List.mem_append_right _ (List.mem_of_getElem? (i := 229) (by decide +kernel)), by decide⟩
theorem wm_X0_122 : Cond.methodLink RX0 122 yX1_learnCommitted ∈ lw_all := List.mem_filter.mpr ⟨List.mem_append_right _ (List.mem_of_getElem? (i := 230) (by decide +kernel)), by decide⟩
theorem wn_yX1_learnCommitted : Cond.instanceMethod yX1_learnCommitted ∈ lw_all := List.mem_filter.mpr ⟨List.mem_append_right _ (List.mem_of_getElem? (i := 231) (by decide +kernel)), by decide⟩
theorem wo_yX1_learnCommitted : Cond.selects yX1_learnCommitted.cls yX1_learnCommitted yX1_learnCommitted ∈ lw_all := List.mem_filter.mpr ⟨List.mem_append_right _ (List.mem_of_getElem? (i := 232) (by decide +kernel)), by decide⟩
theorem wk_yX1_learnCommitted : Cond.code yX1_learnCommitted cX1_learnCommitted 4 none ∈ lw_all := List.mem_filter.mpr ⟨List.mem_append_right _ (List.mem_of_getElem? (i := 233) (by decide +kernel)), by decide⟩
theorem wm_X1_57 : Cond.methodLink RX1 57 yJ9_max_7cf53 ∈ lw_all := List.mem_filter.mpr ⟨List.mem_append_right _ (List.mem_of_getElem? (i := 234) (by decide +kernel)), by decide⟩
theorem wm_X0_83 : Cond.methodLink RX0 83 yX0_commitAll ∈ lw_all := List.mem_filter.mpr ⟨List.mem_append_right _ (List.mem_of_getElem? (i := 235) (by decide +kernel)), by decide⟩
theorem wn_yX0_commitAll : Cond.instanceMethod yX0_commitAll ∈ lw_all := List.mem_filter.mpr ⟨List.mem_append_right _ (List.mem_of_getElem? (i := 236) (by decide +kernel)), by decide⟩
theorem wo_yX0_commitAll : Cond.selects yX0_commitAll.cls yX0_commitAll yX0_commitAll ∈ lw_all := List.mem_filter.mpr ⟨List.mem_append_right _ (List.mem_of_getElem? (i := 237) (by decide +kernel)), by decide⟩
theorem wk_yX0_commitAll : Cond.code yX0_commitAll cX0_commitAll 2 none ∈ lw_all := List.mem_filter.mpr ⟨List.mem_append_right _ (List.mem_of_getElem? (i := 238) (by decide +kernel)), by decide⟩
theorem wm_X0_96 : Cond.methodLink RX0 96 yX0_commit ∈ lw_all := List.mem_filter.mpr ⟨List.mem_append_right _ (List.mem_of_getElem? (i := 239) (by decide +kernel)), by decide⟩
theorem wn_yX0_commit : Cond.instanceMethod yX0_commit ∈ lw_all := List.mem_filter.mpr ⟨List.mem_append_right _ (List.mem_of_getElem? (i := 240) (by decide +kernel)), by decide⟩
theorem wo_yX0_commit : Cond.selects yX0_commit.cls yX0_commit yX0_commit ∈ lw_all := List.mem_filter.mpr ⟨List.mem_append_right _ (List.mem_of_getElem? (i := 241) (by decide +kernel)), by decide⟩
theorem wk_yX0_commit : Cond.code yX0_commit cX0_commit 3 none ∈ lw_all := List.mem_filter.mpr ⟨List.mem_append_right _ (List.mem_of_getElem? (i := 242) (by decide +kernel)), by decide⟩
theorem wm_X0_131 : Cond.methodLink RX0 131 yX1_termAt ∈ lw_all := List.mem_filter.mpr ⟨List.mem_append_right _ (List.mem_of_getElem? (i := 243) (by decide +kernel)), by decide⟩
theorem wm_X0_134 : Cond.methodLink RX0 134 yX0_hearersThatAgree ∈ lw_all := List.mem_filter.mpr ⟨List.mem_append_right _ (List.mem_of_getElem? (i := 244) (by decide +kernel)), by decide⟩
theorem wn_yX0_hearersThatAgree : Cond.instanceMethod yX0_hearersThatAgree ∈ lw_all := List.mem_filter.mpr ⟨List.mem_append_right _ (List.mem_of_getElem? (i := 245) (by decide +kernel)), by decide⟩
theorem wo_yX0_hearersThatAgree : Cond.selects yX0_hearersThatAgree.cls yX0_hearersThatAgree yX0_hearersThatAgree ∈ lw_all := List.mem_filter.mpr ⟨List.mem_append_right _ (List.mem_of_getElem? (i := 246) (by decide +kernel)), by decide⟩
theorem wk_yX0_hearersThatAgree : Cond.code yX0_hearersThatAgree cX0_hearersThatAgree 5 (some .int) ∈ lw_all := List.mem_filter.mpr ⟨List.mem_append_right _ (List.mem_of_getElem? (i := 247) (by decide +kernel)), by decide⟩
theorem wm_X0_137 : Cond.methodLink RX0 137 yX1_agreement ∈ lw_all := List.mem_filter.mpr ⟨List.mem_append_right _ (List.mem_of_getElem? (i := 248) (by decide +kernel)), by decide⟩
theorem wm_L_125 : Cond.methodLink RL 125 yX2_mean ∈ lw_all := List.mem_filter.mpr ⟨List.mem_append_right _ (List.mem_of_getElem? (i := 249) (by decide +kernel)), by decide⟩
theorem wn_yX2_mean : Cond.instanceMethod yX2_mean ∈ lw_all := List.mem_filter.mpr ⟨List.mem_append_right _ (List.mem_of_getElem? (i := 250) (by decide +kernel)), by decide⟩
theorem wo_yX2_mean : Cond.selects yX2_mean.cls yX2_mean yX2_mean ∈ lw_all := List.mem_filter.mpr ⟨List.mem_append_right _ (List.mem_of_getElem? (i := 251) (by decide +kernel)), by decide⟩
theorem wk_yX2_mean : Cond.code yX2_mean cX2_mean 3 (some .double) ∈ lw_all := List.mem_filter.mpr ⟨List.mem_append_right _ (List.mem_of_getElem? (i := 252) (by decide +kernel)), by decide⟩
theorem wm_L_130 : Cond.methodLink RL 130 yX2_digest ∈ lw_all := List.mem_filter.mpr ⟨List.mem_append_right _ (List.mem_of_getElem? (i := 253) (by decide +kernel)), by decide⟩
theorem wn_yX2_digest : Cond.instanceMethod yX2_digest ∈ lw_all := List.mem_filter.mpr ⟨List.mem_append_right _ (List.mem_of_getElem? (i := 254) (by decide +kernel)), by decide⟩
theorem wo_yX2_digest : Cond.selects yX2_digest.cls yX2_digest yX2_digest ∈ lw_all := List.mem_filter.mpr ⟨List.mem_append_right _ (List.mem_of_getElem? (i := 255) (by decide +kernel)), by decide⟩
theorem wk_yX2_digest : Cond.code yX2_digest cX2_digest 4 (some .long) ∈ lw_all := List.mem_filter.mpr ⟨List.mem_append_right _ (List.mem_of_getElem? (i := 256) (by decide +kernel)), by decide⟩
theorem wc_X2_145 : Cond.constantLong RX2 145 (1759) ∈ lw_all := List.mem_filter.mpr ⟨List.mem_append_right _ (List.mem_of_getElem? (i := 257) (by decide +kernel)), by decide⟩
theorem wc_X2_147 : Cond.constantLong RX2 147 (31) ∈ lw_all := List.mem_filter.mpr ⟨List.mem_append_right _ (List.mem_of_getElem? (i := 258) (by decide +kernel)), by decide⟩
theorem wm_X2_110 : Cond.methodLink RX2 110 yX0_ofFleet ∈ lw_all := List.mem_filter.mpr ⟨List.mem_append_right _ (List.mem_of_getElem? (i := 259) (by decide +kernel)), by decide⟩
theorem wn_yX0_ofFleet : Cond.instanceMethod yX0_ofFleet ∈ lw_all := List.mem_filter.mpr ⟨List.mem_append_right _ (List.mem_of_getElem? (i := 260) (by decide +kernel)), by decide⟩
theorem wo_yX0_ofFleet : Cond.selects yX0_ofFleet.cls yX0_ofFleet yX0_ofFleet ∈ lw_all := List.mem_filter.mpr ⟨List.mem_append_right _ (List.mem_of_getElem? (i := 261) (by decide +kernel)), by decide⟩
theorem wk_yX0_ofFleet : Cond.code yX0_ofFleet cX0_ofFleet 2 (some .int) ∈ lw_all := List.mem_filter.mpr ⟨List.mem_append_right _ (List.mem_of_getElem? (i := 262) (by decide +kernel)), by decide⟩
theorem wm_X0_153 : Cond.methodLink RX0 153 yX0_boatsUp ∈ lw_all := List.mem_filter.mpr ⟨List.mem_append_right _ (List.mem_of_getElem? (i := 263) (by decide +kernel)), by decide⟩
theorem wn_yX0_boatsUp : Cond.instanceMethod yX0_boatsUp ∈ lw_all := List.mem_filter.mpr ⟨List.mem_append_right _ (List.mem_of_getElem? (i := 264) (by decide +kernel)), by decide⟩
theorem wo_yX0_boatsUp : Cond.selects yX0_boatsUp.cls yX0_boatsUp yX0_boatsUp ∈ lw_all := List.mem_filter.mpr ⟨List.mem_append_right _ (List.mem_of_getElem? (i := 265) (by decide +kernel)), by decide⟩
theorem wk_yX0_boatsUp : Cond.code yX0_boatsUp cX0_boatsUp 3 (some .int) ∈ lw_all := List.mem_filter.mpr ⟨List.mem_append_right _ (List.mem_of_getElem? (i := 266) (by decide +kernel)), by decide⟩
theorem wm_X0_157 : Cond.methodLink RX0 157 yX0_boatsLeading ∈ lw_all := List.mem_filter.mpr ⟨List.mem_append_right _ (List.mem_of_getElem? (i := 267) (by decide +kernel)), by decide⟩
theorem wn_yX0_boatsLeading : Cond.instanceMethod yX0_boatsLeading ∈ lw_all := List.mem_filter.mpr ⟨List.mem_append_right _ (List.mem_of_getElem? (i := 268) (by decide +kernel)), by decide⟩
theorem wo_yX0_boatsLeading : Cond.selects yX0_boatsLeading.cls yX0_boatsLeading yX0_boatsLeading ∈ lw_all := List.mem_filter.mpr ⟨List.mem_append_right _ (List.mem_of_getElem? (i := 269) (by decide +kernel)), by decide⟩
theorem wk_yX0_boatsLeading : Cond.code yX0_boatsLeading cX0_boatsLeading 3 (some .int) ∈ lw_all := List.mem_filter.mpr ⟨List.mem_append_right _ (List.mem_of_getElem? (i := 270) (by decide +kernel)), by decide⟩
theorem wm_X0_160 : Cond.methodLink RX0 160 yX0_greatestTerm ∈ lw_all := List.mem_filter.mpr ⟨List.mem_append_right _ (List.mem_of_getElem? (i := 271) (by decide +kernel)), by decide⟩
theorem wn_yX0_greatestTerm : Cond.instanceMethod yX0_greatestTerm ∈ lw_all := List.mem_filter.mpr ⟨List.mem_append_right _ (List.mem_of_getElem? (i := 272) (by decide +kernel)), by decide⟩
theorem wo_yX0_greatestTerm : Cond.selects yX0_greatestTerm.cls yX0_greatestTerm yX0_greatestTerm ∈ lw_all := List.mem_filter.mpr ⟨List.mem_append_right _ (List.mem_of_getElem? (i := 273) (by decide +kernel)), by decide⟩
theorem wk_yX0_greatestTerm : Cond.code yX0_greatestTerm cX0_greatestTerm 3 (some .int) ∈ lw_all := List.mem_filter.mpr ⟨List.mem_append_right _ (List.mem_of_getElem? (i := 274) (by decide +kernel)), by decide⟩
theorem wm_X0_163 : Cond.methodLink RX0 163 yX0_mostKnown ∈ lw_all := List.mem_filter.mpr ⟨List.mem_append_right _ (List.mem_of_getElem? (i := 275) (by decide +kernel)), by decide⟩
theorem wn_yX0_mostKnown : Cond.instanceMethod yX0_mostKnown ∈ lw_all := List.mem_filter.mpr ⟨List.mem_append_right _ (List.mem_of_getElem? (i := 276) (by decide +kernel)), by decide⟩
theorem wo_yX0_mostKnown : Cond.selects yX0_mostKnown.cls yX0_mostKnown yX0_mostKnown ∈ lw_all := List.mem_filter.mpr ⟨List.mem_append_right _ (List.mem_of_getElem? (i := 277) (by decide +kernel)), by decide⟩
theorem wk_yX0_mostKnown : Cond.code yX0_mostKnown cX0_mostKnown 3 (some .int) ∈ lw_all := List.mem_filter.mpr ⟨List.mem_append_right _ (List.mem_of_getElem? (i := 278) (by decide +kernel)), by decide⟩
theorem wm_X0_166 : Cond.methodLink RX0 166 yX0_fewestKnown ∈ lw_all := List.mem_filter.mpr ⟨List.mem_append_right _ (List.mem_of_getElem? (i := 279) (by decide +kernel)), by decide⟩
theorem wn_yX0_fewestKnown : Cond.instanceMethod yX0_fewestKnown ∈ lw_all := List.mem_filter.mpr ⟨List.mem_append_right _ (List.mem_of_getElem? (i := 280) (by decide +kernel)), by decide⟩
theorem wo_yX0_fewestKnown : Cond.selects yX0_fewestKnown.cls yX0_fewestKnown yX0_fewestKnown ∈ lw_all := List.mem_filter.mpr ⟨List.mem_append_right _ (List.mem_of_getElem? (i := 281) (by decide +kernel)), by decide⟩
theorem wk_yX0_fewestKnown : Cond.code yX0_fewestKnown cX0_fewestKnown 3 (some .int) ∈ lw_all := List.mem_filter.mpr ⟨List.mem_append_right _ (List.mem_of_getElem? (i := 282) (by decide +kernel)), by decide⟩
theorem wm_X2_149 : Cond.methodLink RX2 149 yX2_digestOfBoat ∈ lw_all := List.mem_filter.mpr ⟨List.mem_append_right _ (List.mem_of_getElem? (i := 283) (by decide +kernel)), by decide⟩
theorem wn_yX2_digestOfBoat : Cond.instanceMethod yX2_digestOfBoat ∈ lw_all := List.mem_filter.mpr ⟨List.mem_append_right _ (List.mem_of_getElem? (i := 285) (by decide +kernel)), by decide⟩
theorem wk_yX2_digestOfBoat : Cond.code yX2_digestOfBoat cX2_digestOfBoat 8 (some .long) ∈ lw_all := List.mem_filter.mpr ⟨List.mem_append_right _ (List.mem_of_getElem? (i := 286) (by decide +kernel)), by decide⟩
theorem wm_X2_92 : Cond.methodLink RX2 92 yX0_ofBoat ∈ lw_all := List.mem_filter.mpr ⟨List.mem_append_right _ (List.mem_of_getElem? (i := 287) (by decide +kernel)), by decide⟩
theorem wn_yX0_ofBoat : Cond.instanceMethod yX0_ofBoat ∈ lw_all := List.mem_filter.mpr ⟨List.mem_append_right _ (List.mem_of_getElem? (i := 288) (by decide +kernel)), by decide⟩
theorem wo_yX0_ofBoat : Cond.selects yX0_ofBoat.cls yX0_ofBoat yX0_ofBoat ∈ lw_all := List.mem_filter.mpr ⟨List.mem_append_right _ (List.mem_of_getElem? (i := 289) (by decide +kernel)), by decide⟩
theorem wk_yX0_ofBoat : Cond.code yX0_ofBoat cX0_ofBoat 3 (some .int) ∈ lw_all := List.mem_filter.mpr ⟨List.mem_append_right _ (List.mem_of_getElem? (i := 290) (by decide +kernel)), by decide⟩
theorem wm_X0_144 : Cond.methodLink RX0 144 yX1_lastTerm ∈ lw_all := List.mem_filter.mpr ⟨List.mem_append_right _ (List.mem_of_getElem? (i := 291) (by decide +kernel)), by decide⟩
theorem wm_X2_96 : Cond.methodLink RX2 96 yX0_ofEntry ∈ lw_all := List.mem_filter.mpr ⟨List.mem_append_right _ (List.mem_of_getElem? (i := 292) (by decide +kernel)), by decide⟩
theorem wn_yX0_ofEntry : Cond.instanceMethod yX0_ofEntry ∈ lw_all := List.mem_filter.mpr ⟨List.mem_append_right _ (List.mem_of_getElem? (i := 293) (by decide +kernel)), by decide⟩
theorem wo_yX0_ofEntry : Cond.selects yX0_ofEntry.cls yX0_ofEntry yX0_ofEntry ∈ lw_all := List.mem_filter.mpr ⟨List.mem_append_right _ (List.mem_of_getElem? (i := 294) (by decide +kernel)), by decide⟩
theorem wk_yX0_ofEntry : Cond.code yX0_ofEntry cX0_ofEntry 4 (some .int) ∈ lw_all := List.mem_filter.mpr ⟨List.mem_append_right _ (List.mem_of_getElem? (i := 295) (by decide +kernel)), by decide⟩
theorem wm_X0_147 : Cond.methodLink RX0 147 yX1_fishAt ∈ lw_all := List.mem_filter.mpr ⟨List.mem_append_right _ (List.mem_of_getElem? (i := 296) (by decide +kernel)), by decide⟩
theorem wm_X0_150 : Cond.methodLink RX0 150 yX0_boatsThatAgree ∈ lw_all := List.mem_filter.mpr ⟨List.mem_append_right _ (List.mem_of_getElem? (i := 297) (by decide +kernel)), by decide⟩
theorem wn_yX0_boatsThatAgree : Cond.instanceMethod yX0_boatsThatAgree ∈ lw_all := List.mem_filter.mpr ⟨List.mem_append_right _ (List.mem_of_getElem? (i := 298) (by decide +kernel)), by decide⟩
theorem wo_yX0_boatsThatAgree : Cond.selects yX0_boatsThatAgree.cls yX0_boatsThatAgree yX0_boatsThatAgree ∈ lw_all := List.mem_filter.mpr ⟨List.mem_append_right _ (List.mem_of_getElem? (i := 299) (by decide +kernel)), by decide⟩
theorem wk_yX0_boatsThatAgree : Cond.code yX0_boatsThatAgree cX0_boatsThatAgree 5 (some .int) ∈ lw_all := List.mem_filter.mpr ⟨List.mem_append_right _ (List.mem_of_getElem? (i := 300) (by decide +kernel)), by decide⟩
theorem wm_L_66 : Cond.methodLink RL 66 yL_fleet ∈ lw_all := List.mem_filter.mpr ⟨List.mem_append_right _ (List.mem_of_getElem? (i := 301) (by decide +kernel)), by decide⟩
theorem ws_yL_fleet : Cond.static yL_fleet ∈ lw_all := List.mem_filter.mpr ⟨List.mem_append_right _ (List.mem_of_getElem? (i := 302) (by decide +kernel)), by decide⟩
theorem wk_yL_fleet : Cond.codeWith yL_fleet cL_fleet 4 (some .int) [(0, 9, 12, 13)] ∈ lw_all := List.mem_filter.mpr ⟨List.mem_append_right _ (List.mem_of_getElem? (i := 303) (by decide +kernel)), by decide⟩
theorem wl_L_13 : Cond.classLink RL 13 "java/lang/IllegalArgumentException" ∈ lw_all := List.mem_filter.mpr ⟨List.mem_append_right _ (List.mem_of_getElem? (i := 304) (by decide +kernel)), by decide⟩
theorem wm_L_7 : Cond.methodLink RL 7 yX2_fleet ∈ lw_all := List.mem_filter.mpr ⟨List.mem_append_right _ (List.mem_of_getElem? (i := 305) (by decide +kernel)), by decide⟩
theorem wn_yX2_fleet : Cond.instanceMethod yX2_fleet ∈ lw_all := List.mem_filter.mpr ⟨List.mem_append_right _ (List.mem_of_getElem? (i := 306) (by decide +kernel)), by decide⟩
theorem wo_yX2_fleet : Cond.selects yX2_fleet.cls yX2_fleet yX2_fleet ∈ lw_all := List.mem_filter.mpr ⟨List.mem_append_right _ (List.mem_of_getElem? (i := 307) (by decide +kernel)), by decide⟩
theorem wk_yX2_fleet : Cond.code yX2_fleet cX2_fleet 2 (some .int) ∈ lw_all := List.mem_filter.mpr ⟨List.mem_append_right _ (List.mem_of_getElem? (i := 308) (by decide +kernel)), by decide⟩
theorem wl_X2_23 : Cond.classLink RX2 23 "java/lang/IllegalArgumentException" ∈ lw_all := List.mem_filter.mpr ⟨List.mem_append_right _ (List.mem_of_getElem? (i := 309) (by decide +kernel)), by decide⟩
theorem wt_IllegalArgumentException : Cond.castable "java/lang/IllegalArgumentException" "java/lang/IllegalArgumentException" ∈ lw_env := List.mem_filter.mpr ⟨List.mem_append_right _ (List.mem_of_getElem? (i := 311) (by decide +kernel)), by decide⟩
theorem wm_X2_27 : Cond.methodLink RX2 27 (⟨"java/lang/IllegalArgumentException", "<init>", "(Ljava/lang/String;)V"⟩ : MethodName) ∈ lw_all := List.mem_filter.mpr ⟨List.mem_append_right _ (List.mem_of_getElem? (i := 351) (by decide +kernel)), by decide⟩
theorem wa_byte : Cond.arrayClass .byte ∈ lw_all := List.mem_filter.mpr ⟨List.mem_append_right _ (List.mem_of_getElem? (i := 376) (by decide +kernel)), by decide⟩
theorem wm_L_76 : Cond.methodLink RL 76 yL_setPatience ∈ lw_all := List.mem_filter.mpr ⟨List.mem_append_right _ (List.mem_of_getElem? (i := 377) (by decide +kernel)), by decide⟩
theorem ws_yL_setPatience : Cond.static yL_setPatience ∈ lw_all := List.mem_filter.mpr ⟨List.mem_append_right _ (List.mem_of_getElem? (i := 378) (by decide +kernel)), by decide⟩
theorem wk_yL_setPatience : Cond.codeWith yL_setPatience cL_setPatience 5 (some .int) [(0, 10, 13, 19), (0, 10, 17, 13)] ∈ lw_all := List.mem_filter.mpr ⟨List.mem_append_right _ (List.mem_of_getElem? (i := 379) (by decide +kernel)), by decide⟩
theorem wl_L_19 : Cond.classLink RL 19 "java/lang/IndexOutOfBoundsException" ∈ lw_all := List.mem_filter.mpr ⟨List.mem_append_right _ (List.mem_of_getElem? (i := 380) (by decide +kernel)), by decide⟩
theorem wm_L_15 : Cond.methodLink RL 15 yX2_setPatience ∈ lw_all := List.mem_filter.mpr ⟨List.mem_append_right _ (List.mem_of_getElem? (i := 381) (by decide +kernel)), by decide⟩
theorem wn_yX2_setPatience : Cond.instanceMethod yX2_setPatience ∈ lw_all := List.mem_filter.mpr ⟨List.mem_append_right _ (List.mem_of_getElem? (i := 382) (by decide +kernel)), by decide⟩
theorem wo_yX2_setPatience : Cond.selects yX2_setPatience.cls yX2_setPatience yX2_setPatience ∈ lw_all := List.mem_filter.mpr ⟨List.mem_append_right _ (List.mem_of_getElem? (i := 383) (by decide +kernel)), by decide⟩
theorem wk_yX2_setPatience : Cond.code yX2_setPatience cX2_setPatience 4 (some .int) ∈ lw_all := List.mem_filter.mpr ⟨List.mem_append_right _ (List.mem_of_getElem? (i := 384) (by decide +kernel)), by decide⟩
theorem wm_X2_30 : Cond.methodLink RX2 30 yX2_needBoat ∈ lw_all := List.mem_filter.mpr ⟨List.mem_append_right _ (List.mem_of_getElem? (i := 385) (by decide +kernel)), by decide⟩
theorem wn_yX2_needBoat : Cond.instanceMethod yX2_needBoat ∈ lw_all := List.mem_filter.mpr ⟨List.mem_append_right _ (List.mem_of_getElem? (i := 387) (by decide +kernel)), by decide⟩
theorem wk_yX2_needBoat : Cond.code yX2_needBoat cX2_needBoat 2 none ∈ lw_all := List.mem_filter.mpr ⟨List.mem_append_right _ (List.mem_of_getElem? (i := 388) (by decide +kernel)), by decide⟩
theorem wl_X2_131 : Cond.classLink RX2 131 "java/lang/IndexOutOfBoundsException" ∈ lw_all := List.mem_filter.mpr ⟨List.mem_append_right _ (List.mem_of_getElem? (i := 389) (by decide +kernel)), by decide⟩
theorem wt_IndexOutOfBoundsException : Cond.castable "java/lang/IndexOutOfBoundsException" "java/lang/IndexOutOfBoundsException" ∈ lw_env := List.mem_filter.mpr ⟨List.mem_append_right _ (List.mem_of_getElem? (i := 391) (by decide +kernel)), by decide⟩
theorem wm_X2_135 : Cond.methodLink RX2 135 (⟨"java/lang/IndexOutOfBoundsException", "<init>", "(Ljava/lang/String;)V"⟩ : MethodName) ∈ lw_all := List.mem_filter.mpr ⟨List.mem_append_right _ (List.mem_of_getElem? (i := 399) (by decide +kernel)), by decide⟩
theorem wm_L_80 : Cond.methodLink RL 80 yL_go ∈ lw_all := List.mem_filter.mpr ⟨List.mem_append_right _ (List.mem_of_getElem? (i := 406) (by decide +kernel)), by decide⟩
theorem ws_yL_go : Cond.static yL_go ∈ lw_all := List.mem_filter.mpr ⟨List.mem_append_right _ (List.mem_of_getElem? (i := 407) (by decide +kernel)), by decide⟩
theorem wk_yL_go : Cond.codeWith yL_go cL_go 5 (some .int) [(0, 10, 13, 19)] ∈ lw_all := List.mem_filter.mpr ⟨List.mem_append_right _ (List.mem_of_getElem? (i := 408) (by decide +kernel)), by decide⟩
theorem wm_L_21 : Cond.methodLink RL 21 yX2_go ∈ lw_all := List.mem_filter.mpr ⟨List.mem_append_right _ (List.mem_of_getElem? (i := 409) (by decide +kernel)), by decide⟩
theorem wn_yX2_go : Cond.instanceMethod yX2_go ∈ lw_all := List.mem_filter.mpr ⟨List.mem_append_right _ (List.mem_of_getElem? (i := 410) (by decide +kernel)), by decide⟩
theorem wo_yX2_go : Cond.selects yX2_go.cls yX2_go yX2_go ∈ lw_all := List.mem_filter.mpr ⟨List.mem_append_right _ (List.mem_of_getElem? (i := 411) (by decide +kernel)), by decide⟩
theorem wk_yX2_go : Cond.code yX2_go cX2_go 4 (some .int) ∈ lw_all := List.mem_filter.mpr ⟨List.mem_append_right _ (List.mem_of_getElem? (i := 412) (by decide +kernel)), by decide⟩
theorem wm_X2_39 : Cond.methodLink RX2 39 yX2_needBelow ∈ lw_all := List.mem_filter.mpr ⟨List.mem_append_right _ (List.mem_of_getElem? (i := 413) (by decide +kernel)), by decide⟩
theorem wn_yX2_needBelow : Cond.instanceMethod yX2_needBelow ∈ lw_all := List.mem_filter.mpr ⟨List.mem_append_right _ (List.mem_of_getElem? (i := 415) (by decide +kernel)), by decide⟩
theorem wk_yX2_needBelow : Cond.code yX2_needBelow cX2_needBelow 3 none ∈ lw_all := List.mem_filter.mpr ⟨List.mem_append_right _ (List.mem_of_getElem? (i := 416) (by decide +kernel)), by decide⟩
theorem wm_L_83 : Cond.methodLink RL 83 yL_sink ∈ lw_all := List.mem_filter.mpr ⟨List.mem_append_right _ (List.mem_of_getElem? (i := 418) (by decide +kernel)), by decide⟩
theorem ws_yL_sink : Cond.static yL_sink ∈ lw_all := List.mem_filter.mpr ⟨List.mem_append_right _ (List.mem_of_getElem? (i := 419) (by decide +kernel)), by decide⟩
theorem wk_yL_sink : Cond.codeWith yL_sink cL_sink 4 (some .int) [(0, 16, 19, 19)] ∈ lw_all := List.mem_filter.mpr ⟨List.mem_append_right _ (List.mem_of_getElem? (i := 420) (by decide +kernel)), by decide⟩
theorem wm_L_24 : Cond.methodLink RL 24 yX2_sink ∈ lw_all := List.mem_filter.mpr ⟨List.mem_append_right _ (List.mem_of_getElem? (i := 421) (by decide +kernel)), by decide⟩
theorem wn_yX2_sink : Cond.instanceMethod yX2_sink ∈ lw_all := List.mem_filter.mpr ⟨List.mem_append_right _ (List.mem_of_getElem? (i := 422) (by decide +kernel)), by decide⟩
theorem wo_yX2_sink : Cond.selects yX2_sink.cls yX2_sink yX2_sink ∈ lw_all := List.mem_filter.mpr ⟨List.mem_append_right _ (List.mem_of_getElem? (i := 423) (by decide +kernel)), by decide⟩
theorem wk_yX2_sink : Cond.code yX2_sink cX2_sink 2 (some .boolean) ∈ lw_all := List.mem_filter.mpr ⟨List.mem_append_right _ (List.mem_of_getElem? (i := 424) (by decide +kernel)), by decide⟩
theorem wm_X2_50 : Cond.methodLink RX2 50 yX0_raise ∈ lw_all := List.mem_filter.mpr ⟨List.mem_append_right _ (List.mem_of_getElem? (i := 425) (by decide +kernel)), by decide⟩
theorem wn_yX0_raise : Cond.instanceMethod yX0_raise ∈ lw_all := List.mem_filter.mpr ⟨List.mem_append_right _ (List.mem_of_getElem? (i := 426) (by decide +kernel)), by decide⟩
theorem wo_yX0_raise : Cond.selects yX0_raise.cls yX0_raise yX0_raise ∈ lw_all := List.mem_filter.mpr ⟨List.mem_append_right _ (List.mem_of_getElem? (i := 427) (by decide +kernel)), by decide⟩
theorem wk_yX0_raise : Cond.code yX0_raise cX0_raise 2 none ∈ lw_all := List.mem_filter.mpr ⟨List.mem_append_right _ (List.mem_of_getElem? (i := 428) (by decide +kernel)), by decide⟩
theorem wm_L_86 : Cond.methodLink RL 86 yL_write ∈ lw_all := List.mem_filter.mpr ⟨List.mem_append_right _ (List.mem_of_getElem? (i := 429) (by decide +kernel)), by decide⟩
theorem ws_yL_write : Cond.static yL_write ∈ lw_all := List.mem_filter.mpr ⟨List.mem_append_right _ (List.mem_of_getElem? (i := 430) (by decide +kernel)), by decide⟩
theorem wk_yL_write : Cond.codeWith yL_write cL_write 5 (some .int) [(0, 10, 13, 19), (0, 10, 17, 13), (0, 10, 21, 31)] ∈ lw_all := List.mem_filter.mpr ⟨List.mem_append_right _ (List.mem_of_getElem? (i := 431) (by decide +kernel)), by decide⟩
theorem wl_L_31 : Cond.classLink RL 31 "java/lang/IllegalStateException" ∈ lw_all := List.mem_filter.mpr ⟨List.mem_append_right _ (List.mem_of_getElem? (i := 432) (by decide +kernel)), by decide⟩
theorem wm_L_28 : Cond.methodLink RL 28 yX2_write ∈ lw_all := List.mem_filter.mpr ⟨List.mem_append_right _ (List.mem_of_getElem? (i := 433) (by decide +kernel)), by decide⟩
theorem wn_yX2_write : Cond.instanceMethod yX2_write ∈ lw_all := List.mem_filter.mpr ⟨List.mem_append_right _ (List.mem_of_getElem? (i := 434) (by decide +kernel)), by decide⟩
theorem wo_yX2_write : Cond.selects yX2_write.cls yX2_write yX2_write ∈ lw_all := List.mem_filter.mpr ⟨List.mem_append_right _ (List.mem_of_getElem? (i := 435) (by decide +kernel)), by decide⟩
theorem wk_yX2_write : Cond.code yX2_write cX2_write 3 (some .int) ∈ lw_all := List.mem_filter.mpr ⟨List.mem_append_right _ (List.mem_of_getElem? (i := 436) (by decide +kernel)), by decide⟩
theorem wl_X2_59 : Cond.classLink RX2 59 "java/lang/IllegalStateException" ∈ lw_all := List.mem_filter.mpr ⟨List.mem_append_right _ (List.mem_of_getElem? (i := 438) (by decide +kernel)), by decide⟩
theorem wt_IllegalStateException : Cond.castable "java/lang/IllegalStateException" "java/lang/IllegalStateException" ∈ lw_env := List.mem_filter.mpr ⟨List.mem_append_right _ (List.mem_of_getElem? (i := 440) (by decide +kernel)), by decide⟩
theorem wm_X2_63 : Cond.methodLink RX2 63 (⟨"java/lang/IllegalStateException", "<init>", "(Ljava/lang/String;)V"⟩ : MethodName) ∈ lw_all := List.mem_filter.mpr ⟨List.mem_append_right _ (List.mem_of_getElem? (i := 448) (by decide +kernel)), by decide⟩
theorem wm_X2_78 : Cond.methodLink RX2 78 yX1_append ∈ lw_all := List.mem_filter.mpr ⟨List.mem_append_right _ (List.mem_of_getElem? (i := 455) (by decide +kernel)), by decide⟩
theorem wm_L_89 : Cond.methodLink RL 89 yL_pass ∈ lw_all := List.mem_filter.mpr ⟨List.mem_append_right _ (List.mem_of_getElem? (i := 456) (by decide +kernel)), by decide⟩
theorem ws_yL_pass : Cond.static yL_pass ∈ lw_all := List.mem_filter.mpr ⟨List.mem_append_right _ (List.mem_of_getElem? (i := 457) (by decide +kernel)), by decide⟩
theorem wk_yL_pass : Cond.codeWith yL_pass cL_pass 4 (some .int) [(0, 9, 12, 13)] ∈ lw_all := List.mem_filter.mpr ⟨List.mem_append_right _ (List.mem_of_getElem? (i := 458) (by decide +kernel)), by decide⟩
theorem wm_L_33 : Cond.methodLink RL 33 yX2_pass ∈ lw_all := List.mem_filter.mpr ⟨List.mem_append_right _ (List.mem_of_getElem? (i := 459) (by decide +kernel)), by decide⟩
theorem wn_yX2_pass : Cond.instanceMethod yX2_pass ∈ lw_all := List.mem_filter.mpr ⟨List.mem_append_right _ (List.mem_of_getElem? (i := 460) (by decide +kernel)), by decide⟩
theorem wo_yX2_pass : Cond.selects yX2_pass.cls yX2_pass yX2_pass ∈ lw_all := List.mem_filter.mpr ⟨List.mem_append_right _ (List.mem_of_getElem? (i := 461) (by decide +kernel)), by decide⟩
theorem wk_yX2_pass : Cond.code yX2_pass cX2_pass 3 (some .int) ∈ lw_all := List.mem_filter.mpr ⟨List.mem_append_right _ (List.mem_of_getElem? (i := 462) (by decide +kernel)), by decide⟩
theorem wm_X2_82 : Cond.methodLink RX2 82 yX2_needHours ∈ lw_all := List.mem_filter.mpr ⟨List.mem_append_right _ (List.mem_of_getElem? (i := 463) (by decide +kernel)), by decide⟩
theorem wn_yX2_needHours : Cond.instanceMethod yX2_needHours ∈ lw_all := List.mem_filter.mpr ⟨List.mem_append_right _ (List.mem_of_getElem? (i := 465) (by decide +kernel)), by decide⟩
theorem wk_yX2_needHours : Cond.code yX2_needHours cX2_needHours 3 none ∈ lw_all := List.mem_filter.mpr ⟨List.mem_append_right _ (List.mem_of_getElem? (i := 466) (by decide +kernel)), by decide⟩
theorem wm_L_92 : Cond.methodLink RL 92 yL_told ∈ lw_all := List.mem_filter.mpr ⟨List.mem_append_right _ (List.mem_of_getElem? (i := 468) (by decide +kernel)), by decide⟩
theorem ws_yL_told : Cond.static yL_told ∈ lw_all := List.mem_filter.mpr ⟨List.mem_append_right _ (List.mem_of_getElem? (i := 469) (by decide +kernel)), by decide⟩
theorem wk_yL_told : Cond.codeWith yL_told cL_told 5 (some .int) [(0, 10, 13, 19)] ∈ lw_all := List.mem_filter.mpr ⟨List.mem_append_right _ (List.mem_of_getElem? (i := 470) (by decide +kernel)), by decide⟩
theorem wm_L_36 : Cond.methodLink RL 36 yX2_told ∈ lw_all := List.mem_filter.mpr ⟨List.mem_append_right _ (List.mem_of_getElem? (i := 471) (by decide +kernel)), by decide⟩
theorem wn_yX2_told : Cond.instanceMethod yX2_told ∈ lw_all := List.mem_filter.mpr ⟨List.mem_append_right _ (List.mem_of_getElem? (i := 472) (by decide +kernel)), by decide⟩
theorem wo_yX2_told : Cond.selects yX2_told.cls yX2_told yX2_told ∈ lw_all := List.mem_filter.mpr ⟨List.mem_append_right _ (List.mem_of_getElem? (i := 473) (by decide +kernel)), by decide⟩
theorem wk_yX2_told : Cond.code yX2_told cX2_told 3 (some .int) ∈ lw_all := List.mem_filter.mpr ⟨List.mem_append_right _ (List.mem_of_getElem? (i := 474) (by decide +kernel)), by decide⟩
theorem wm_L_95 : Cond.methodLink RL 95 yL_entry ∈ lw_all := List.mem_filter.mpr ⟨List.mem_append_right _ (List.mem_of_getElem? (i := 475) (by decide +kernel)), by decide⟩
theorem ws_yL_entry : Cond.static yL_entry ∈ lw_all := List.mem_filter.mpr ⟨List.mem_append_right _ (List.mem_of_getElem? (i := 476) (by decide +kernel)), by decide⟩
theorem wk_yL_entry : Cond.codeWith yL_entry cL_entry 6 (some .int) [(0, 12, 15, 19)] ∈ lw_all := List.mem_filter.mpr ⟨List.mem_append_right _ (List.mem_of_getElem? (i := 477) (by decide +kernel)), by decide⟩
theorem wm_L_39 : Cond.methodLink RL 39 yX2_entry ∈ lw_all := List.mem_filter.mpr ⟨List.mem_append_right _ (List.mem_of_getElem? (i := 478) (by decide +kernel)), by decide⟩
theorem wn_yX2_entry : Cond.instanceMethod yX2_entry ∈ lw_all := List.mem_filter.mpr ⟨List.mem_append_right _ (List.mem_of_getElem? (i := 479) (by decide +kernel)), by decide⟩
theorem wo_yX2_entry : Cond.selects yX2_entry.cls yX2_entry yX2_entry ∈ lw_all := List.mem_filter.mpr ⟨List.mem_append_right _ (List.mem_of_getElem? (i := 480) (by decide +kernel)), by decide⟩
theorem wk_yX2_entry : Cond.code yX2_entry cX2_entry 4 (some .int) ∈ lw_all := List.mem_filter.mpr ⟨List.mem_append_right _ (List.mem_of_getElem? (i := 481) (by decide +kernel)), by decide⟩
theorem wm_L_99 : Cond.methodLink RL 99 yL_agree ∈ lw_all := List.mem_filter.mpr ⟨List.mem_append_right _ (List.mem_of_getElem? (i := 482) (by decide +kernel)), by decide⟩
theorem ws_yL_agree : Cond.static yL_agree ∈ lw_all := List.mem_filter.mpr ⟨List.mem_append_right _ (List.mem_of_getElem? (i := 483) (by decide +kernel)), by decide⟩
theorem wk_yL_agree : Cond.codeWith yL_agree cL_agree 5 (some .int) [(0, 10, 13, 19)] ∈ lw_all := List.mem_filter.mpr ⟨List.mem_append_right _ (List.mem_of_getElem? (i := 484) (by decide +kernel)), by decide⟩
theorem wm_L_43 : Cond.methodLink RL 43 yX2_agree ∈ lw_all := List.mem_filter.mpr ⟨List.mem_append_right _ (List.mem_of_getElem? (i := 485) (by decide +kernel)), by decide⟩
theorem wn_yX2_agree : Cond.instanceMethod yX2_agree ∈ lw_all := List.mem_filter.mpr ⟨List.mem_append_right _ (List.mem_of_getElem? (i := 486) (by decide +kernel)), by decide⟩
theorem wo_yX2_agree : Cond.selects yX2_agree.cls yX2_agree yX2_agree ∈ lw_all := List.mem_filter.mpr ⟨List.mem_append_right _ (List.mem_of_getElem? (i := 487) (by decide +kernel)), by decide⟩
theorem wk_yX2_agree : Cond.code yX2_agree cX2_agree 3 (some .int) ∈ lw_all := List.mem_filter.mpr ⟨List.mem_append_right _ (List.mem_of_getElem? (i := 488) (by decide +kernel)), by decide⟩
theorem wm_X2_100 : Cond.methodLink RX2 100 yX1_agreement ∈ lw_all := List.mem_filter.mpr ⟨List.mem_append_right _ (List.mem_of_getElem? (i := 489) (by decide +kernel)), by decide⟩
theorem wm_L_102 : Cond.methodLink RL 102 yL_newer ∈ lw_all := List.mem_filter.mpr ⟨List.mem_append_right _ (List.mem_of_getElem? (i := 490) (by decide +kernel)), by decide⟩
theorem ws_yL_newer : Cond.static yL_newer ∈ lw_all := List.mem_filter.mpr ⟨List.mem_append_right _ (List.mem_of_getElem? (i := 491) (by decide +kernel)), by decide⟩
theorem wk_yL_newer : Cond.codeWith yL_newer cL_newer 5 (some .int) [(0, 17, 20, 19)] ∈ lw_all := List.mem_filter.mpr ⟨List.mem_append_right _ (List.mem_of_getElem? (i := 492) (by decide +kernel)), by decide⟩
theorem wm_L_46 : Cond.methodLink RL 46 yX2_newer ∈ lw_all := List.mem_filter.mpr ⟨List.mem_append_right _ (List.mem_of_getElem? (i := 493) (by decide +kernel)), by decide⟩
theorem wn_yX2_newer : Cond.instanceMethod yX2_newer ∈ lw_all := List.mem_filter.mpr ⟨List.mem_append_right _ (List.mem_of_getElem? (i := 494) (by decide +kernel)), by decide⟩
theorem wo_yX2_newer : Cond.selects yX2_newer.cls yX2_newer yX2_newer ∈ lw_all := List.mem_filter.mpr ⟨List.mem_append_right _ (List.mem_of_getElem? (i := 495) (by decide +kernel)), by decide⟩
theorem wk_yX2_newer : Cond.code yX2_newer cX2_newer 3 (some .boolean) ∈ lw_all := List.mem_filter.mpr ⟨List.mem_append_right _ (List.mem_of_getElem? (i := 496) (by decide +kernel)), by decide⟩
theorem wm_X2_103 : Cond.methodLink RX2 103 yX1_asNew ∈ lw_all := List.mem_filter.mpr ⟨List.mem_append_right _ (List.mem_of_getElem? (i := 497) (by decide +kernel)), by decide⟩
theorem wm_L_109 : Cond.methodLink RL 109 yL_count ∈ lw_all := List.mem_filter.mpr ⟨List.mem_append_right _ (List.mem_of_getElem? (i := 498) (by decide +kernel)), by decide⟩
theorem ws_yL_count : Cond.static yL_count ∈ lw_all := List.mem_filter.mpr ⟨List.mem_append_right _ (List.mem_of_getElem? (i := 499) (by decide +kernel)), by decide⟩
theorem wk_yL_count : Cond.codeWith yL_count cL_count 4 (some .int) [(0, 9, 12, 19)] ∈ lw_all := List.mem_filter.mpr ⟨List.mem_append_right _ (List.mem_of_getElem? (i := 500) (by decide +kernel)), by decide⟩
theorem wm_L_50 : Cond.methodLink RL 50 yX2_count ∈ lw_all := List.mem_filter.mpr ⟨List.mem_append_right _ (List.mem_of_getElem? (i := 501) (by decide +kernel)), by decide⟩
theorem wn_yX2_count : Cond.instanceMethod yX2_count ∈ lw_all := List.mem_filter.mpr ⟨List.mem_append_right _ (List.mem_of_getElem? (i := 502) (by decide +kernel)), by decide⟩
theorem wo_yX2_count : Cond.selects yX2_count.cls yX2_count yX2_count ∈ lw_all := List.mem_filter.mpr ⟨List.mem_append_right _ (List.mem_of_getElem? (i := 503) (by decide +kernel)), by decide⟩
theorem wk_yX2_count : Cond.code yX2_count cX2_count 2 (some .int) ∈ lw_all := List.mem_filter.mpr ⟨List.mem_append_right _ (List.mem_of_getElem? (i := 504) (by decide +kernel)), by decide⟩
theorem wm_L_112 : Cond.methodLink RL 112 yL_harbour ∈ lw_all := List.mem_filter.mpr ⟨List.mem_append_right _ (List.mem_of_getElem? (i := 505) (by decide +kernel)), by decide⟩
theorem ws_yL_harbour : Cond.static yL_harbour ∈ lw_all := List.mem_filter.mpr ⟨List.mem_append_right _ (List.mem_of_getElem? (i := 506) (by decide +kernel)), by decide⟩
theorem wk_yL_harbour : Cond.codeWith yL_harbour cL_harbour 5 (some .int) [(0, 10, 13, 19)] ∈ lw_all := List.mem_filter.mpr ⟨List.mem_append_right _ (List.mem_of_getElem? (i := 507) (by decide +kernel)), by decide⟩
theorem wm_L_53 : Cond.methodLink RL 53 yX2_harbour ∈ lw_all := List.mem_filter.mpr ⟨List.mem_append_right _ (List.mem_of_getElem? (i := 508) (by decide +kernel)), by decide⟩
theorem wn_yX2_harbour : Cond.instanceMethod yX2_harbour ∈ lw_all := List.mem_filter.mpr ⟨List.mem_append_right _ (List.mem_of_getElem? (i := 509) (by decide +kernel)), by decide⟩
theorem wo_yX2_harbour : Cond.selects yX2_harbour.cls yX2_harbour yX2_harbour ∈ lw_all := List.mem_filter.mpr ⟨List.mem_append_right _ (List.mem_of_getElem? (i := 510) (by decide +kernel)), by decide⟩
theorem wk_yX2_harbour : Cond.code yX2_harbour cX2_harbour 4 (some .int) ∈ lw_all := List.mem_filter.mpr ⟨List.mem_append_right _ (List.mem_of_getElem? (i := 511) (by decide +kernel)), by decide⟩
theorem wm_X2_114 : Cond.methodLink RX2 114 yX0_newestIn ∈ lw_all := List.mem_filter.mpr ⟨List.mem_append_right _ (List.mem_of_getElem? (i := 512) (by decide +kernel)), by decide⟩
theorem wn_yX0_newestIn : Cond.instanceMethod yX0_newestIn ∈ lw_all := List.mem_filter.mpr ⟨List.mem_append_right _ (List.mem_of_getElem? (i := 513) (by decide +kernel)), by decide⟩
theorem wo_yX0_newestIn : Cond.selects yX0_newestIn.cls yX0_newestIn yX0_newestIn ∈ lw_all := List.mem_filter.mpr ⟨List.mem_append_right _ (List.mem_of_getElem? (i := 514) (by decide +kernel)), by decide⟩
theorem wk_yX0_newestIn : Cond.code yX0_newestIn cX0_newestIn 4 (some .int) ∈ lw_all := List.mem_filter.mpr ⟨List.mem_append_right _ (List.mem_of_getElem? (i := 515) (by decide +kernel)), by decide⟩
theorem wm_X2_117 : Cond.methodLink RX2 117 yX0_upIn ∈ lw_all := List.mem_filter.mpr ⟨List.mem_append_right _ (List.mem_of_getElem? (i := 516) (by decide +kernel)), by decide⟩
theorem wm_X2_120 : Cond.methodLink RX2 120 yX0_isMoreThanHalf ∈ lw_all := List.mem_filter.mpr ⟨List.mem_append_right _ (List.mem_of_getElem? (i := 517) (by decide +kernel)), by decide⟩
theorem wm_L_119 : Cond.methodLink RL 119 yL_foresee ∈ lw_all := List.mem_filter.mpr ⟨List.mem_append_right _ (List.mem_of_getElem? (i := 518) (by decide +kernel)), by decide⟩
theorem ws_yL_foresee : Cond.static yL_foresee ∈ lw_all := List.mem_filter.mpr ⟨List.mem_append_right _ (List.mem_of_getElem? (i := 519) (by decide +kernel)), by decide⟩
theorem wk_yL_foresee : Cond.codeWith yL_foresee cL_foresee 5 (some .int) [(0, 10, 13, 13), (0, 10, 17, 19)] ∈ lw_all := List.mem_filter.mpr ⟨List.mem_append_right _ (List.mem_of_getElem? (i := 520) (by decide +kernel)), by decide⟩
theorem wm_L_56 : Cond.methodLink RL 56 yX2_foresee ∈ lw_all := List.mem_filter.mpr ⟨List.mem_append_right _ (List.mem_of_getElem? (i := 521) (by decide +kernel)), by decide⟩
theorem wn_yX2_foresee : Cond.instanceMethod yX2_foresee ∈ lw_all := List.mem_filter.mpr ⟨List.mem_append_right _ (List.mem_of_getElem? (i := 522) (by decide +kernel)), by decide⟩
theorem wo_yX2_foresee : Cond.selects yX2_foresee.cls yX2_foresee yX2_foresee ∈ lw_all := List.mem_filter.mpr ⟨List.mem_append_right _ (List.mem_of_getElem? (i := 523) (by decide +kernel)), by decide⟩
theorem wk_yX2_foresee : Cond.code yX2_foresee cX2_foresee 3 (some .int) ∈ lw_all := List.mem_filter.mpr ⟨List.mem_append_right _ (List.mem_of_getElem? (i := 524) (by decide +kernel)), by decide⟩
theorem wm_L_122 : Cond.methodLink RL 122 yL_advise ∈ lw_all := List.mem_filter.mpr ⟨List.mem_append_right _ (List.mem_of_getElem? (i := 526) (by decide +kernel)), by decide⟩
theorem ws_yL_advise : Cond.static yL_advise ∈ lw_all := List.mem_filter.mpr ⟨List.mem_append_right _ (List.mem_of_getElem? (i := 527) (by decide +kernel)), by decide⟩
theorem wk_yL_advise : Cond.codeWith yL_advise cL_advise 5 (some .int) [(0, 10, 13, 19), (0, 10, 17, 13), (0, 10, 21, 31)] ∈ lw_all := List.mem_filter.mpr ⟨List.mem_append_right _ (List.mem_of_getElem? (i := 528) (by decide +kernel)), by decide⟩
theorem wm_L_59 : Cond.methodLink RL 59 yX2_advise ∈ lw_all := List.mem_filter.mpr ⟨List.mem_append_right _ (List.mem_of_getElem? (i := 529) (by decide +kernel)), by decide⟩
theorem wn_yX2_advise : Cond.instanceMethod yX2_advise ∈ lw_all := List.mem_filter.mpr ⟨List.mem_append_right _ (List.mem_of_getElem? (i := 530) (by decide +kernel)), by decide⟩
theorem wo_yX2_advise : Cond.selects yX2_advise.cls yX2_advise yX2_advise ∈ lw_all := List.mem_filter.mpr ⟨List.mem_append_right _ (List.mem_of_getElem? (i := 531) (by decide +kernel)), by decide⟩
theorem wk_yX2_advise : Cond.code yX2_advise cX2_advise 7 (some .int) ∈ lw_all := List.mem_filter.mpr ⟨List.mem_append_right _ (List.mem_of_getElem? (i := 532) (by decide +kernel)), by decide⟩
theorem wm_X2_138 : Cond.methodLink RX2 138 yX0_mostKnown ∈ lw_all := List.mem_filter.mpr ⟨List.mem_append_right _ (List.mem_of_getElem? (i := 534) (by decide +kernel)), by decide⟩
theorem wl_L_63 : Cond.classLink RL 63 RX4 ∈ lw_all := List.mem_filter.mpr ⟨List.mem_append_right _ (List.mem_of_getElem? (i := 535) (by decide +kernel)), by decide⟩
theorem wz_X4 : Cond.instantiable RX4 3 ∈ lw_all := List.mem_filter.mpr ⟨List.mem_append_right _ (List.mem_of_getElem? (i := 536) (by decide +kernel)), by decide⟩
theorem wm_L_65 : Cond.methodLink RL 65 yX4_init ∈ lw_all := List.mem_filter.mpr ⟨List.mem_append_right _ (List.mem_of_getElem? (i := 537) (by decide +kernel)), by decide⟩
theorem wn_yX4_init : Cond.instanceMethod yX4_init ∈ lw_all := List.mem_filter.mpr ⟨List.mem_append_right _ (List.mem_of_getElem? (i := 538) (by decide +kernel)), by decide⟩
theorem wk_yX4_init : Cond.code yX4_init cX4_init 1 none ∈ lw_all := List.mem_filter.mpr ⟨List.mem_append_right _ (List.mem_of_getElem? (i := 539) (by decide +kernel)), by decide⟩
theorem wm_X4_1 : Cond.methodLink RX4 1 objectInit ∈ lw_all := List.mem_filter.mpr ⟨List.mem_append_right _ (List.mem_of_getElem? (i := 540) (by decide +kernel)), by decide⟩
theorem wl_X4_7 : Cond.classLink RX4 7 RX3 ∈ lw_all := List.mem_filter.mpr ⟨List.mem_append_right _ (List.mem_of_getElem? (i := 541) (by decide +kernel)), by decide⟩
theorem wz_X3 : Cond.instantiable RX3 16 ∈ lw_all := List.mem_filter.mpr ⟨List.mem_append_right _ (List.mem_of_getElem? (i := 542) (by decide +kernel)), by decide⟩
theorem wm_X4_9 : Cond.methodLink RX4 9 yX3_init ∈ lw_all := List.mem_filter.mpr ⟨List.mem_append_right _ (List.mem_of_getElem? (i := 543) (by decide +kernel)), by decide⟩
theorem wn_yX3_init : Cond.instanceMethod yX3_init ∈ lw_all := List.mem_filter.mpr ⟨List.mem_append_right _ (List.mem_of_getElem? (i := 544) (by decide +kernel)), by decide⟩
theorem wk_yX3_init : Cond.code yX3_init cX3_init 1 none ∈ lw_all := List.mem_filter.mpr ⟨List.mem_append_right _ (List.mem_of_getElem? (i := 545) (by decide +kernel)), by decide⟩
theorem wm_X3_3 : Cond.methodLink RX3 3 objectInit ∈ lw_all := List.mem_filter.mpr ⟨List.mem_append_right _ (List.mem_of_getElem? (i := 546) (by decide +kernel)), by decide⟩
theorem wm_X3_49 : Cond.methodLink RX3 49 yX3_begin ∈ lw_all := List.mem_filter.mpr ⟨List.mem_append_right _ (List.mem_of_getElem? (i := 547) (by decide +kernel)), by decide⟩
theorem wn_yX3_begin : Cond.instanceMethod yX3_begin ∈ lw_all := List.mem_filter.mpr ⟨List.mem_append_right _ (List.mem_of_getElem? (i := 548) (by decide +kernel)), by decide⟩
theorem wo_yX3_begin : Cond.selects yX3_begin.cls yX3_begin yX3_begin ∈ lw_all := List.mem_filter.mpr ⟨List.mem_append_right _ (List.mem_of_getElem? (i := 549) (by decide +kernel)), by decide⟩
theorem wk_yX3_begin : Cond.code yX3_begin cX3_begin 3 none ∈ lw_all := List.mem_filter.mpr ⟨List.mem_append_right _ (List.mem_of_getElem? (i := 550) (by decide +kernel)), by decide⟩
theorem wf_X3_9 : Cond.fieldLink RX3 9 (TX3 0).1 (TX3 0).2.1 (TX3 0).2.2.1 ∈ lw_all := List.mem_filter.mpr ⟨List.mem_append_right _ (List.mem_of_getElem? (i := 551) (by decide +kernel)), by decide⟩
theorem wf_X4_23 : Cond.fieldLinkNest RX4 23 (TX3 0).1 (TX3 0).2.1 (TX3 0).2.2.1 "FleetTermsModel" ∈ lw_env := List.mem_filter.mpr ⟨List.mem_append_right _ (List.mem_of_getElem? (i := 552) (by decide +kernel)), by decide⟩
theorem wf_X3_53 : Cond.fieldLink RX3 53 (TX3 1).1 (TX3 1).2.1 (TX3 1).2.2.1 ∈ lw_all := List.mem_filter.mpr ⟨List.mem_append_right _ (List.mem_of_getElem? (i := 553) (by decide +kernel)), by decide⟩
theorem wf_X3_56 : Cond.fieldLink RX3 56 (TX3 2).1 (TX3 2).2.1 (TX3 2).2.2.1 ∈ lw_all := List.mem_filter.mpr ⟨List.mem_append_right _ (List.mem_of_getElem? (i := 554) (by decide +kernel)), by decide⟩
theorem wf_X3_59 : Cond.fieldLink RX3 59 (TX3 3).1 (TX3 3).2.1 (TX3 3).2.2.1 ∈ lw_all := List.mem_filter.mpr ⟨List.mem_append_right _ (List.mem_of_getElem? (i := 555) (by decide +kernel)), by decide⟩
theorem wf_X4_75 : Cond.fieldLinkNest RX4 75 (TX3 3).1 (TX3 3).2.1 (TX3 3).2.2.1 "FleetTermsModel" ∈ lw_env := List.mem_filter.mpr ⟨List.mem_append_right _ (List.mem_of_getElem? (i := 556) (by decide +kernel)), by decide⟩
theorem wf_X3_62 : Cond.fieldLink RX3 62 (TX3 4).1 (TX3 4).2.1 (TX3 4).2.2.1 ∈ lw_all := List.mem_filter.mpr ⟨List.mem_append_right _ (List.mem_of_getElem? (i := 557) (by decide +kernel)), by decide⟩
theorem wf_X3_15 : Cond.fieldLink RX3 15 (TX3 5).1 (TX3 5).2.1 (TX3 5).2.2.1 ∈ lw_all := List.mem_filter.mpr ⟨List.mem_append_right _ (List.mem_of_getElem? (i := 558) (by decide +kernel)), by decide⟩
theorem wf_X4_42 : Cond.fieldLinkNest RX4 42 (TX3 5).1 (TX3 5).2.1 (TX3 5).2.2.1 "FleetTermsModel" ∈ lw_env := List.mem_filter.mpr ⟨List.mem_append_right _ (List.mem_of_getElem? (i := 559) (by decide +kernel)), by decide⟩
theorem wf_X3_19 : Cond.fieldLink RX3 19 (TX3 6).1 (TX3 6).2.1 (TX3 6).2.2.1 ∈ lw_all := List.mem_filter.mpr ⟨List.mem_append_right _ (List.mem_of_getElem? (i := 560) (by decide +kernel)), by decide⟩
theorem wf_X4_55 : Cond.fieldLinkNest RX4 55 (TX3 6).1 (TX3 6).2.1 (TX3 6).2.2.1 "FleetTermsModel" ∈ lw_env := List.mem_filter.mpr ⟨List.mem_append_right _ (List.mem_of_getElem? (i := 561) (by decide +kernel)), by decide⟩
theorem wf_X3_22 : Cond.fieldLink RX3 22 (TX3 7).1 (TX3 7).2.1 (TX3 7).2.2.1 ∈ lw_all := List.mem_filter.mpr ⟨List.mem_append_right _ (List.mem_of_getElem? (i := 562) (by decide +kernel)), by decide⟩
theorem wf_X4_68 : Cond.fieldLinkNest RX4 68 (TX3 7).1 (TX3 7).2.1 (TX3 7).2.2.1 "FleetTermsModel" ∈ lw_env := List.mem_filter.mpr ⟨List.mem_append_right _ (List.mem_of_getElem? (i := 563) (by decide +kernel)), by decide⟩
theorem wf_X3_25 : Cond.fieldLink RX3 25 (TX3 8).1 (TX3 8).2.1 (TX3 8).2.2.1 ∈ lw_all := List.mem_filter.mpr ⟨List.mem_append_right _ (List.mem_of_getElem? (i := 564) (by decide +kernel)), by decide⟩
theorem wf_X4_81 : Cond.fieldLinkNest RX4 81 (TX3 8).1 (TX3 8).2.1 (TX3 8).2.2.1 "FleetTermsModel" ∈ lw_env := List.mem_filter.mpr ⟨List.mem_append_right _ (List.mem_of_getElem? (i := 565) (by decide +kernel)), by decide⟩
theorem wf_X3_28 : Cond.fieldLink RX3 28 (TX3 9).1 (TX3 9).2.1 (TX3 9).2.2.1 ∈ lw_all := List.mem_filter.mpr ⟨List.mem_append_right _ (List.mem_of_getElem? (i := 566) (by decide +kernel)), by decide⟩
theorem wf_X4_52 : Cond.fieldLinkNest RX4 52 (TX3 9).1 (TX3 9).2.1 (TX3 9).2.2.1 "FleetTermsModel" ∈ lw_env := List.mem_filter.mpr ⟨List.mem_append_right _ (List.mem_of_getElem? (i := 567) (by decide +kernel)), by decide⟩
theorem wf_X3_31 : Cond.fieldLink RX3 31 (TX3 10).1 (TX3 10).2.1 (TX3 10).2.2.1 ∈ lw_all := List.mem_filter.mpr ⟨List.mem_append_right _ (List.mem_of_getElem? (i := 568) (by decide +kernel)), by decide⟩
theorem wf_X4_46 : Cond.fieldLinkNest RX4 46 (TX3 10).1 (TX3 10).2.1 (TX3 10).2.2.1 "FleetTermsModel" ∈ lw_env := List.mem_filter.mpr ⟨List.mem_append_right _ (List.mem_of_getElem? (i := 569) (by decide +kernel)), by decide⟩
theorem wf_X3_34 : Cond.fieldLink RX3 34 (TX3 11).1 (TX3 11).2.1 (TX3 11).2.2.1 ∈ lw_all := List.mem_filter.mpr ⟨List.mem_append_right _ (List.mem_of_getElem? (i := 570) (by decide +kernel)), by decide⟩
theorem wf_X4_49 : Cond.fieldLinkNest RX4 49 (TX3 11).1 (TX3 11).2.1 (TX3 11).2.2.1 "FleetTermsModel" ∈ lw_env := List.mem_filter.mpr ⟨List.mem_append_right _ (List.mem_of_getElem? (i := 571) (by decide +kernel)), by decide⟩
theorem wf_X3_37 : Cond.fieldLink RX3 37 (TX3 12).1 (TX3 12).2.1 (TX3 12).2.2.1 ∈ lw_all := List.mem_filter.mpr ⟨List.mem_append_right _ (List.mem_of_getElem? (i := 572) (by decide +kernel)), by decide⟩
theorem wf_X4_65 : Cond.fieldLinkNest RX4 65 (TX3 12).1 (TX3 12).2.1 (TX3 12).2.2.1 "FleetTermsModel" ∈ lw_env := List.mem_filter.mpr ⟨List.mem_append_right _ (List.mem_of_getElem? (i := 573) (by decide +kernel)), by decide⟩
theorem wf_X3_40 : Cond.fieldLink RX3 40 (TX3 13).1 (TX3 13).2.1 (TX3 13).2.2.1 ∈ lw_all := List.mem_filter.mpr ⟨List.mem_append_right _ (List.mem_of_getElem? (i := 574) (by decide +kernel)), by decide⟩
theorem wf_X4_58 : Cond.fieldLinkNest RX4 58 (TX3 13).1 (TX3 13).2.1 (TX3 13).2.2.1 "FleetTermsModel" ∈ lw_env := List.mem_filter.mpr ⟨List.mem_append_right _ (List.mem_of_getElem? (i := 575) (by decide +kernel)), by decide⟩
theorem wf_X3_43 : Cond.fieldLink RX3 43 (TX3 14).1 (TX3 14).2.1 (TX3 14).2.2.1 ∈ lw_all := List.mem_filter.mpr ⟨List.mem_append_right _ (List.mem_of_getElem? (i := 576) (by decide +kernel)), by decide⟩
theorem wf_X4_91 : Cond.fieldLinkNest RX4 91 (TX3 14).1 (TX3 14).2.1 (TX3 14).2.2.1 "FleetTermsModel" ∈ lw_env := List.mem_filter.mpr ⟨List.mem_append_right _ (List.mem_of_getElem? (i := 577) (by decide +kernel)), by decide⟩
theorem wf_X3_46 : Cond.fieldLink RX3 46 (TX3 15).1 (TX3 15).2.1 (TX3 15).2.2.1 ∈ lw_all := List.mem_filter.mpr ⟨List.mem_append_right _ (List.mem_of_getElem? (i := 578) (by decide +kernel)), by decide⟩
theorem wf_X4_94 : Cond.fieldLinkNest RX4 94 (TX3 15).1 (TX3 15).2.1 (TX3 15).2.2.1 "FleetTermsModel" ∈ lw_env := List.mem_filter.mpr ⟨List.mem_append_right _ (List.mem_of_getElem? (i := 579) (by decide +kernel)), by decide⟩
theorem wf_X4_19 : Cond.fieldLink RX4 19 (TX4 0).1 (TX4 0).2.1 (TX4 0).2.2.1 ∈ lw_all := List.mem_filter.mpr ⟨List.mem_append_right _ (List.mem_of_getElem? (i := 613) (by decide +kernel)), by decide⟩
theorem wf_X4_10 : Cond.fieldLink RX4 10 (TX4 1).1 (TX4 1).2.1 (TX4 1).2.2.1 ∈ lw_all := List.mem_filter.mpr ⟨List.mem_append_right _ (List.mem_of_getElem? (i := 614) (by decide +kernel)), by decide⟩
theorem wf_X4_16 : Cond.fieldLink RX4 16 (TX4 2).1 (TX4 2).2.1 (TX4 2).2.2.1 ∈ lw_all := List.mem_filter.mpr ⟨List.mem_append_right _ (List.mem_of_getElem? (i := 615) (by decide +kernel)), by decide⟩
theorem wm_L_72 : Cond.methodLink RL 72 yX4_thrown ∈ lw_all := List.mem_filter.mpr ⟨List.mem_append_right _ (List.mem_of_getElem? (i := 623) (by decide +kernel)), by decide⟩
theorem wn_yX4_thrown : Cond.instanceMethod yX4_thrown ∈ lw_all := List.mem_filter.mpr ⟨List.mem_append_right _ (List.mem_of_getElem? (i := 624) (by decide +kernel)), by decide⟩
theorem wo_yX4_thrown : Cond.selects yX4_thrown.cls yX4_thrown yX4_thrown ∈ lw_all := List.mem_filter.mpr ⟨List.mem_append_right _ (List.mem_of_getElem? (i := 625) (by decide +kernel)), by decide⟩
theorem wk_yX4_thrown : Cond.code yX4_thrown cX4_thrown 1 (some .int) ∈ lw_all := List.mem_filter.mpr ⟨List.mem_append_right _ (List.mem_of_getElem? (i := 626) (by decide +kernel)), by decide⟩
theorem wm_L_71 : Cond.methodLink RL 71 yX4_fleet ∈ lw_all := List.mem_filter.mpr ⟨List.mem_append_right _ (List.mem_of_getElem? (i := 627) (by decide +kernel)), by decide⟩
theorem wn_yX4_fleet : Cond.instanceMethod yX4_fleet ∈ lw_all := List.mem_filter.mpr ⟨List.mem_append_right _ (List.mem_of_getElem? (i := 628) (by decide +kernel)), by decide⟩
theorem wo_yX4_fleet : Cond.selects yX4_fleet.cls yX4_fleet yX4_fleet ∈ lw_all := List.mem_filter.mpr ⟨List.mem_append_right _ (List.mem_of_getElem? (i := 629) (by decide +kernel)), by decide⟩
theorem wk_yX4_fleet : Cond.code yX4_fleet cX4_fleet 2 (some .int) ∈ lw_all := List.mem_filter.mpr ⟨List.mem_append_right _ (List.mem_of_getElem? (i := 630) (by decide +kernel)), by decide⟩
theorem wm_X4_26 : Cond.methodLink RX4 26 yX4_isIn ∈ lw_all := List.mem_filter.mpr ⟨List.mem_append_right _ (List.mem_of_getElem? (i := 631) (by decide +kernel)), by decide⟩
theorem ws_yX4_isIn : Cond.static yX4_isIn ∈ lw_all := List.mem_filter.mpr ⟨List.mem_append_right _ (List.mem_of_getElem? (i := 632) (by decide +kernel)), by decide⟩
theorem wk_yX4_isIn : Cond.code yX4_isIn cX4_isIn 3 (some .boolean) ∈ lw_all := List.mem_filter.mpr ⟨List.mem_append_right _ (List.mem_of_getElem? (i := 633) (by decide +kernel)), by decide⟩
theorem wm_X4_30 : Cond.methodLink RX4 30 yX4_no ∈ lw_all := List.mem_filter.mpr ⟨List.mem_append_right _ (List.mem_of_getElem? (i := 634) (by decide +kernel)), by decide⟩
theorem wn_yX4_no : Cond.instanceMethod yX4_no ∈ lw_all := List.mem_filter.mpr ⟨List.mem_append_right _ (List.mem_of_getElem? (i := 636) (by decide +kernel)), by decide⟩
theorem wk_yX4_no : Cond.code yX4_no cX4_no 2 (some .int) ∈ lw_all := List.mem_filter.mpr ⟨List.mem_append_right _ (List.mem_of_getElem? (i := 637) (by decide +kernel)), by decide⟩
theorem wm_X4_34 : Cond.methodLink RX4 34 yX3_begin ∈ lw_all := List.mem_filter.mpr ⟨List.mem_append_right _ (List.mem_of_getElem? (i := 638) (by decide +kernel)), by decide⟩
theorem wm_L_79 : Cond.methodLink RL 79 yX4_setPatience ∈ lw_all := List.mem_filter.mpr ⟨List.mem_append_right _ (List.mem_of_getElem? (i := 639) (by decide +kernel)), by decide⟩
theorem wn_yX4_setPatience : Cond.instanceMethod yX4_setPatience ∈ lw_all := List.mem_filter.mpr ⟨List.mem_append_right _ (List.mem_of_getElem? (i := 640) (by decide +kernel)), by decide⟩
theorem wo_yX4_setPatience : Cond.selects yX4_setPatience.cls yX4_setPatience yX4_setPatience ∈ lw_all := List.mem_filter.mpr ⟨List.mem_append_right _ (List.mem_of_getElem? (i := 641) (by decide +kernel)), by decide⟩
theorem wk_yX4_setPatience : Cond.code yX4_setPatience cX4_setPatience 4 (some .int) ∈ lw_all := List.mem_filter.mpr ⟨List.mem_append_right _ (List.mem_of_getElem? (i := 642) (by decide +kernel)), by decide⟩
theorem wm_X4_38 : Cond.methodLink RX4 38 yX4_isBoat ∈ lw_all := List.mem_filter.mpr ⟨List.mem_append_right _ (List.mem_of_getElem? (i := 643) (by decide +kernel)), by decide⟩
theorem wn_yX4_isBoat : Cond.instanceMethod yX4_isBoat ∈ lw_all := List.mem_filter.mpr ⟨List.mem_append_right _ (List.mem_of_getElem? (i := 645) (by decide +kernel)), by decide⟩
theorem wk_yX4_isBoat : Cond.code yX4_isBoat cX4_isBoat 2 (some .boolean) ∈ lw_all := List.mem_filter.mpr ⟨List.mem_append_right _ (List.mem_of_getElem? (i := 646) (by decide +kernel)), by decide⟩
theorem wm_L_82 : Cond.methodLink RL 82 yX4_go ∈ lw_all := List.mem_filter.mpr ⟨List.mem_append_right _ (List.mem_of_getElem? (i := 647) (by decide +kernel)), by decide⟩
theorem wn_yX4_go : Cond.instanceMethod yX4_go ∈ lw_all := List.mem_filter.mpr ⟨List.mem_append_right _ (List.mem_of_getElem? (i := 648) (by decide +kernel)), by decide⟩
theorem wo_yX4_go : Cond.selects yX4_go.cls yX4_go yX4_go ∈ lw_all := List.mem_filter.mpr ⟨List.mem_append_right _ (List.mem_of_getElem? (i := 649) (by decide +kernel)), by decide⟩
theorem wk_yX4_go : Cond.code yX4_go cX4_go 4 (some .int) ∈ lw_all := List.mem_filter.mpr ⟨List.mem_append_right _ (List.mem_of_getElem? (i := 650) (by decide +kernel)), by decide⟩
theorem wm_L_85 : Cond.methodLink RL 85 yX4_sink ∈ lw_all := List.mem_filter.mpr ⟨List.mem_append_right _ (List.mem_of_getElem? (i := 651) (by decide +kernel)), by decide⟩
theorem wn_yX4_sink : Cond.instanceMethod yX4_sink ∈ lw_all := List.mem_filter.mpr ⟨List.mem_append_right _ (List.mem_of_getElem? (i := 652) (by decide +kernel)), by decide⟩
theorem wo_yX4_sink : Cond.selects yX4_sink.cls yX4_sink yX4_sink ∈ lw_all := List.mem_filter.mpr ⟨List.mem_append_right _ (List.mem_of_getElem? (i := 653) (by decide +kernel)), by decide⟩
theorem wk_yX4_sink : Cond.code yX4_sink cX4_sink 2 (some .boolean) ∈ lw_all := List.mem_filter.mpr ⟨List.mem_append_right _ (List.mem_of_getElem? (i := 654) (by decide +kernel)), by decide⟩
theorem wm_L_88 : Cond.methodLink RL 88 yX4_write ∈ lw_all := List.mem_filter.mpr ⟨List.mem_append_right _ (List.mem_of_getElem? (i := 655) (by decide +kernel)), by decide⟩
theorem wn_yX4_write : Cond.instanceMethod yX4_write ∈ lw_all := List.mem_filter.mpr ⟨List.mem_append_right _ (List.mem_of_getElem? (i := 656) (by decide +kernel)), by decide⟩
theorem wo_yX4_write : Cond.selects yX4_write.cls yX4_write yX4_write ∈ lw_all := List.mem_filter.mpr ⟨List.mem_append_right _ (List.mem_of_getElem? (i := 657) (by decide +kernel)), by decide⟩
theorem wk_yX4_write : Cond.code yX4_write cX4_write 3 (some .int) ∈ lw_all := List.mem_filter.mpr ⟨List.mem_append_right _ (List.mem_of_getElem? (i := 658) (by decide +kernel)), by decide⟩
theorem wm_X4_61 : Cond.methodLink RX4 61 yX3_isUp ∈ lw_all := List.mem_filter.mpr ⟨List.mem_append_right _ (List.mem_of_getElem? (i := 659) (by decide +kernel)), by decide⟩
theorem wn_yX3_isUp : Cond.instanceMethod yX3_isUp ∈ lw_all := List.mem_filter.mpr ⟨List.mem_append_right _ (List.mem_of_getElem? (i := 660) (by decide +kernel)), by decide⟩
theorem wo_yX3_isUp : Cond.selects yX3_isUp.cls yX3_isUp yX3_isUp ∈ lw_all := List.mem_filter.mpr ⟨List.mem_append_right _ (List.mem_of_getElem? (i := 661) (by decide +kernel)), by decide⟩
theorem wk_yX3_isUp : Cond.code yX3_isUp cX3_isUp 3 (some .boolean) ∈ lw_all := List.mem_filter.mpr ⟨List.mem_append_right _ (List.mem_of_getElem? (i := 662) (by decide +kernel)), by decide⟩
theorem wm_X4_71 : Cond.methodLink RX4 71 yX3_add ∈ lw_all := List.mem_filter.mpr ⟨List.mem_append_right _ (List.mem_of_getElem? (i := 663) (by decide +kernel)), by decide⟩
theorem wn_yX3_add : Cond.instanceMethod yX3_add ∈ lw_all := List.mem_filter.mpr ⟨List.mem_append_right _ (List.mem_of_getElem? (i := 664) (by decide +kernel)), by decide⟩
theorem wo_yX3_add : Cond.selects yX3_add.cls yX3_add yX3_add ∈ lw_all := List.mem_filter.mpr ⟨List.mem_append_right _ (List.mem_of_getElem? (i := 665) (by decide +kernel)), by decide⟩
theorem wk_yX3_add : Cond.code yX3_add cX3_add 4 none ∈ lw_all := List.mem_filter.mpr ⟨List.mem_append_right _ (List.mem_of_getElem? (i := 666) (by decide +kernel)), by decide⟩
theorem wm_L_91 : Cond.methodLink RL 91 yX4_pass ∈ lw_all := List.mem_filter.mpr ⟨List.mem_append_right _ (List.mem_of_getElem? (i := 667) (by decide +kernel)), by decide⟩
theorem wn_yX4_pass : Cond.instanceMethod yX4_pass ∈ lw_all := List.mem_filter.mpr ⟨List.mem_append_right _ (List.mem_of_getElem? (i := 668) (by decide +kernel)), by decide⟩
theorem wo_yX4_pass : Cond.selects yX4_pass.cls yX4_pass yX4_pass ∈ lw_all := List.mem_filter.mpr ⟨List.mem_append_right _ (List.mem_of_getElem? (i := 669) (by decide +kernel)), by decide⟩
theorem wk_yX4_pass : Cond.code yX4_pass cX4_pass 3 (some .int) ∈ lw_all := List.mem_filter.mpr ⟨List.mem_append_right _ (List.mem_of_getElem? (i := 670) (by decide +kernel)), by decide⟩
theorem wm_X4_78 : Cond.methodLink RX4 78 yX3_passOn ∈ lw_all := List.mem_filter.mpr ⟨List.mem_append_right _ (List.mem_of_getElem? (i := 671) (by decide +kernel)), by decide⟩
theorem wn_yX3_passOn : Cond.instanceMethod yX3_passOn ∈ lw_all := List.mem_filter.mpr ⟨List.mem_append_right _ (List.mem_of_getElem? (i := 672) (by decide +kernel)), by decide⟩
theorem wo_yX3_passOn : Cond.selects yX3_passOn.cls yX3_passOn yX3_passOn ∈ lw_all := List.mem_filter.mpr ⟨List.mem_append_right _ (List.mem_of_getElem? (i := 673) (by decide +kernel)), by decide⟩
theorem wk_yX3_passOn : Cond.code yX3_passOn cX3_passOn 3 none ∈ lw_all := List.mem_filter.mpr ⟨List.mem_append_right _ (List.mem_of_getElem? (i := 674) (by decide +kernel)), by decide⟩
theorem wm_X3_125 : Cond.methodLink RX3 125 yX3_pass ∈ lw_all := List.mem_filter.mpr ⟨List.mem_append_right _ (List.mem_of_getElem? (i := 675) (by decide +kernel)), by decide⟩
theorem wn_yX3_pass : Cond.instanceMethod yX3_pass ∈ lw_all := List.mem_filter.mpr ⟨List.mem_append_right _ (List.mem_of_getElem? (i := 676) (by decide +kernel)), by decide⟩
theorem wo_yX3_pass : Cond.selects yX3_pass.cls yX3_pass yX3_pass ∈ lw_all := List.mem_filter.mpr ⟨List.mem_append_right _ (List.mem_of_getElem? (i := 677) (by decide +kernel)), by decide⟩
theorem wk_yX3_pass : Cond.code yX3_pass cX3_pass 2 none ∈ lw_all := List.mem_filter.mpr ⟨List.mem_append_right _ (List.mem_of_getElem? (i := 678) (by decide +kernel)), by decide⟩
theorem wm_X3_113 : Cond.methodLink RX3 113 yX3_stand ∈ lw_all := List.mem_filter.mpr ⟨List.mem_append_right _ (List.mem_of_getElem? (i := 679) (by decide +kernel)), by decide⟩
theorem wn_yX3_stand : Cond.instanceMethod yX3_stand ∈ lw_all := List.mem_filter.mpr ⟨List.mem_append_right _ (List.mem_of_getElem? (i := 681) (by decide +kernel)), by decide⟩
theorem wk_yX3_stand : Cond.code yX3_stand cX3_stand 4 none ∈ lw_all := List.mem_filter.mpr ⟨List.mem_append_right _ (List.mem_of_getElem? (i := 682) (by decide +kernel)), by decide⟩
theorem wm_X3_79 : Cond.methodLink RX3 79 yX3_hear ∈ lw_all := List.mem_filter.mpr ⟨List.mem_append_right _ (List.mem_of_getElem? (i := 683) (by decide +kernel)), by decide⟩
theorem wn_yX3_hear : Cond.instanceMethod yX3_hear ∈ lw_all := List.mem_filter.mpr ⟨List.mem_append_right _ (List.mem_of_getElem? (i := 684) (by decide +kernel)), by decide⟩
theorem wo_yX3_hear : Cond.selects yX3_hear.cls yX3_hear yX3_hear ∈ lw_all := List.mem_filter.mpr ⟨List.mem_append_right _ (List.mem_of_getElem? (i := 685) (by decide +kernel)), by decide⟩
theorem wk_yX3_hear : Cond.code yX3_hear cX3_hear 3 (some .boolean) ∈ lw_all := List.mem_filter.mpr ⟨List.mem_append_right _ (List.mem_of_getElem? (i := 686) (by decide +kernel)), by decide⟩
theorem wm_X3_83 : Cond.methodLink RX3 83 yX3_hearOf ∈ lw_all := List.mem_filter.mpr ⟨List.mem_append_right _ (List.mem_of_getElem? (i := 687) (by decide +kernel)), by decide⟩
theorem wn_yX3_hearOf : Cond.instanceMethod yX3_hearOf ∈ lw_all := List.mem_filter.mpr ⟨List.mem_append_right _ (List.mem_of_getElem? (i := 689) (by decide +kernel)), by decide⟩
theorem wk_yX3_hearOf : Cond.code yX3_hearOf cX3_hearOf 3 none ∈ lw_all := List.mem_filter.mpr ⟨List.mem_append_right _ (List.mem_of_getElem? (i := 690) (by decide +kernel)), by decide⟩
theorem wm_X3_87 : Cond.methodLink RX3 87 yX3_isAsNew ∈ lw_all := List.mem_filter.mpr ⟨List.mem_append_right _ (List.mem_of_getElem? (i := 691) (by decide +kernel)), by decide⟩
theorem wn_yX3_isAsNew : Cond.instanceMethod yX3_isAsNew ∈ lw_all := List.mem_filter.mpr ⟨List.mem_append_right _ (List.mem_of_getElem? (i := 692) (by decide +kernel)), by decide⟩
theorem wo_yX3_isAsNew : Cond.selects yX3_isAsNew.cls yX3_isAsNew yX3_isAsNew ∈ lw_all := List.mem_filter.mpr ⟨List.mem_append_right _ (List.mem_of_getElem? (i := 693) (by decide +kernel)), by decide⟩
theorem wk_yX3_isAsNew : Cond.code yX3_isAsNew cX3_isAsNew 3 (some .boolean) ∈ lw_all := List.mem_filter.mpr ⟨List.mem_append_right _ (List.mem_of_getElem? (i := 694) (by decide +kernel)), by decide⟩
theorem wm_X3_75 : Cond.methodLink RX3 75 yX3_lastTerm ∈ lw_all := List.mem_filter.mpr ⟨List.mem_append_right _ (List.mem_of_getElem? (i := 695) (by decide +kernel)), by decide⟩
theorem wn_yX3_lastTerm : Cond.instanceMethod yX3_lastTerm ∈ lw_all := List.mem_filter.mpr ⟨List.mem_append_right _ (List.mem_of_getElem? (i := 696) (by decide +kernel)), by decide⟩
theorem wo_yX3_lastTerm : Cond.selects yX3_lastTerm.cls yX3_lastTerm yX3_lastTerm ∈ lw_all := List.mem_filter.mpr ⟨List.mem_append_right _ (List.mem_of_getElem? (i := 697) (by decide +kernel)), by decide⟩
theorem wk_yX3_lastTerm : Cond.code yX3_lastTerm cX3_lastTerm 2 (some .int) ∈ lw_all := List.mem_filter.mpr ⟨List.mem_append_right _ (List.mem_of_getElem? (i := 698) (by decide +kernel)), by decide⟩
theorem wm_X3_90 : Cond.methodLink RX3 90 yX3_isMore ∈ lw_all := List.mem_filter.mpr ⟨List.mem_append_right _ (List.mem_of_getElem? (i := 699) (by decide +kernel)), by decide⟩
theorem wn_yX3_isMore : Cond.instanceMethod yX3_isMore ∈ lw_all := List.mem_filter.mpr ⟨List.mem_append_right _ (List.mem_of_getElem? (i := 700) (by decide +kernel)), by decide⟩
theorem wo_yX3_isMore : Cond.selects yX3_isMore.cls yX3_isMore yX3_isMore ∈ lw_all := List.mem_filter.mpr ⟨List.mem_append_right _ (List.mem_of_getElem? (i := 701) (by decide +kernel)), by decide⟩
theorem wk_yX3_isMore : Cond.code yX3_isMore cX3_isMore 2 (some .boolean) ∈ lw_all := List.mem_filter.mpr ⟨List.mem_append_right _ (List.mem_of_getElem? (i := 702) (by decide +kernel)), by decide⟩
theorem wm_X3_116 : Cond.methodLink RX3 116 yX3_isUp ∈ lw_all := List.mem_filter.mpr ⟨List.mem_append_right _ (List.mem_of_getElem? (i := 703) (by decide +kernel)), by decide⟩
theorem wm_X3_119 : Cond.methodLink RX3 119 yX3_tell ∈ lw_all := List.mem_filter.mpr ⟨List.mem_append_right _ (List.mem_of_getElem? (i := 704) (by decide +kernel)), by decide⟩
theorem wn_yX3_tell : Cond.instanceMethod yX3_tell ∈ lw_all := List.mem_filter.mpr ⟨List.mem_append_right _ (List.mem_of_getElem? (i := 706) (by decide +kernel)), by decide⟩
theorem wk_yX3_tell : Cond.code yX3_tell cX3_tell 3 none ∈ lw_all := List.mem_filter.mpr ⟨List.mem_append_right _ (List.mem_of_getElem? (i := 707) (by decide +kernel)), by decide⟩
theorem wm_X3_110 : Cond.methodLink RX3 110 yX3_takeFrom ∈ lw_all := List.mem_filter.mpr ⟨List.mem_append_right _ (List.mem_of_getElem? (i := 708) (by decide +kernel)), by decide⟩
theorem wn_yX3_takeFrom : Cond.instanceMethod yX3_takeFrom ∈ lw_all := List.mem_filter.mpr ⟨List.mem_append_right _ (List.mem_of_getElem? (i := 710) (by decide +kernel)), by decide⟩
theorem wk_yX3_takeFrom : Cond.code yX3_takeFrom cX3_takeFrom 4 none ∈ lw_all := List.mem_filter.mpr ⟨List.mem_append_right _ (List.mem_of_getElem? (i := 711) (by decide +kernel)), by decide⟩
theorem wm_X3_94 : Cond.methodLink RX3 94 yX3_agree ∈ lw_all := List.mem_filter.mpr ⟨List.mem_append_right _ (List.mem_of_getElem? (i := 712) (by decide +kernel)), by decide⟩
theorem wn_yX3_agree : Cond.instanceMethod yX3_agree ∈ lw_all := List.mem_filter.mpr ⟨List.mem_append_right _ (List.mem_of_getElem? (i := 713) (by decide +kernel)), by decide⟩
theorem wo_yX3_agree : Cond.selects yX3_agree.cls yX3_agree yX3_agree ∈ lw_all := List.mem_filter.mpr ⟨List.mem_append_right _ (List.mem_of_getElem? (i := 714) (by decide +kernel)), by decide⟩
theorem wk_yX3_agree : Cond.code yX3_agree cX3_agree 4 (some .int) ∈ lw_all := List.mem_filter.mpr ⟨List.mem_append_right _ (List.mem_of_getElem? (i := 715) (by decide +kernel)), by decide⟩
theorem wm_X3_98 : Cond.methodLink RX3 98 yX3_add ∈ lw_all := List.mem_filter.mpr ⟨List.mem_append_right _ (List.mem_of_getElem? (i := 716) (by decide +kernel)), by decide⟩
theorem wm_X3_102 : Cond.methodLink RX3 102 yJ9_min_7cf53 ∈ lw_all := List.mem_filter.mpr ⟨List.mem_append_right _ (List.mem_of_getElem? (i := 717) (by decide +kernel)), by decide⟩
theorem wm_X3_107 : Cond.methodLink RX3 107 yJ9_max_7cf53 ∈ lw_all := List.mem_filter.mpr ⟨List.mem_append_right _ (List.mem_of_getElem? (i := 718) (by decide +kernel)), by decide⟩
theorem wm_X3_122 : Cond.methodLink RX3 122 yX3_commit ∈ lw_all := List.mem_filter.mpr ⟨List.mem_append_right _ (List.mem_of_getElem? (i := 719) (by decide +kernel)), by decide⟩
theorem wn_yX3_commit : Cond.instanceMethod yX3_commit ∈ lw_all := List.mem_filter.mpr ⟨List.mem_append_right _ (List.mem_of_getElem? (i := 721) (by decide +kernel)), by decide⟩
theorem wk_yX3_commit : Cond.code yX3_commit cX3_commit 5 none ∈ lw_all := List.mem_filter.mpr ⟨List.mem_append_right _ (List.mem_of_getElem? (i := 722) (by decide +kernel)), by decide⟩
theorem wm_L_94 : Cond.methodLink RL 94 yX4_told ∈ lw_all := List.mem_filter.mpr ⟨List.mem_append_right _ (List.mem_of_getElem? (i := 723) (by decide +kernel)), by decide⟩
theorem wn_yX4_told : Cond.instanceMethod yX4_told ∈ lw_all := List.mem_filter.mpr ⟨List.mem_append_right _ (List.mem_of_getElem? (i := 724) (by decide +kernel)), by decide⟩
theorem wo_yX4_told : Cond.selects yX4_told.cls yX4_told yX4_told ∈ lw_all := List.mem_filter.mpr ⟨List.mem_append_right _ (List.mem_of_getElem? (i := 725) (by decide +kernel)), by decide⟩
theorem wk_yX4_told : Cond.code yX4_told cX4_told 3 (some .int) ∈ lw_all := List.mem_filter.mpr ⟨List.mem_append_right _ (List.mem_of_getElem? (i := 726) (by decide +kernel)), by decide⟩
theorem wm_X4_87 : Cond.methodLink RX4 87 yX4_boatTold ∈ lw_all := List.mem_filter.mpr ⟨List.mem_append_right _ (List.mem_of_getElem? (i := 727) (by decide +kernel)), by decide⟩
theorem wn_yX4_boatTold : Cond.instanceMethod yX4_boatTold ∈ lw_all := List.mem_filter.mpr ⟨List.mem_append_right _ (List.mem_of_getElem? (i := 729) (by decide +kernel)), by decide⟩
theorem wk_yX4_boatTold : Cond.code yX4_boatTold cX4_boatTold 3 (some .int) ∈ lw_all := List.mem_filter.mpr ⟨List.mem_append_right _ (List.mem_of_getElem? (i := 730) (by decide +kernel)), by decide⟩
theorem wm_X4_84 : Cond.methodLink RX4 84 yX3_lastTerm ∈ lw_all := List.mem_filter.mpr ⟨List.mem_append_right _ (List.mem_of_getElem? (i := 731) (by decide +kernel)), by decide⟩
theorem wm_L_98 : Cond.methodLink RL 98 yX4_entry ∈ lw_all := List.mem_filter.mpr ⟨List.mem_append_right _ (List.mem_of_getElem? (i := 732) (by decide +kernel)), by decide⟩
theorem wn_yX4_entry : Cond.instanceMethod yX4_entry ∈ lw_all := List.mem_filter.mpr ⟨List.mem_append_right _ (List.mem_of_getElem? (i := 733) (by decide +kernel)), by decide⟩
theorem wo_yX4_entry : Cond.selects yX4_entry.cls yX4_entry yX4_entry ∈ lw_all := List.mem_filter.mpr ⟨List.mem_append_right _ (List.mem_of_getElem? (i := 734) (by decide +kernel)), by decide⟩
theorem wk_yX4_entry : Cond.code yX4_entry cX4_entry 4 (some .int) ∈ lw_all := List.mem_filter.mpr ⟨List.mem_append_right _ (List.mem_of_getElem? (i := 735) (by decide +kernel)), by decide⟩
theorem wm_X4_100 : Cond.methodLink RX4 100 yX4_entryTold ∈ lw_all := List.mem_filter.mpr ⟨List.mem_append_right _ (List.mem_of_getElem? (i := 736) (by decide +kernel)), by decide⟩
theorem wn_yX4_entryTold : Cond.instanceMethod yX4_entryTold ∈ lw_all := List.mem_filter.mpr ⟨List.mem_append_right _ (List.mem_of_getElem? (i := 738) (by decide +kernel)), by decide⟩
theorem wk_yX4_entryTold : Cond.code yX4_entryTold cX4_entryTold 6 (some .int) ∈ lw_all := List.mem_filter.mpr ⟨List.mem_append_right _ (List.mem_of_getElem? (i := 739) (by decide +kernel)), by decide⟩
theorem wm_X4_97 : Cond.methodLink RX4 97 yX3_agree ∈ lw_all := List.mem_filter.mpr ⟨List.mem_append_right _ (List.mem_of_getElem? (i := 740) (by decide +kernel)), by decide⟩
theorem wm_L_101 : Cond.methodLink RL 101 yX4_agree ∈ lw_all := List.mem_filter.mpr ⟨List.mem_append_right _ (List.mem_of_getElem? (i := 741) (by decide +kernel)), by decide⟩
theorem wn_yX4_agree : Cond.instanceMethod yX4_agree ∈ lw_all := List.mem_filter.mpr ⟨List.mem_append_right _ (List.mem_of_getElem? (i := 742) (by decide +kernel)), by decide⟩
theorem wo_yX4_agree : Cond.selects yX4_agree.cls yX4_agree yX4_agree ∈ lw_all := List.mem_filter.mpr ⟨List.mem_append_right _ (List.mem_of_getElem? (i := 743) (by decide +kernel)), by decide⟩
theorem wk_yX4_agree : Cond.code yX4_agree cX4_agree 3 (some .int) ∈ lw_all := List.mem_filter.mpr ⟨List.mem_append_right _ (List.mem_of_getElem? (i := 744) (by decide +kernel)), by decide⟩
theorem wm_L_104 : Cond.methodLink RL 104 yX4_newer ∈ lw_all := List.mem_filter.mpr ⟨List.mem_append_right _ (List.mem_of_getElem? (i := 745) (by decide +kernel)), by decide⟩
theorem wn_yX4_newer : Cond.instanceMethod yX4_newer ∈ lw_all := List.mem_filter.mpr ⟨List.mem_append_right _ (List.mem_of_getElem? (i := 746) (by decide +kernel)), by decide⟩
theorem wo_yX4_newer : Cond.selects yX4_newer.cls yX4_newer yX4_newer ∈ lw_all := List.mem_filter.mpr ⟨List.mem_append_right _ (List.mem_of_getElem? (i := 747) (by decide +kernel)), by decide⟩
theorem wk_yX4_newer : Cond.code yX4_newer cX4_newer 3 (some .boolean) ∈ lw_all := List.mem_filter.mpr ⟨List.mem_append_right _ (List.mem_of_getElem? (i := 748) (by decide +kernel)), by decide⟩
theorem wm_X4_104 : Cond.methodLink RX4 104 yX3_isAsNew ∈ lw_all := List.mem_filter.mpr ⟨List.mem_append_right _ (List.mem_of_getElem? (i := 749) (by decide +kernel)), by decide⟩
theorem wm_L_108 : Cond.methodLink RL 108 yX4_leader ∈ lw_all := List.mem_filter.mpr ⟨List.mem_append_right _ (List.mem_of_getElem? (i := 750) (by decide +kernel)), by decide⟩
theorem wn_yX4_leader : Cond.instanceMethod yX4_leader ∈ lw_all := List.mem_filter.mpr ⟨List.mem_append_right _ (List.mem_of_getElem? (i := 751) (by decide +kernel)), by decide⟩
theorem wo_yX4_leader : Cond.selects yX4_leader.cls yX4_leader yX4_leader ∈ lw_all := List.mem_filter.mpr ⟨List.mem_append_right _ (List.mem_of_getElem? (i := 752) (by decide +kernel)), by decide⟩
theorem wk_yX4_leader : Cond.code yX4_leader cX4_leader 3 (some .int) ∈ lw_all := List.mem_filter.mpr ⟨List.mem_append_right _ (List.mem_of_getElem? (i := 753) (by decide +kernel)), by decide⟩
theorem wm_L_111 : Cond.methodLink RL 111 yX4_count ∈ lw_all := List.mem_filter.mpr ⟨List.mem_append_right _ (List.mem_of_getElem? (i := 754) (by decide +kernel)), by decide⟩
theorem wn_yX4_count : Cond.instanceMethod yX4_count ∈ lw_all := List.mem_filter.mpr ⟨List.mem_append_right _ (List.mem_of_getElem? (i := 755) (by decide +kernel)), by decide⟩
theorem wo_yX4_count : Cond.selects yX4_count.cls yX4_count yX4_count ∈ lw_all := List.mem_filter.mpr ⟨List.mem_append_right _ (List.mem_of_getElem? (i := 756) (by decide +kernel)), by decide⟩
theorem wk_yX4_count : Cond.code yX4_count cX4_count 2 (some .int) ∈ lw_all := List.mem_filter.mpr ⟨List.mem_append_right _ (List.mem_of_getElem? (i := 757) (by decide +kernel)), by decide⟩
theorem wm_X4_107 : Cond.methodLink RX4 107 yX3_counted ∈ lw_all := List.mem_filter.mpr ⟨List.mem_append_right _ (List.mem_of_getElem? (i := 758) (by decide +kernel)), by decide⟩
theorem wn_yX3_counted : Cond.instanceMethod yX3_counted ∈ lw_all := List.mem_filter.mpr ⟨List.mem_append_right _ (List.mem_of_getElem? (i := 759) (by decide +kernel)), by decide⟩
theorem wo_yX3_counted : Cond.selects yX3_counted.cls yX3_counted yX3_counted ∈ lw_all := List.mem_filter.mpr ⟨List.mem_append_right _ (List.mem_of_getElem? (i := 760) (by decide +kernel)), by decide⟩
theorem wk_yX3_counted : Cond.code yX3_counted cX3_counted 8 (some .int) ∈ lw_all := List.mem_filter.mpr ⟨List.mem_append_right _ (List.mem_of_getElem? (i := 761) (by decide +kernel)), by decide⟩
theorem wm_L_114 : Cond.methodLink RL 114 yX4_harbour ∈ lw_all := List.mem_filter.mpr ⟨List.mem_append_right _ (List.mem_of_getElem? (i := 762) (by decide +kernel)), by decide⟩
theorem wn_yX4_harbour : Cond.instanceMethod yX4_harbour ∈ lw_all := List.mem_filter.mpr ⟨List.mem_append_right _ (List.mem_of_getElem? (i := 763) (by decide +kernel)), by decide⟩
theorem wo_yX4_harbour : Cond.selects yX4_harbour.cls yX4_harbour yX4_harbour ∈ lw_all := List.mem_filter.mpr ⟨List.mem_append_right _ (List.mem_of_getElem? (i := 764) (by decide +kernel)), by decide⟩
theorem wk_yX4_harbour : Cond.code yX4_harbour cX4_harbour 3 (some .int) ∈ lw_all := List.mem_filter.mpr ⟨List.mem_append_right _ (List.mem_of_getElem? (i := 765) (by decide +kernel)), by decide⟩
theorem wm_X4_113 : Cond.methodLink RX4 113 yX4_harbourTold ∈ lw_all := List.mem_filter.mpr ⟨List.mem_append_right _ (List.mem_of_getElem? (i := 766) (by decide +kernel)), by decide⟩
theorem wn_yX4_harbourTold : Cond.instanceMethod yX4_harbourTold ∈ lw_all := List.mem_filter.mpr ⟨List.mem_append_right _ (List.mem_of_getElem? (i := 768) (by decide +kernel)), by decide⟩
theorem wk_yX4_harbourTold : Cond.code yX4_harbourTold cX4_harbourTold 6 (some .int) ∈ lw_all := List.mem_filter.mpr ⟨List.mem_append_right _ (List.mem_of_getElem? (i := 769) (by decide +kernel)), by decide⟩
theorem wm_X4_110 : Cond.methodLink RX4 110 yX3_isMore ∈ lw_all := List.mem_filter.mpr ⟨List.mem_append_right _ (List.mem_of_getElem? (i := 770) (by decide +kernel)), by decide⟩
theorem wm_L_118 : Cond.methodLink RL 118 yX4_until ∈ lw_all := List.mem_filter.mpr ⟨List.mem_append_right _ (List.mem_of_getElem? (i := 771) (by decide +kernel)), by decide⟩
theorem wn_yX4_until : Cond.instanceMethod yX4_until ∈ lw_all := List.mem_filter.mpr ⟨List.mem_append_right _ (List.mem_of_getElem? (i := 772) (by decide +kernel)), by decide⟩
theorem wo_yX4_until : Cond.selects yX4_until.cls yX4_until yX4_until ∈ lw_all := List.mem_filter.mpr ⟨List.mem_append_right _ (List.mem_of_getElem? (i := 773) (by decide +kernel)), by decide⟩
theorem wk_yX4_until : Cond.code yX4_until cX4_until 2 (some .int) ∈ lw_all := List.mem_filter.mpr ⟨List.mem_append_right _ (List.mem_of_getElem? (i := 774) (by decide +kernel)), by decide⟩
theorem wm_X4_116 : Cond.methodLink RX4 116 yX3_become ∈ lw_all := List.mem_filter.mpr ⟨List.mem_append_right _ (List.mem_of_getElem? (i := 775) (by decide +kernel)), by decide⟩
theorem wn_yX3_become : Cond.instanceMethod yX3_become ∈ lw_all := List.mem_filter.mpr ⟨List.mem_append_right _ (List.mem_of_getElem? (i := 776) (by decide +kernel)), by decide⟩
theorem wo_yX3_become : Cond.selects yX3_become.cls yX3_become yX3_become ∈ lw_all := List.mem_filter.mpr ⟨List.mem_append_right _ (List.mem_of_getElem? (i := 777) (by decide +kernel)), by decide⟩
theorem wk_yX3_become : Cond.code yX3_become cX3_become 2 none ∈ lw_all := List.mem_filter.mpr ⟨List.mem_append_right _ (List.mem_of_getElem? (i := 778) (by decide +kernel)), by decide⟩
theorem wm_X3_71 : Cond.methodLink RX3 71 yX3_copy ∈ lw_all := List.mem_filter.mpr ⟨List.mem_append_right _ (List.mem_of_getElem? (i := 779) (by decide +kernel)), by decide⟩
theorem ws_yX3_copy : Cond.static yX3_copy ∈ lw_all := List.mem_filter.mpr ⟨List.mem_append_right _ (List.mem_of_getElem? (i := 780) (by decide +kernel)), by decide⟩
theorem wk_yX3_copy : Cond.code yX3_copy cX3_copy 2 none ∈ lw_all := List.mem_filter.mpr ⟨List.mem_append_right _ (List.mem_of_getElem? (i := 781) (by decide +kernel)), by decide⟩
theorem wm_X3_65 : Cond.methodLink RX3 65 arraycopyName ∈ lw_all := List.mem_filter.mpr ⟨List.mem_append_right _ (List.mem_of_getElem? (i := 782) (by decide +kernel)), by decide⟩
theorem wm_X4_120 : Cond.methodLink RX4 120 yX3_isLed ∈ lw_all := List.mem_filter.mpr ⟨List.mem_append_right _ (List.mem_of_getElem? (i := 783) (by decide +kernel)), by decide⟩
theorem wn_yX3_isLed : Cond.instanceMethod yX3_isLed ∈ lw_all := List.mem_filter.mpr ⟨List.mem_append_right _ (List.mem_of_getElem? (i := 784) (by decide +kernel)), by decide⟩
theorem wo_yX3_isLed : Cond.selects yX3_isLed.cls yX3_isLed yX3_isLed ∈ lw_all := List.mem_filter.mpr ⟨List.mem_append_right _ (List.mem_of_getElem? (i := 785) (by decide +kernel)), by decide⟩
theorem wk_yX3_isLed : Cond.code yX3_isLed cX3_isLed 4 (some .boolean) ∈ lw_all := List.mem_filter.mpr ⟨List.mem_append_right _ (List.mem_of_getElem? (i := 786) (by decide +kernel)), by decide⟩
theorem wm_X4_124 : Cond.methodLink RX4 124 yX3_pass ∈ lw_all := List.mem_filter.mpr ⟨List.mem_append_right _ (List.mem_of_getElem? (i := 787) (by decide +kernel)), by decide⟩
theorem wm_L_121 : Cond.methodLink RL 121 yX4_foresee ∈ lw_all := List.mem_filter.mpr ⟨List.mem_append_right _ (List.mem_of_getElem? (i := 788) (by decide +kernel)), by decide⟩
theorem wn_yX4_foresee : Cond.instanceMethod yX4_foresee ∈ lw_all := List.mem_filter.mpr ⟨List.mem_append_right _ (List.mem_of_getElem? (i := 789) (by decide +kernel)), by decide⟩
theorem wo_yX4_foresee : Cond.selects yX4_foresee.cls yX4_foresee yX4_foresee ∈ lw_all := List.mem_filter.mpr ⟨List.mem_append_right _ (List.mem_of_getElem? (i := 790) (by decide +kernel)), by decide⟩
theorem wk_yX4_foresee : Cond.code yX4_foresee cX4_foresee 3 (some .int) ∈ lw_all := List.mem_filter.mpr ⟨List.mem_append_right _ (List.mem_of_getElem? (i := 791) (by decide +kernel)), by decide⟩
theorem wm_L_124 : Cond.methodLink RL 124 yX4_advise ∈ lw_all := List.mem_filter.mpr ⟨List.mem_append_right _ (List.mem_of_getElem? (i := 792) (by decide +kernel)), by decide⟩
theorem wn_yX4_advise : Cond.instanceMethod yX4_advise ∈ lw_all := List.mem_filter.mpr ⟨List.mem_append_right _ (List.mem_of_getElem? (i := 793) (by decide +kernel)), by decide⟩
theorem wo_yX4_advise : Cond.selects yX4_advise.cls yX4_advise yX4_advise ∈ lw_all := List.mem_filter.mpr ⟨List.mem_append_right _ (List.mem_of_getElem? (i := 794) (by decide +kernel)), by decide⟩
theorem wk_yX4_advise : Cond.code yX4_advise cX4_advise 6 (some .int) ∈ lw_all := List.mem_filter.mpr ⟨List.mem_append_right _ (List.mem_of_getElem? (i := 795) (by decide +kernel)), by decide⟩
theorem wm_L_129 : Cond.methodLink RL 129 yX4_mean ∈ lw_all := List.mem_filter.mpr ⟨List.mem_append_right _ (List.mem_of_getElem? (i := 796) (by decide +kernel)), by decide⟩
theorem wn_yX4_mean : Cond.instanceMethod yX4_mean ∈ lw_all := List.mem_filter.mpr ⟨List.mem_append_right _ (List.mem_of_getElem? (i := 797) (by decide +kernel)), by decide⟩
theorem wo_yX4_mean : Cond.selects yX4_mean.cls yX4_mean yX4_mean ∈ lw_all := List.mem_filter.mpr ⟨List.mem_append_right _ (List.mem_of_getElem? (i := 798) (by decide +kernel)), by decide⟩
theorem wk_yX4_mean : Cond.code yX4_mean cX4_mean 3 (some .double) ∈ lw_all := List.mem_filter.mpr ⟨List.mem_append_right _ (List.mem_of_getElem? (i := 799) (by decide +kernel)), by decide⟩
theorem wm_L_134 : Cond.methodLink RL 134 yX4_digest ∈ lw_all := List.mem_filter.mpr ⟨List.mem_append_right _ (List.mem_of_getElem? (i := 800) (by decide +kernel)), by decide⟩
theorem wn_yX4_digest : Cond.instanceMethod yX4_digest ∈ lw_all := List.mem_filter.mpr ⟨List.mem_append_right _ (List.mem_of_getElem? (i := 801) (by decide +kernel)), by decide⟩
theorem wo_yX4_digest : Cond.selects yX4_digest.cls yX4_digest yX4_digest ∈ lw_all := List.mem_filter.mpr ⟨List.mem_append_right _ (List.mem_of_getElem? (i := 802) (by decide +kernel)), by decide⟩
theorem wk_yX4_digest : Cond.code yX4_digest cX4_digest 6 (some .long) ∈ lw_all := List.mem_filter.mpr ⟨List.mem_append_right _ (List.mem_of_getElem? (i := 803) (by decide +kernel)), by decide⟩
theorem wc_X4_127 : Cond.constantLong RX4 127 (1759) ∈ lw_all := List.mem_filter.mpr ⟨List.mem_append_right _ (List.mem_of_getElem? (i := 804) (by decide +kernel)), by decide⟩
theorem wc_X4_129 : Cond.constantLong RX4 129 (31) ∈ lw_all := List.mem_filter.mpr ⟨List.mem_append_right _ (List.mem_of_getElem? (i := 805) (by decide +kernel)), by decide⟩
theorem wa_long : Cond.arrayClass .long ∈ lw_all := List.mem_filter.mpr ⟨List.mem_append_right _ (List.mem_of_getElem? (i := 806) (by decide +kernel)), by decide⟩
theorem wo_yX2_digestOfBoat : Cond.selects yX2_digestOfBoat.cls yX2_digestOfBoat yX2_digestOfBoat ∈ lw_all := List.mem_filter.mpr ⟨List.mem_append_left _ (List.mem_of_getElem? (i := 0) (by decide +kernel)), by decide⟩
theorem wo_yX2_needBoat : Cond.selects yX2_needBoat.cls yX2_needBoat yX2_needBoat ∈ lw_all := List.mem_filter.mpr ⟨List.mem_append_left _ (List.mem_of_getElem? (i := 2) (by decide +kernel)), by decide⟩
theorem wo_yX2_needBelow : Cond.selects yX2_needBelow.cls yX2_needBelow yX2_needBelow ∈ lw_all := List.mem_filter.mpr ⟨List.mem_append_left _ (List.mem_of_getElem? (i := 3) (by decide +kernel)), by decide⟩
theorem wo_yX2_needHours : Cond.selects yX2_needHours.cls yX2_needHours yX2_needHours ∈ lw_all := List.mem_filter.mpr ⟨List.mem_append_left _ (List.mem_of_getElem? (i := 4) (by decide +kernel)), by decide⟩
theorem wo_yX4_no : Cond.selects yX4_no.cls yX4_no yX4_no ∈ lw_all := List.mem_filter.mpr ⟨List.mem_append_left _ (List.mem_of_getElem? (i := 5) (by decide +kernel)), by decide⟩
theorem wo_yX4_isBoat : Cond.selects yX4_isBoat.cls yX4_isBoat yX4_isBoat ∈ lw_all := List.mem_filter.mpr ⟨List.mem_append_left _ (List.mem_of_getElem? (i := 6) (by decide +kernel)), by decide⟩
theorem wo_yX3_stand : Cond.selects yX3_stand.cls yX3_stand yX3_stand ∈ lw_all := List.mem_filter.mpr ⟨List.mem_append_left _ (List.mem_of_getElem? (i := 7) (by decide +kernel)), by decide⟩
theorem wo_yX3_hearOf : Cond.selects yX3_hearOf.cls yX3_hearOf yX3_hearOf ∈ lw_all := List.mem_filter.mpr ⟨List.mem_append_left _ (List.mem_of_getElem? (i := 8) (by decide +kernel)), by decide⟩
theorem wo_yX3_tell : Cond.selects yX3_tell.cls yX3_tell yX3_tell ∈ lw_all := List.mem_filter.mpr ⟨List.mem_append_left _ (List.mem_of_getElem? (i := 9) (by decide +kernel)), by decide⟩
theorem wo_yX3_takeFrom : Cond.selects yX3_takeFrom.cls yX3_takeFrom yX3_takeFrom ∈ lw_all := List.mem_filter.mpr ⟨List.mem_append_left _ (List.mem_of_getElem? (i := 10) (by decide +kernel)), by decide⟩
theorem wo_yX3_commit : Cond.selects yX3_commit.cls yX3_commit yX3_commit ∈ lw_all := List.mem_filter.mpr ⟨List.mem_append_left _ (List.mem_of_getElem? (i := 11) (by decide +kernel)), by decide⟩
theorem wo_yX4_boatTold : Cond.selects yX4_boatTold.cls yX4_boatTold yX4_boatTold ∈ lw_all := List.mem_filter.mpr ⟨List.mem_append_left _ (List.mem_of_getElem? (i := 12) (by decide +kernel)), by decide⟩
theorem wo_yX4_entryTold : Cond.selects yX4_entryTold.cls yX4_entryTold yX4_entryTold ∈ lw_all := List.mem_filter.mpr ⟨List.mem_append_left _ (List.mem_of_getElem? (i := 13) (by decide +kernel)), by decide⟩
theorem wo_yX4_harbourTold : Cond.selects yX4_harbourTold.cls yX4_harbourTold yX4_harbourTold ∈ lw_all := List.mem_filter.mpr ⟨List.mem_append_left _ (List.mem_of_getElem? (i := 14) (by decide +kernel)), by decide⟩
theorem wu_X0 : ∀ w ∈ u_ws RX0 TX0 13, w ∈ lw_all := fun w hw => by
  have h : ∀ w ∈ u_ws RX0 TX0 13, goodWord w = true := by decide +kernel
  refine List.mem_filter.mpr ⟨List.mem_append_right _ ?_, h w hw⟩
  have h2 : u_ws RX0 TX0 13 = [73, 75, 77, 79, 81, 83, 85, 87, 89, 91, 93, 95, 97].filterMap (fun i => tables_1[i]?) := by decide +kernel
  rw [h2] at hw
  obtain ⟨i, -, hi⟩ := List.mem_filterMap.mp hw
  exact List.mem_of_getElem? hi
theorem wu_X1 : ∀ w ∈ u_ws RX1 TX1 4, w ∈ lw_all := fun w hw => by
  have h : ∀ w ∈ u_ws RX1 TX1 4, goodWord w = true := by decide +kernel
  refine List.mem_filter.mpr ⟨List.mem_append_right _ ?_, h w hw⟩
  have h2 : u_ws RX1 TX1 4 = [42, 44, 46, 48].filterMap (fun i => tables_1[i]?) := by decide +kernel
  rw [h2] at hw
  obtain ⟨i, -, hi⟩ := List.mem_filterMap.mp hw
  exact List.mem_of_getElem? hi
theorem wu_X2 : ∀ w ∈ u_ws RX2 TX2 2, w ∈ lw_all := fun w hw => by
  have h : ∀ w ∈ u_ws RX2 TX2 2, goodWord w = true := by decide +kernel
  refine List.mem_filter.mpr ⟨List.mem_append_right _ ?_, h w hw⟩
  have h2 : u_ws RX2 TX2 2 = [116, 118].filterMap (fun i => tables_1[i]?) := by decide +kernel
  rw [h2] at hw
  obtain ⟨i, -, hi⟩ := List.mem_filterMap.mp hw
  exact List.mem_of_getElem? hi
theorem wu_X3 : ∀ w ∈ u_ws RX3 TX3 16, w ∈ lw_all := fun w hw => by
  have h : ∀ w ∈ u_ws RX3 TX3 16, goodWord w = true := by decide +kernel
  refine List.mem_filter.mpr ⟨List.mem_append_right _ ?_, h w hw⟩
  have h2 : u_ws RX3 TX3 16 = [580, 582, 584, 586, 588, 590, 592, 594, 596, 598, 600, 602, 604, 606, 608, 610].filterMap (fun i => tables_1[i]?) := by decide +kernel
  rw [h2] at hw
  obtain ⟨i, -, hi⟩ := List.mem_filterMap.mp hw
  exact List.mem_of_getElem? hi
theorem wu_X4 : ∀ w ∈ u_ws RX4 TX4 3, w ∈ lw_all := fun w hw => by
  have h : ∀ w ∈ u_ws RX4 TX4 3, goodWord w = true := by decide +kernel
  refine List.mem_filter.mpr ⟨List.mem_append_right _ ?_, h w hw⟩
  have h2 : u_ws RX4 TX4 3 = [616, 618, 620].filterMap (fun i => tables_1[i]?) := by decide +kernel
  rw [h2] at hw
  obtain ⟨i, -, hi⟩ := List.mem_filterMap.mp hw
  exact List.mem_of_getElem? hi
theorem wq_yX2_init : zCal yX2_init cX2_init 1 none 0 := ⟨wk_yX2_init, wi_X2, by decide, by decide, by decide +kernel⟩
theorem wq_yX0_init : zCal yX0_init cX0_init 1 none 0 := ⟨wk_yX0_init, wi_X0, by decide, by decide, by decide +kernel⟩
theorem wq_yX1_init : zCal yX1_init cX1_init 1 none 0 := ⟨wk_yX1_init, wi_X1, by decide, by decide, by decide +kernel⟩
theorem wq_yX0_begin : zCal yX0_begin cX0_begin 3 none 1 := ⟨wk_yX0_begin, wi_X0, by decide, by decide, by decide +kernel⟩
theorem wq_yX1_clear : zCal yX1_clear cX1_clear 2 none 1 := ⟨wk_yX1_clear, wi_X1, by decide, by decide, by decide +kernel⟩
theorem wq_yX2_leader : zCal yX2_leader cX2_leader 3 (some .int) 0 := ⟨wk_yX2_leader, wi_X2, by decide, by decide, by decide +kernel⟩
theorem wq_yX0_leadsNow : zCal yX0_leadsNow cX0_leadsNow 2 (some .boolean) 1 := ⟨wk_yX0_leadsNow, wi_X0, by decide, by decide, by decide +kernel⟩
theorem wq_yX2_until : zCal yX2_until cX2_until 2 (some .int) 0 := ⟨wk_yX2_until, wi_X2, by decide, by decide, by decide +kernel⟩
theorem wq_yX0_copyFrom : zCal yX0_copyFrom cX0_copyFrom 3 none 1 := ⟨wk_yX0_copyFrom, wi_X0, by decide, by decide, by decide +kernel⟩
theorem wq_yX1_copyFrom : zCal yX1_copyFrom cX1_copyFrom 2 none 1 := ⟨wk_yX1_copyFrom, wi_X1, by decide, by decide, by decide +kernel⟩
theorem wq_yX0_isLed : zCal yX0_isLed cX0_isLed 2 (some .boolean) 0 := ⟨wk_yX0_isLed, wi_X0, by decide, by decide, by decide +kernel⟩
theorem wq_yX0_upIn : zCal yX0_upIn cX0_upIn 4 (some .int) 1 := ⟨wk_yX0_upIn, wi_X0, by decide, by decide, by decide +kernel⟩
theorem wq_yX0_isMoreThanHalf : zCal yX0_isMoreThanHalf cX0_isMoreThanHalf 2 (some .boolean) 1 := ⟨wk_yX0_isMoreThanHalf, wi_X0, by decide, by decide, by decide +kernel⟩
theorem wq_yX0_passHours : zCal yX0_passHours cX0_passHours 3 none 1 := ⟨wk_yX0_passHours, wi_X0, by decide, by decide, by decide +kernel⟩
theorem wq_yX0_runClocks : zCal yX0_runClocks cX0_runClocks 2 none 0 := ⟨wk_yX0_runClocks, wi_X0, by decide, by decide, by decide +kernel⟩
theorem wq_yX0_stand : zCal yX0_stand cX0_stand 4 none 1 := ⟨wk_yX0_stand, wi_X0, by decide, by decide, by decide +kernel⟩
theorem wq_yX0_hear : zCal yX0_hear cX0_hear 3 (some .boolean) 2 := ⟨wk_yX0_hear, wi_X0, by decide, by decide, by decide +kernel⟩
theorem wq_yX0_givesVote : zCal yX0_givesVote cX0_givesVote 4 (some .boolean) 2 := ⟨wk_yX0_givesVote, wi_X0, by decide, by decide, by decide +kernel⟩
theorem wq_yX0_meetTerms : zCal yX0_meetTerms cX0_meetTerms 3 (some .boolean) 2 := ⟨wk_yX0_meetTerms, wi_X0, by decide, by decide, by decide +kernel⟩
theorem wq_yX0_takeTerm : zCal yX0_takeTerm cX0_takeTerm 3 none 2 := ⟨wk_yX0_takeTerm, wi_X0, by decide, by decide, by decide +kernel⟩
theorem wq_yX1_asNew : zCal yX1_asNew cX1_asNew 5 (some .boolean) 2 := ⟨wk_yX1_asNew, wi_X1, by decide, by decide, by decide +kernel⟩
theorem wq_yX1_lastTerm : zCal yX1_lastTerm cX1_lastTerm 2 (some .int) 1 := ⟨wk_yX1_lastTerm, wi_X1, by decide, by decide, by decide +kernel⟩
theorem wq_yX0_tellAll : zCal yX0_tellAll cX0_tellAll 2 none 0 := ⟨wk_yX0_tellAll, wi_X0, by decide, by decide, by decide +kernel⟩
theorem wq_yX0_tellOthers : zCal yX0_tellOthers cX0_tellOthers 3 none 1 := ⟨wk_yX0_tellOthers, wi_X0, by decide, by decide, by decide +kernel⟩
theorem wq_yX0_tell : zCal yX0_tell cX0_tell 3 none 2 := ⟨wk_yX0_tell, wi_X0, by decide, by decide, by decide +kernel⟩
theorem wq_yX1_mend : zCal yX1_mend cX1_mend 4 (some .boolean) 2 := ⟨wk_yX1_mend, wi_X1, by decide, by decide, by decide +kernel⟩
theorem wq_yX1_agreement : zCal yX1_agreement cX1_agreement 7 (some .int) 2 := ⟨wk_yX1_agreement, wi_X1, by decide, by decide, by decide +kernel⟩
theorem wq_yX1_loseLast : zCal yX1_loseLast cX1_loseLast 2 none 1 := ⟨wk_yX1_loseLast, wi_X1, by decide, by decide, by decide +kernel⟩
theorem wq_yX1_termAt : zCal yX1_termAt cX1_termAt 3 (some .int) 2 := ⟨wk_yX1_termAt, wi_X1, by decide, by decide, by decide +kernel⟩
theorem wq_yX1_fishAt : zCal yX1_fishAt cX1_fishAt 3 (some .int) 2 := ⟨wk_yX1_fishAt, wi_X1, by decide, by decide, by decide +kernel⟩
theorem wq_yX1_append : zCal yX1_append cX1_append 5 none 3 := ⟨wk_yX1_append, wi_X1, by decide, by decide, by decide +kernel⟩
theorem wq_yX1_learnCommitted : zCal yX1_learnCommitted cX1_learnCommitted 4 none 2 := ⟨wk_yX1_learnCommitted, wi_X1, by decide, by decide, by decide +kernel⟩
theorem wq_yX0_commitAll : zCal yX0_commitAll cX0_commitAll 2 none 0 := ⟨wk_yX0_commitAll, wi_X0, by decide, by decide, by decide +kernel⟩
theorem wq_yX0_commit : zCal yX0_commit cX0_commit 3 none 1 := ⟨wk_yX0_commit, wi_X0, by decide, by decide, by decide +kernel⟩
theorem wq_yX0_hearersThatAgree : zCal yX0_hearersThatAgree cX0_hearersThatAgree 5 (some .int) 2 := ⟨wk_yX0_hearersThatAgree, wi_X0, by decide, by decide, by decide +kernel⟩
theorem wq_yX2_mean : zCal yX2_mean cX2_mean 3 (some .double) 0 := ⟨wk_yX2_mean, wi_X2, by decide, by decide, by decide +kernel⟩
theorem wq_yX2_digest : zCal yX2_digest cX2_digest 4 (some .long) 0 := ⟨wk_yX2_digest, wi_X2, by decide, by decide, by decide +kernel⟩
theorem wq_yX0_ofFleet : zCal yX0_ofFleet cX0_ofFleet 2 (some .int) 1 := ⟨wk_yX0_ofFleet, wi_X0, by decide, by decide, by decide +kernel⟩
theorem wq_yX0_boatsUp : zCal yX0_boatsUp cX0_boatsUp 3 (some .int) 0 := ⟨wk_yX0_boatsUp, wi_X0, by decide, by decide, by decide +kernel⟩
theorem wq_yX0_boatsLeading : zCal yX0_boatsLeading cX0_boatsLeading 3 (some .int) 0 := ⟨wk_yX0_boatsLeading, wi_X0, by decide, by decide, by decide +kernel⟩
theorem wq_yX0_greatestTerm : zCal yX0_greatestTerm cX0_greatestTerm 3 (some .int) 0 := ⟨wk_yX0_greatestTerm, wi_X0, by decide, by decide, by decide +kernel⟩
theorem wq_yX0_mostKnown : zCal yX0_mostKnown cX0_mostKnown 3 (some .int) 0 := ⟨wk_yX0_mostKnown, wi_X0, by decide, by decide, by decide +kernel⟩
theorem wq_yX0_fewestKnown : zCal yX0_fewestKnown cX0_fewestKnown 3 (some .int) 0 := ⟨wk_yX0_fewestKnown, wi_X0, by decide, by decide, by decide +kernel⟩
theorem wq_yX2_digestOfBoat : zCal yX2_digestOfBoat cX2_digestOfBoat 8 (some .long) 2 := ⟨wk_yX2_digestOfBoat, wi_X2, by decide, by decide, by decide +kernel⟩
theorem wq_yX0_ofBoat : zCal yX0_ofBoat cX0_ofBoat 3 (some .int) 2 := ⟨wk_yX0_ofBoat, wi_X0, by decide, by decide, by decide +kernel⟩
theorem wq_yX0_ofEntry : zCal yX0_ofEntry cX0_ofEntry 4 (some .int) 3 := ⟨wk_yX0_ofEntry, wi_X0, by decide, by decide, by decide +kernel⟩
theorem wq_yX0_boatsThatAgree : zCal yX0_boatsThatAgree cX0_boatsThatAgree 5 (some .int) 2 := ⟨wk_yX0_boatsThatAgree, wi_X0, by decide, by decide, by decide +kernel⟩
theorem wq_yX2_fleet : zCal yX2_fleet cX2_fleet 2 (some .int) 1 := ⟨wk_yX2_fleet, wi_X2, by decide, by decide, by decide +kernel⟩
theorem wq_yX2_setPatience : zCal yX2_setPatience cX2_setPatience 4 (some .int) 2 := ⟨wk_yX2_setPatience, wi_X2, by decide, by decide, by decide +kernel⟩
theorem wq_yX2_needBoat : zCal yX2_needBoat cX2_needBoat 2 none 1 := ⟨wk_yX2_needBoat, wi_X2, by decide, by decide, by decide +kernel⟩
theorem wq_yX2_go : zCal yX2_go cX2_go 4 (some .int) 2 := ⟨wk_yX2_go, wi_X2, by decide, by decide, by decide +kernel⟩
theorem wq_yX2_needBelow : zCal yX2_needBelow cX2_needBelow 3 none 2 := ⟨wk_yX2_needBelow, wi_X2, by decide, by decide, by decide +kernel⟩
theorem wq_yX2_sink : zCal yX2_sink cX2_sink 2 (some .boolean) 1 := ⟨wk_yX2_sink, wi_X2, by decide, by decide, by decide +kernel⟩
theorem wq_yX0_raise : zCal yX0_raise cX0_raise 2 none 1 := ⟨wk_yX0_raise, wi_X0, by decide, by decide, by decide +kernel⟩
theorem wq_yX2_write : zCal yX2_write cX2_write 3 (some .int) 2 := ⟨wk_yX2_write, wi_X2, by decide, by decide, by decide +kernel⟩
theorem wq_yX2_pass : zCal yX2_pass cX2_pass 3 (some .int) 1 := ⟨wk_yX2_pass, wi_X2, by decide, by decide, by decide +kernel⟩
theorem wq_yX2_needHours : zCal yX2_needHours cX2_needHours 3 none 2 := ⟨wk_yX2_needHours, wi_X2, by decide, by decide, by decide +kernel⟩
theorem wq_yX2_told : zCal yX2_told cX2_told 3 (some .int) 2 := ⟨wk_yX2_told, wi_X2, by decide, by decide, by decide +kernel⟩
theorem wq_yX2_entry : zCal yX2_entry cX2_entry 4 (some .int) 3 := ⟨wk_yX2_entry, wi_X2, by decide, by decide, by decide +kernel⟩
theorem wq_yX2_agree : zCal yX2_agree cX2_agree 3 (some .int) 2 := ⟨wk_yX2_agree, wi_X2, by decide, by decide, by decide +kernel⟩
theorem wq_yX2_newer : zCal yX2_newer cX2_newer 3 (some .boolean) 2 := ⟨wk_yX2_newer, wi_X2, by decide, by decide, by decide +kernel⟩
theorem wq_yX2_count : zCal yX2_count cX2_count 2 (some .int) 1 := ⟨wk_yX2_count, wi_X2, by decide, by decide, by decide +kernel⟩
theorem wq_yX2_harbour : zCal yX2_harbour cX2_harbour 4 (some .int) 2 := ⟨wk_yX2_harbour, wi_X2, by decide, by decide, by decide +kernel⟩
theorem wq_yX0_newestIn : zCal yX0_newestIn cX0_newestIn 4 (some .int) 1 := ⟨wk_yX0_newestIn, wi_X0, by decide, by decide, by decide +kernel⟩
theorem wq_yX2_foresee : zCal yX2_foresee cX2_foresee 3 (some .int) 2 := ⟨wk_yX2_foresee, wi_X2, by decide, by decide, by decide +kernel⟩
theorem wq_yX2_advise : zCal yX2_advise cX2_advise 7 (some .int) 2 := ⟨wk_yX2_advise, wi_X2, by decide, by decide, by decide +kernel⟩
theorem wq_yX4_init : zCal yX4_init cX4_init 1 none 0 := ⟨wk_yX4_init, wi_X4, by decide, by decide, by decide +kernel⟩
theorem wq_yX3_init : zCal yX3_init cX3_init 1 none 0 := ⟨wk_yX3_init, wi_X3, by decide, by decide, by decide +kernel⟩
theorem wq_yX3_begin : zCal yX3_begin cX3_begin 3 none 1 := ⟨wk_yX3_begin, wi_X3, by decide, by decide, by decide +kernel⟩
theorem wq_yX4_thrown : zCal yX4_thrown cX4_thrown 1 (some .int) 0 := ⟨wk_yX4_thrown, wi_X4, by decide, by decide, by decide +kernel⟩
theorem wq_yX4_fleet : zCal yX4_fleet cX4_fleet 2 (some .int) 1 := ⟨wk_yX4_fleet, wi_X4, by decide, by decide, by decide +kernel⟩
theorem wq_yX4_isIn : zCal yX4_isIn cX4_isIn 3 (some .boolean) 3 := ⟨wk_yX4_isIn, wi_X4, by decide, by decide, by decide +kernel⟩
theorem wq_yX4_no : zCal yX4_no cX4_no 2 (some .int) 1 := ⟨wk_yX4_no, wi_X4, by decide, by decide, by decide +kernel⟩
theorem wq_yX4_setPatience : zCal yX4_setPatience cX4_setPatience 4 (some .int) 2 := ⟨wk_yX4_setPatience, wi_X4, by decide, by decide, by decide +kernel⟩
theorem wq_yX4_isBoat : zCal yX4_isBoat cX4_isBoat 2 (some .boolean) 1 := ⟨wk_yX4_isBoat, wi_X4, by decide, by decide, by decide +kernel⟩
theorem wq_yX4_go : zCal yX4_go cX4_go 4 (some .int) 2 := ⟨wk_yX4_go, wi_X4, by decide, by decide, by decide +kernel⟩
theorem wq_yX4_sink : zCal yX4_sink cX4_sink 2 (some .boolean) 1 := ⟨wk_yX4_sink, wi_X4, by decide, by decide, by decide +kernel⟩
theorem wq_yX4_write : zCal yX4_write cX4_write 3 (some .int) 2 := ⟨wk_yX4_write, wi_X4, by decide, by decide, by decide +kernel⟩
theorem wq_yX3_isUp : zCal yX3_isUp cX3_isUp 3 (some .boolean) 2 := ⟨wk_yX3_isUp, wi_X3, by decide, by decide, by decide +kernel⟩
theorem wq_yX3_add : zCal yX3_add cX3_add 4 none 3 := ⟨wk_yX3_add, wi_X3, by decide, by decide, by decide +kernel⟩
theorem wq_yX4_pass : zCal yX4_pass cX4_pass 3 (some .int) 1 := ⟨wk_yX4_pass, wi_X4, by decide, by decide, by decide +kernel⟩
theorem wq_yX3_passOn : zCal yX3_passOn cX3_passOn 3 none 1 := ⟨wk_yX3_passOn, wi_X3, by decide, by decide, by decide +kernel⟩
theorem wq_yX3_pass : zCal yX3_pass cX3_pass 2 none 0 := ⟨wk_yX3_pass, wi_X3, by decide, by decide, by decide +kernel⟩
theorem wq_yX3_stand : zCal yX3_stand cX3_stand 4 none 1 := ⟨wk_yX3_stand, wi_X3, by decide, by decide, by decide +kernel⟩
theorem wq_yX3_hear : zCal yX3_hear cX3_hear 3 (some .boolean) 2 := ⟨wk_yX3_hear, wi_X3, by decide, by decide, by decide +kernel⟩
theorem wq_yX3_hearOf : zCal yX3_hearOf cX3_hearOf 3 none 2 := ⟨wk_yX3_hearOf, wi_X3, by decide, by decide, by decide +kernel⟩
theorem wq_yX3_isAsNew : zCal yX3_isAsNew cX3_isAsNew 3 (some .boolean) 2 := ⟨wk_yX3_isAsNew, wi_X3, by decide, by decide, by decide +kernel⟩
theorem wq_yX3_lastTerm : zCal yX3_lastTerm cX3_lastTerm 2 (some .int) 1 := ⟨wk_yX3_lastTerm, wi_X3, by decide, by decide, by decide +kernel⟩
theorem wq_yX3_isMore : zCal yX3_isMore cX3_isMore 2 (some .boolean) 1 := ⟨wk_yX3_isMore, wi_X3, by decide, by decide, by decide +kernel⟩
theorem wq_yX3_tell : zCal yX3_tell cX3_tell 3 none 1 := ⟨wk_yX3_tell, wi_X3, by decide, by decide, by decide +kernel⟩
theorem wq_yX3_takeFrom : zCal yX3_takeFrom cX3_takeFrom 4 none 2 := ⟨wk_yX3_takeFrom, wi_X3, by decide, by decide, by decide +kernel⟩
theorem wq_yX3_agree : zCal yX3_agree cX3_agree 4 (some .int) 2 := ⟨wk_yX3_agree, wi_X3, by decide, by decide, by decide +kernel⟩
theorem wq_yX3_commit : zCal yX3_commit cX3_commit 5 none 1 := ⟨wk_yX3_commit, wi_X3, by decide, by decide, by decide +kernel⟩
theorem wq_yX4_told : zCal yX4_told cX4_told 3 (some .int) 2 := ⟨wk_yX4_told, wi_X4, by decide, by decide, by decide +kernel⟩
theorem wq_yX4_boatTold : zCal yX4_boatTold cX4_boatTold 3 (some .int) 2 := ⟨wk_yX4_boatTold, wi_X4, by decide, by decide, by decide +kernel⟩
theorem wq_yX4_entry : zCal yX4_entry cX4_entry 4 (some .int) 3 := ⟨wk_yX4_entry, wi_X4, by decide, by decide, by decide +kernel⟩
theorem wq_yX4_entryTold : zCal yX4_entryTold cX4_entryTold 6 (some .int) 3 := ⟨wk_yX4_entryTold, wi_X4, by decide, by decide, by decide +kernel⟩
theorem wq_yX4_agree : zCal yX4_agree cX4_agree 3 (some .int) 2 := ⟨wk_yX4_agree, wi_X4, by decide, by decide, by decide +kernel⟩
theorem wq_yX4_newer : zCal yX4_newer cX4_newer 3 (some .boolean) 2 := ⟨wk_yX4_newer, wi_X4, by decide, by decide, by decide +kernel⟩
theorem wq_yX4_leader : zCal yX4_leader cX4_leader 3 (some .int) 0 := ⟨wk_yX4_leader, wi_X4, by decide, by decide, by decide +kernel⟩
theorem wq_yX4_count : zCal yX4_count cX4_count 2 (some .int) 1 := ⟨wk_yX4_count, wi_X4, by decide, by decide, by decide +kernel⟩
theorem wq_yX3_counted : zCal yX3_counted cX3_counted 8 (some .int) 1 := ⟨wk_yX3_counted, wi_X3, by decide, by decide, by decide +kernel⟩
theorem wq_yX4_harbour : zCal yX4_harbour cX4_harbour 3 (some .int) 2 := ⟨wk_yX4_harbour, wi_X4, by decide, by decide, by decide +kernel⟩
theorem wq_yX4_harbourTold : zCal yX4_harbourTold cX4_harbourTold 6 (some .int) 2 := ⟨wk_yX4_harbourTold, wi_X4, by decide, by decide, by decide +kernel⟩
theorem wq_yX4_until : zCal yX4_until cX4_until 2 (some .int) 0 := ⟨wk_yX4_until, wi_X4, by decide, by decide, by decide +kernel⟩
theorem wq_yX3_become : zCal yX3_become cX3_become 2 none 1 := ⟨wk_yX3_become, wi_X3, by decide, by decide, by decide +kernel⟩
theorem wq_yX3_copy : zCal yX3_copy cX3_copy 2 none 2 := ⟨wk_yX3_copy, wi_X3, by decide, by decide, by decide +kernel⟩
theorem wq_yX3_isLed : zCal yX3_isLed cX3_isLed 4 (some .boolean) 0 := ⟨wk_yX3_isLed, wi_X3, by decide, by decide, by decide +kernel⟩
theorem wq_yX4_foresee : zCal yX4_foresee cX4_foresee 3 (some .int) 2 := ⟨wk_yX4_foresee, wi_X4, by decide, by decide, by decide +kernel⟩
theorem wq_yX4_advise : zCal yX4_advise cX4_advise 6 (some .int) 2 := ⟨wk_yX4_advise, wi_X4, by decide, by decide, by decide +kernel⟩
theorem wq_yX4_mean : zCal yX4_mean cX4_mean 3 (some .double) 0 := ⟨wk_yX4_mean, wi_X4, by decide, by decide, by decide +kernel⟩
theorem wq_yX4_digest : zCal yX4_digest cX4_digest 6 (some .long) 0 := ⟨wk_yX4_digest, wi_X4, by decide, by decide, by decide +kernel⟩
end
section
theorem dX1_init_0 : decode cX1_init 0 = .ok (.aload_n 0, 1) := by decide +kernel
theorem dX1_init_1 : decode cX1_init 1 = .ok (.invokespecial 3, 3) := by decide +kernel
theorem dX1_init_4 : decode cX1_init 4 = .ok (.aload_n 0, 1) := by decide +kernel
theorem dX1_init_5 : decode cX1_init 5 = .ok (.bipush 7, 2) := by decide +kernel
theorem dX1_init_7 : decode cX1_init 7 = .ok (.newarray .int, 2) := by decide +kernel
theorem dX1_init_9 : decode cX1_init 9 = .ok (.putfield 9, 3) := by decide +kernel
theorem dX1_init_12 : decode cX1_init 12 = .ok (.aload_n 0, 1) := by decide +kernel
theorem dX1_init_13 : decode cX1_init 13 = .ok (.bipush 7, 2) := by decide +kernel
theorem dX1_init_15 : decode cX1_init 15 = .ok (.newarray .int, 2) := by decide +kernel
theorem dX1_init_17 : decode cX1_init 17 = .ok (.putfield 15, 3) := by decide +kernel
theorem dX1_init_20 : decode cX1_init 20 = .ok (.aload_n 0, 1) := by decide +kernel
theorem dX1_init_21 : decode cX1_init 21 = .ok (.bipush 70, 2) := by decide +kernel
theorem dX1_init_23 : decode cX1_init 23 = .ok (.newarray .int, 2) := by decide +kernel
theorem dX1_init_25 : decode cX1_init 25 = .ok (.putfield 18, 3) := by decide +kernel
theorem dX1_init_28 : decode cX1_init 28 = .ok (.aload_n 0, 1) := by decide +kernel
theorem dX1_init_29 : decode cX1_init 29 = .ok (.bipush 70, 2) := by decide +kernel
theorem dX1_init_31 : decode cX1_init 31 = .ok (.newarray .int, 2) := by decide +kernel
theorem dX1_init_33 : decode cX1_init 33 = .ok (.putfield 21, 3) := by decide +kernel
theorem dX1_init_36 : decode cX1_init 36 = .ok (.return_, 1) := by decide +kernel
theorem dX1_clear_0 : decode cX1_clear 0 = .ok (.aload_n 0, 1) := by decide +kernel
theorem dX1_clear_1 : decode cX1_clear 1 = .ok (.getfield 9, 3) := by decide +kernel
theorem dX1_clear_4 : decode cX1_clear 4 = .ok (.iload_n 1, 1) := by decide +kernel
theorem dX1_clear_5 : decode cX1_clear 5 = .ok (.iconst 0, 1) := by decide +kernel
theorem dX1_clear_6 : decode cX1_clear 6 = .ok (.iastore, 1) := by decide +kernel
theorem dX1_clear_7 : decode cX1_clear 7 = .ok (.aload_n 0, 1) := by decide +kernel
theorem dX1_clear_8 : decode cX1_clear 8 = .ok (.getfield 15, 3) := by decide +kernel
theorem dX1_clear_11 : decode cX1_clear 11 = .ok (.iload_n 1, 1) := by decide +kernel
theorem dX1_clear_12 : decode cX1_clear 12 = .ok (.iconst 0, 1) := by decide +kernel
theorem dX1_clear_13 : decode cX1_clear 13 = .ok (.iastore, 1) := by decide +kernel
theorem dX1_clear_14 : decode cX1_clear 14 = .ok (.return_, 1) := by decide +kernel
theorem dX1_copyFrom_0 : decode cX1_copyFrom 0 = .ok (.aload_n 1, 1) := by decide +kernel
theorem dX1_copyFrom_1 : decode cX1_copyFrom 1 = .ok (.getfield 9, 3) := by decide +kernel
theorem dX1_copyFrom_4 : decode cX1_copyFrom 4 = .ok (.iconst 0, 1) := by decide +kernel
theorem dX1_copyFrom_5 : decode cX1_copyFrom 5 = .ok (.aload_n 0, 1) := by decide +kernel
theorem dX1_copyFrom_6 : decode cX1_copyFrom 6 = .ok (.getfield 9, 3) := by decide +kernel
theorem dX1_copyFrom_9 : decode cX1_copyFrom 9 = .ok (.iconst 0, 1) := by decide +kernel
theorem dX1_copyFrom_10 : decode cX1_copyFrom 10 = .ok (.bipush 7, 2) := by decide +kernel
theorem dX1_copyFrom_12 : decode cX1_copyFrom 12 = .ok (.invokestatic 24, 3) := by decide +kernel
theorem dX1_copyFrom_15 : decode cX1_copyFrom 15 = .ok (.aload_n 1, 1) := by decide +kernel
theorem dX1_copyFrom_16 : decode cX1_copyFrom 16 = .ok (.getfield 15, 3) := by decide +kernel
theorem dX1_copyFrom_19 : decode cX1_copyFrom 19 = .ok (.iconst 0, 1) := by decide +kernel
theorem dX1_copyFrom_20 : decode cX1_copyFrom 20 = .ok (.aload_n 0, 1) := by decide +kernel
theorem dX1_copyFrom_21 : decode cX1_copyFrom 21 = .ok (.getfield 15, 3) := by decide +kernel
theorem dX1_copyFrom_24 : decode cX1_copyFrom 24 = .ok (.iconst 0, 1) := by decide +kernel
theorem dX1_copyFrom_25 : decode cX1_copyFrom 25 = .ok (.bipush 7, 2) := by decide +kernel
theorem dX1_copyFrom_27 : decode cX1_copyFrom 27 = .ok (.invokestatic 24, 3) := by decide +kernel
theorem dX1_copyFrom_30 : decode cX1_copyFrom 30 = .ok (.aload_n 1, 1) := by decide +kernel
theorem dX1_copyFrom_31 : decode cX1_copyFrom 31 = .ok (.getfield 18, 3) := by decide +kernel
theorem dX1_copyFrom_34 : decode cX1_copyFrom 34 = .ok (.iconst 0, 1) := by decide +kernel
theorem dX1_copyFrom_35 : decode cX1_copyFrom 35 = .ok (.aload_n 0, 1) := by decide +kernel
theorem dX1_copyFrom_36 : decode cX1_copyFrom 36 = .ok (.getfield 18, 3) := by decide +kernel
theorem dX1_copyFrom_39 : decode cX1_copyFrom 39 = .ok (.iconst 0, 1) := by decide +kernel
theorem dX1_copyFrom_40 : decode cX1_copyFrom 40 = .ok (.bipush 70, 2) := by decide +kernel
theorem dX1_copyFrom_42 : decode cX1_copyFrom 42 = .ok (.invokestatic 24, 3) := by decide +kernel
theorem dX1_copyFrom_45 : decode cX1_copyFrom 45 = .ok (.aload_n 1, 1) := by decide +kernel
theorem dX1_copyFrom_46 : decode cX1_copyFrom 46 = .ok (.getfield 21, 3) := by decide +kernel
theorem dX1_copyFrom_49 : decode cX1_copyFrom 49 = .ok (.iconst 0, 1) := by decide +kernel
theorem dX1_copyFrom_50 : decode cX1_copyFrom 50 = .ok (.aload_n 0, 1) := by decide +kernel
theorem dX1_copyFrom_51 : decode cX1_copyFrom 51 = .ok (.getfield 21, 3) := by decide +kernel
theorem dX1_copyFrom_54 : decode cX1_copyFrom 54 = .ok (.iconst 0, 1) := by decide +kernel
theorem dX1_copyFrom_55 : decode cX1_copyFrom 55 = .ok (.bipush 70, 2) := by decide +kernel
theorem dX1_copyFrom_57 : decode cX1_copyFrom 57 = .ok (.invokestatic 24, 3) := by decide +kernel
theorem dX1_copyFrom_60 : decode cX1_copyFrom 60 = .ok (.return_, 1) := by decide +kernel
theorem dX1_termAt_0 : decode cX1_termAt 0 = .ok (.aload_n 0, 1) := by decide +kernel
theorem dX1_termAt_1 : decode cX1_termAt 1 = .ok (.getfield 18, 3) := by decide +kernel
theorem dX1_termAt_4 : decode cX1_termAt 4 = .ok (.iload_n 1, 1) := by decide +kernel
theorem dX1_termAt_5 : decode cX1_termAt 5 = .ok (.bipush 10, 2) := by decide +kernel
theorem dX1_termAt_7 : decode cX1_termAt 7 = .ok (.imul, 1) := by decide +kernel
theorem dX1_termAt_8 : decode cX1_termAt 8 = .ok (.iload_n 2, 1) := by decide +kernel
theorem dX1_termAt_9 : decode cX1_termAt 9 = .ok (.iadd, 1) := by decide +kernel
theorem dX1_termAt_10 : decode cX1_termAt 10 = .ok (.iaload, 1) := by decide +kernel
theorem dX1_termAt_11 : decode cX1_termAt 11 = .ok (.ireturn, 1) := by decide +kernel
theorem dX1_fishAt_0 : decode cX1_fishAt 0 = .ok (.aload_n 0, 1) := by decide +kernel
theorem dX1_fishAt_1 : decode cX1_fishAt 1 = .ok (.getfield 21, 3) := by decide +kernel
theorem dX1_fishAt_4 : decode cX1_fishAt 4 = .ok (.iload_n 1, 1) := by decide +kernel
theorem dX1_fishAt_5 : decode cX1_fishAt 5 = .ok (.bipush 10, 2) := by decide +kernel
theorem dX1_fishAt_7 : decode cX1_fishAt 7 = .ok (.imul, 1) := by decide +kernel
theorem dX1_fishAt_8 : decode cX1_fishAt 8 = .ok (.iload_n 2, 1) := by decide +kernel
theorem dX1_fishAt_9 : decode cX1_fishAt 9 = .ok (.iadd, 1) := by decide +kernel
theorem dX1_fishAt_10 : decode cX1_fishAt 10 = .ok (.iaload, 1) := by decide +kernel
theorem dX1_fishAt_11 : decode cX1_fishAt 11 = .ok (.ireturn, 1) := by decide +kernel
theorem dX1_lastTerm_0 : decode cX1_lastTerm 0 = .ok (.aload_n 0, 1) := by decide +kernel
theorem dX1_lastTerm_1 : decode cX1_lastTerm 1 = .ok (.getfield 9, 3) := by decide +kernel
theorem dX1_lastTerm_4 : decode cX1_lastTerm 4 = .ok (.iload_n 1, 1) := by decide +kernel
theorem dX1_lastTerm_5 : decode cX1_lastTerm 5 = .ok (.iaload, 1) := by decide +kernel
theorem dX1_lastTerm_6 : decode cX1_lastTerm 6 = .ok (.ifCond .le 24, 3) := by decide +kernel
theorem dX1_lastTerm_9 : decode cX1_lastTerm 9 = .ok (.aload_n 0, 1) := by decide +kernel
theorem dX1_lastTerm_10 : decode cX1_lastTerm 10 = .ok (.getfield 18, 3) := by decide +kernel
theorem dX1_lastTerm_13 : decode cX1_lastTerm 13 = .ok (.iload_n 1, 1) := by decide +kernel
theorem dX1_lastTerm_14 : decode cX1_lastTerm 14 = .ok (.bipush 10, 2) := by decide +kernel
theorem dX1_lastTerm_16 : decode cX1_lastTerm 16 = .ok (.imul, 1) := by decide +kernel
theorem dX1_lastTerm_17 : decode cX1_lastTerm 17 = .ok (.aload_n 0, 1) := by decide +kernel
theorem dX1_lastTerm_18 : decode cX1_lastTerm 18 = .ok (.getfield 9, 3) := by decide +kernel
theorem dX1_lastTerm_21 : decode cX1_lastTerm 21 = .ok (.iload_n 1, 1) := by decide +kernel
theorem dX1_lastTerm_22 : decode cX1_lastTerm 22 = .ok (.iaload, 1) := by decide +kernel
theorem dX1_lastTerm_23 : decode cX1_lastTerm 23 = .ok (.iadd, 1) := by decide +kernel
theorem dX1_lastTerm_24 : decode cX1_lastTerm 24 = .ok (.iconst 1, 1) := by decide +kernel
theorem dX1_lastTerm_25 : decode cX1_lastTerm 25 = .ok (.isub, 1) := by decide +kernel
theorem dX1_lastTerm_26 : decode cX1_lastTerm 26 = .ok (.iaload, 1) := by decide +kernel
theorem dX1_lastTerm_27 : decode cX1_lastTerm 27 = .ok (.goto 4, 3) := by decide +kernel
theorem dX1_lastTerm_30 : decode cX1_lastTerm 30 = .ok (.iconst (-1), 1) := by decide +kernel
theorem dX1_lastTerm_31 : decode cX1_lastTerm 31 = .ok (.ireturn, 1) := by decide +kernel
theorem dX1_append_0 : decode cX1_append 0 = .ok (.aload_n 0, 1) := by decide +kernel
theorem dX1_append_1 : decode cX1_append 1 = .ok (.getfield 9, 3) := by decide +kernel
theorem dX1_append_4 : decode cX1_append 4 = .ok (.iload_n 1, 1) := by decide +kernel
theorem dX1_append_5 : decode cX1_append 5 = .ok (.iaload, 1) := by decide +kernel
theorem dX1_append_6 : decode cX1_append 6 = .ok (.bipush 10, 2) := by decide +kernel
theorem dX1_append_8 : decode cX1_append 8 = .ok (.if_icmp .lt 4, 3) := by decide +kernel
theorem dX1_append_11 : decode cX1_append 11 = .ok (.return_, 1) := by decide +kernel
theorem dX1_append_12 : decode cX1_append 12 = .ok (.iload_n 1, 1) := by decide +kernel
theorem dX1_append_13 : decode cX1_append 13 = .ok (.bipush 10, 2) := by decide +kernel
theorem dX1_append_15 : decode cX1_append 15 = .ok (.imul, 1) := by decide +kernel
theorem dX1_append_16 : decode cX1_append 16 = .ok (.aload_n 0, 1) := by decide +kernel
theorem dX1_append_17 : decode cX1_append 17 = .ok (.getfield 9, 3) := by decide +kernel
theorem dX1_append_20 : decode cX1_append 20 = .ok (.iload_n 1, 1) := by decide +kernel
theorem dX1_append_21 : decode cX1_append 21 = .ok (.iaload, 1) := by decide +kernel
theorem dX1_append_22 : decode cX1_append 22 = .ok (.iadd, 1) := by decide +kernel
theorem dX1_append_23 : decode cX1_append 23 = .ok (.istore 4, 2) := by decide +kernel
theorem dX1_append_25 : decode cX1_append 25 = .ok (.aload_n 0, 1) := by decide +kernel
theorem dX1_append_26 : decode cX1_append 26 = .ok (.getfield 18, 3) := by decide +kernel
theorem dX1_append_29 : decode cX1_append 29 = .ok (.iload 4, 2) := by decide +kernel
theorem dX1_append_31 : decode cX1_append 31 = .ok (.iload_n 2, 1) := by decide +kernel
theorem dX1_append_32 : decode cX1_append 32 = .ok (.iastore, 1) := by decide +kernel
theorem dX1_append_33 : decode cX1_append 33 = .ok (.aload_n 0, 1) := by decide +kernel
theorem dX1_append_34 : decode cX1_append 34 = .ok (.getfield 21, 3) := by decide +kernel
theorem dX1_append_37 : decode cX1_append 37 = .ok (.iload 4, 2) := by decide +kernel
theorem dX1_append_39 : decode cX1_append 39 = .ok (.iload_n 3, 1) := by decide +kernel
theorem dX1_append_40 : decode cX1_append 40 = .ok (.iastore, 1) := by decide +kernel
theorem dX1_append_41 : decode cX1_append 41 = .ok (.aload_n 0, 1) := by decide +kernel
theorem dX1_append_42 : decode cX1_append 42 = .ok (.getfield 9, 3) := by decide +kernel
theorem dX1_append_45 : decode cX1_append 45 = .ok (.iload_n 1, 1) := by decide +kernel
theorem dX1_append_46 : decode cX1_append 46 = .ok (.dup2, 1) := by decide +kernel
theorem dX1_append_47 : decode cX1_append 47 = .ok (.iaload, 1) := by decide +kernel
theorem dX1_append_48 : decode cX1_append 48 = .ok (.iconst 1, 1) := by decide +kernel
theorem dX1_append_49 : decode cX1_append 49 = .ok (.iadd, 1) := by decide +kernel
theorem dX1_append_50 : decode cX1_append 50 = .ok (.iastore, 1) := by decide +kernel
theorem dX1_append_51 : decode cX1_append 51 = .ok (.return_, 1) := by decide +kernel
theorem dX1_loseLast_0 : decode cX1_loseLast 0 = .ok (.aload_n 0, 1) := by decide +kernel
theorem dX1_loseLast_1 : decode cX1_loseLast 1 = .ok (.getfield 9, 3) := by decide +kernel
theorem dX1_loseLast_4 : decode cX1_loseLast 4 = .ok (.iload_n 1, 1) := by decide +kernel
theorem dX1_loseLast_5 : decode cX1_loseLast 5 = .ok (.iaload, 1) := by decide +kernel
theorem dX1_loseLast_6 : decode cX1_loseLast 6 = .ok (.ifCond .le 13, 3) := by decide +kernel
theorem dX1_loseLast_9 : decode cX1_loseLast 9 = .ok (.aload_n 0, 1) := by decide +kernel
theorem dX1_loseLast_10 : decode cX1_loseLast 10 = .ok (.getfield 9, 3) := by decide +kernel
theorem dX1_loseLast_13 : decode cX1_loseLast 13 = .ok (.iload_n 1, 1) := by decide +kernel
theorem dX1_loseLast_14 : decode cX1_loseLast 14 = .ok (.dup2, 1) := by decide +kernel
theorem dX1_loseLast_15 : decode cX1_loseLast 15 = .ok (.iaload, 1) := by decide +kernel
theorem dX1_loseLast_16 : decode cX1_loseLast 16 = .ok (.iconst 1, 1) := by decide +kernel
theorem dX1_loseLast_17 : decode cX1_loseLast 17 = .ok (.isub, 1) := by decide +kernel
theorem dX1_loseLast_18 : decode cX1_loseLast 18 = .ok (.iastore, 1) := by decide +kernel
theorem dX1_loseLast_19 : decode cX1_loseLast 19 = .ok (.return_, 1) := by decide +kernel
theorem dX1_agreement_0 : decode cX1_agreement 0 = .ok (.iload_n 1, 1) := by decide +kernel
theorem dX1_agreement_1 : decode cX1_agreement 1 = .ok (.bipush 10, 2) := by decide +kernel
theorem dX1_agreement_3 : decode cX1_agreement 3 = .ok (.imul, 1) := by decide +kernel
theorem dX1_agreement_4 : decode cX1_agreement 4 = .ok (.istore_n 3, 1) := by decide +kernel
theorem dX1_agreement_5 : decode cX1_agreement 5 = .ok (.iload_n 2, 1) := by decide +kernel
theorem dX1_agreement_6 : decode cX1_agreement 6 = .ok (.bipush 10, 2) := by decide +kernel
theorem dX1_agreement_8 : decode cX1_agreement 8 = .ok (.imul, 1) := by decide +kernel
theorem dX1_agreement_9 : decode cX1_agreement 9 = .ok (.istore 4, 2) := by decide +kernel
theorem dX1_agreement_11 : decode cX1_agreement 11 = .ok (.aload_n 0, 1) := by decide +kernel
theorem dX1_agreement_12 : decode cX1_agreement 12 = .ok (.getfield 9, 3) := by decide +kernel
theorem dX1_agreement_15 : decode cX1_agreement 15 = .ok (.iload_n 1, 1) := by decide +kernel
theorem dX1_agreement_16 : decode cX1_agreement 16 = .ok (.iaload, 1) := by decide +kernel
theorem dX1_agreement_17 : decode cX1_agreement 17 = .ok (.aload_n 0, 1) := by decide +kernel
theorem dX1_agreement_18 : decode cX1_agreement 18 = .ok (.getfield 9, 3) := by decide +kernel
theorem dX1_agreement_21 : decode cX1_agreement 21 = .ok (.iload_n 2, 1) := by decide +kernel
theorem dX1_agreement_22 : decode cX1_agreement 22 = .ok (.iaload, 1) := by decide +kernel
theorem dX1_agreement_23 : decode cX1_agreement 23 = .ok (.invokestatic 30, 3) := by decide +kernel
theorem dX1_agreement_26 : decode cX1_agreement 26 = .ok (.istore 5, 2) := by decide +kernel
theorem dX1_agreement_28 : decode cX1_agreement 28 = .ok (.iconst 0, 1) := by decide +kernel
theorem dX1_agreement_29 : decode cX1_agreement 29 = .ok (.istore 6, 2) := by decide +kernel
theorem dX1_agreement_31 : decode cX1_agreement 31 = .ok (.iload 6, 2) := by decide +kernel
theorem dX1_agreement_33 : decode cX1_agreement 33 = .ok (.iload 5, 2) := by decide +kernel
theorem dX1_agreement_35 : decode cX1_agreement 35 = .ok (.if_icmp .ge 53, 3) := by decide +kernel
theorem dX1_agreement_38 : decode cX1_agreement 38 = .ok (.aload_n 0, 1) := by decide +kernel
theorem dX1_agreement_39 : decode cX1_agreement 39 = .ok (.getfield 18, 3) := by decide +kernel
theorem dX1_agreement_42 : decode cX1_agreement 42 = .ok (.iload_n 3, 1) := by decide +kernel
theorem dX1_agreement_43 : decode cX1_agreement 43 = .ok (.iload 6, 2) := by decide +kernel
theorem dX1_agreement_45 : decode cX1_agreement 45 = .ok (.iadd, 1) := by decide +kernel
theorem dX1_agreement_46 : decode cX1_agreement 46 = .ok (.iaload, 1) := by decide +kernel
theorem dX1_agreement_47 : decode cX1_agreement 47 = .ok (.aload_n 0, 1) := by decide +kernel
theorem dX1_agreement_48 : decode cX1_agreement 48 = .ok (.getfield 18, 3) := by decide +kernel
theorem dX1_agreement_51 : decode cX1_agreement 51 = .ok (.iload 4, 2) := by decide +kernel
theorem dX1_agreement_53 : decode cX1_agreement 53 = .ok (.iload 6, 2) := by decide +kernel
theorem dX1_agreement_55 : decode cX1_agreement 55 = .ok (.iadd, 1) := by decide +kernel
theorem dX1_agreement_56 : decode cX1_agreement 56 = .ok (.iaload, 1) := by decide +kernel
theorem dX1_agreement_57 : decode cX1_agreement 57 = .ok (.if_icmp .ne 31, 3) := by decide +kernel
theorem dX1_agreement_60 : decode cX1_agreement 60 = .ok (.aload_n 0, 1) := by decide +kernel
theorem dX1_agreement_61 : decode cX1_agreement 61 = .ok (.getfield 21, 3) := by decide +kernel
theorem dX1_agreement_64 : decode cX1_agreement 64 = .ok (.iload_n 3, 1) := by decide +kernel
theorem dX1_agreement_65 : decode cX1_agreement 65 = .ok (.iload 6, 2) := by decide +kernel
theorem dX1_agreement_67 : decode cX1_agreement 67 = .ok (.iadd, 1) := by decide +kernel
theorem dX1_agreement_68 : decode cX1_agreement 68 = .ok (.iaload, 1) := by decide +kernel
theorem dX1_agreement_69 : decode cX1_agreement 69 = .ok (.aload_n 0, 1) := by decide +kernel
theorem dX1_agreement_70 : decode cX1_agreement 70 = .ok (.getfield 21, 3) := by decide +kernel
theorem dX1_agreement_73 : decode cX1_agreement 73 = .ok (.iload 4, 2) := by decide +kernel
theorem dX1_agreement_75 : decode cX1_agreement 75 = .ok (.iload 6, 2) := by decide +kernel
theorem dX1_agreement_77 : decode cX1_agreement 77 = .ok (.iadd, 1) := by decide +kernel
theorem dX1_agreement_78 : decode cX1_agreement 78 = .ok (.iaload, 1) := by decide +kernel
theorem dX1_agreement_79 : decode cX1_agreement 79 = .ok (.if_icmp .ne 9, 3) := by decide +kernel
theorem dX1_agreement_82 : decode cX1_agreement 82 = .ok (.iinc 6 1, 3) := by decide +kernel
theorem dX1_agreement_85 : decode cX1_agreement 85 = .ok (.goto (-54), 3) := by decide +kernel
theorem dX1_agreement_88 : decode cX1_agreement 88 = .ok (.iload 6, 2) := by decide +kernel
theorem dX1_agreement_90 : decode cX1_agreement 90 = .ok (.ireturn, 1) := by decide +kernel
theorem dX1_asNew_0 : decode cX1_asNew 0 = .ok (.aload_n 0, 1) := by decide +kernel
theorem dX1_asNew_1 : decode cX1_asNew 1 = .ok (.iload_n 1, 1) := by decide +kernel
theorem dX1_asNew_2 : decode cX1_asNew 2 = .ok (.invokevirtual 36, 3) := by decide +kernel
theorem dX1_asNew_5 : decode cX1_asNew 5 = .ok (.istore_n 3, 1) := by decide +kernel
theorem dX1_asNew_6 : decode cX1_asNew 6 = .ok (.aload_n 0, 1) := by decide +kernel
theorem dX1_asNew_7 : decode cX1_asNew 7 = .ok (.iload_n 2, 1) := by decide +kernel
theorem dX1_asNew_8 : decode cX1_asNew 8 = .ok (.invokevirtual 36, 3) := by decide +kernel
theorem dX1_asNew_11 : decode cX1_asNew 11 = .ok (.istore 4, 2) := by decide +kernel
theorem dX1_asNew_13 : decode cX1_asNew 13 = .ok (.iload_n 3, 1) := by decide +kernel
theorem dX1_asNew_14 : decode cX1_asNew 14 = .ok (.iload 4, 2) := by decide +kernel
theorem dX1_asNew_16 : decode cX1_asNew 16 = .ok (.if_icmp .gt 24, 3) := by decide +kernel
theorem dX1_asNew_19 : decode cX1_asNew 19 = .ok (.iload_n 3, 1) := by decide +kernel
theorem dX1_asNew_20 : decode cX1_asNew 20 = .ok (.iload 4, 2) := by decide +kernel
theorem dX1_asNew_22 : decode cX1_asNew 22 = .ok (.if_icmp .ne 22, 3) := by decide +kernel
theorem dX1_asNew_25 : decode cX1_asNew 25 = .ok (.aload_n 0, 1) := by decide +kernel
theorem dX1_asNew_26 : decode cX1_asNew 26 = .ok (.getfield 9, 3) := by decide +kernel
theorem dX1_asNew_29 : decode cX1_asNew 29 = .ok (.iload_n 1, 1) := by decide +kernel
theorem dX1_asNew_30 : decode cX1_asNew 30 = .ok (.iaload, 1) := by decide +kernel
theorem dX1_asNew_31 : decode cX1_asNew 31 = .ok (.aload_n 0, 1) := by decide +kernel
theorem dX1_asNew_32 : decode cX1_asNew 32 = .ok (.getfield 9, 3) := by decide +kernel
theorem dX1_asNew_35 : decode cX1_asNew 35 = .ok (.iload_n 2, 1) := by decide +kernel
theorem dX1_asNew_36 : decode cX1_asNew 36 = .ok (.iaload, 1) := by decide +kernel
theorem dX1_asNew_37 : decode cX1_asNew 37 = .ok (.if_icmp .lt 7, 3) := by decide +kernel
theorem dX1_asNew_40 : decode cX1_asNew 40 = .ok (.iconst 1, 1) := by decide +kernel
theorem dX1_asNew_41 : decode cX1_asNew 41 = .ok (.goto 4, 3) := by decide +kernel
theorem dX1_asNew_44 : decode cX1_asNew 44 = .ok (.iconst 0, 1) := by decide +kernel
theorem dX1_asNew_45 : decode cX1_asNew 45 = .ok (.ireturn, 1) := by decide +kernel
theorem dX1_mend_0 : decode cX1_mend 0 = .ok (.aload_n 0, 1) := by decide +kernel
theorem dX1_mend_1 : decode cX1_mend 1 = .ok (.iload_n 1, 1) := by decide +kernel
theorem dX1_mend_2 : decode cX1_mend 2 = .ok (.iload_n 2, 1) := by decide +kernel
theorem dX1_mend_3 : decode cX1_mend 3 = .ok (.invokevirtual 40, 3) := by decide +kernel
theorem dX1_mend_6 : decode cX1_mend 6 = .ok (.istore_n 3, 1) := by decide +kernel
theorem dX1_mend_7 : decode cX1_mend 7 = .ok (.aload_n 0, 1) := by decide +kernel
theorem dX1_mend_8 : decode cX1_mend 8 = .ok (.getfield 9, 3) := by decide +kernel
theorem dX1_mend_11 : decode cX1_mend 11 = .ok (.iload_n 2, 1) := by decide +kernel
theorem dX1_mend_12 : decode cX1_mend 12 = .ok (.iaload, 1) := by decide +kernel
theorem dX1_mend_13 : decode cX1_mend 13 = .ok (.iload_n 3, 1) := by decide +kernel
theorem dX1_mend_14 : decode cX1_mend 14 = .ok (.if_icmp .le 10, 3) := by decide +kernel
theorem dX1_mend_17 : decode cX1_mend 17 = .ok (.aload_n 0, 1) := by decide +kernel
theorem dX1_mend_18 : decode cX1_mend 18 = .ok (.iload_n 2, 1) := by decide +kernel
theorem dX1_mend_19 : decode cX1_mend 19 = .ok (.invokevirtual 43, 3) := by decide +kernel
theorem dX1_mend_22 : decode cX1_mend 22 = .ok (.iconst 1, 1) := by decide +kernel
theorem dX1_mend_23 : decode cX1_mend 23 = .ok (.ireturn, 1) := by decide +kernel
theorem dX1_mend_24 : decode cX1_mend 24 = .ok (.iload_n 3, 1) := by decide +kernel
theorem dX1_mend_25 : decode cX1_mend 25 = .ok (.aload_n 0, 1) := by decide +kernel
theorem dX1_mend_26 : decode cX1_mend 26 = .ok (.getfield 9, 3) := by decide +kernel
theorem dX1_mend_29 : decode cX1_mend 29 = .ok (.iload_n 1, 1) := by decide +kernel
theorem dX1_mend_30 : decode cX1_mend 30 = .ok (.iaload, 1) := by decide +kernel
theorem dX1_mend_31 : decode cX1_mend 31 = .ok (.if_icmp .ge 20, 3) := by decide +kernel
theorem dX1_mend_34 : decode cX1_mend 34 = .ok (.aload_n 0, 1) := by decide +kernel
theorem dX1_mend_35 : decode cX1_mend 35 = .ok (.iload_n 2, 1) := by decide +kernel
theorem dX1_mend_36 : decode cX1_mend 36 = .ok (.aload_n 0, 1) := by decide +kernel
theorem dX1_mend_37 : decode cX1_mend 37 = .ok (.iload_n 1, 1) := by decide +kernel
theorem dX1_mend_38 : decode cX1_mend 38 = .ok (.iload_n 3, 1) := by decide +kernel
theorem dX1_mend_39 : decode cX1_mend 39 = .ok (.invokevirtual 47, 3) := by decide +kernel
theorem dX1_mend_42 : decode cX1_mend 42 = .ok (.aload_n 0, 1) := by decide +kernel
theorem dX1_mend_43 : decode cX1_mend 43 = .ok (.iload_n 1, 1) := by decide +kernel
theorem dX1_mend_44 : decode cX1_mend 44 = .ok (.iload_n 3, 1) := by decide +kernel
theorem dX1_mend_45 : decode cX1_mend 45 = .ok (.invokevirtual 50, 3) := by decide +kernel
theorem dX1_mend_48 : decode cX1_mend 48 = .ok (.invokevirtual 53, 3) := by decide +kernel
theorem dX1_mend_51 : decode cX1_mend 51 = .ok (.iconst 0, 1) := by decide +kernel
theorem dX1_mend_52 : decode cX1_mend 52 = .ok (.ireturn, 1) := by decide +kernel
theorem dX1_learnCommitted_0 : decode cX1_learnCommitted 0 = .ok (.aload_n 0, 1) := by decide +kernel
theorem dX1_learnCommitted_1 : decode cX1_learnCommitted 1 = .ok (.getfield 15, 3) := by decide +kernel
theorem dX1_learnCommitted_4 : decode cX1_learnCommitted 4 = .ok (.iload_n 1, 1) := by decide +kernel
theorem dX1_learnCommitted_5 : decode cX1_learnCommitted 5 = .ok (.iaload, 1) := by decide +kernel
theorem dX1_learnCommitted_6 : decode cX1_learnCommitted 6 = .ok (.aload_n 0, 1) := by decide +kernel
theorem dX1_learnCommitted_7 : decode cX1_learnCommitted 7 = .ok (.iload_n 1, 1) := by decide +kernel
theorem dX1_learnCommitted_8 : decode cX1_learnCommitted 8 = .ok (.iload_n 2, 1) := by decide +kernel
theorem dX1_learnCommitted_9 : decode cX1_learnCommitted 9 = .ok (.invokevirtual 40, 3) := by decide +kernel
theorem dX1_learnCommitted_12 : decode cX1_learnCommitted 12 = .ok (.invokestatic 30, 3) := by decide +kernel
theorem dX1_learnCommitted_15 : decode cX1_learnCommitted 15 = .ok (.istore_n 3, 1) := by decide +kernel
theorem dX1_learnCommitted_16 : decode cX1_learnCommitted 16 = .ok (.aload_n 0, 1) := by decide +kernel
theorem dX1_learnCommitted_17 : decode cX1_learnCommitted 17 = .ok (.getfield 15, 3) := by decide +kernel
theorem dX1_learnCommitted_20 : decode cX1_learnCommitted 20 = .ok (.iload_n 2, 1) := by decide +kernel
theorem dX1_learnCommitted_21 : decode cX1_learnCommitted 21 = .ok (.aload_n 0, 1) := by decide +kernel
theorem dX1_learnCommitted_22 : decode cX1_learnCommitted 22 = .ok (.getfield 15, 3) := by decide +kernel
theorem dX1_learnCommitted_25 : decode cX1_learnCommitted 25 = .ok (.iload_n 2, 1) := by decide +kernel
theorem dX1_learnCommitted_26 : decode cX1_learnCommitted 26 = .ok (.iaload, 1) := by decide +kernel
theorem dX1_learnCommitted_27 : decode cX1_learnCommitted 27 = .ok (.iload_n 3, 1) := by decide +kernel
theorem dX1_learnCommitted_28 : decode cX1_learnCommitted 28 = .ok (.invokestatic 57, 3) := by decide +kernel
theorem dX1_learnCommitted_31 : decode cX1_learnCommitted 31 = .ok (.iastore, 1) := by decide +kernel
theorem dX1_learnCommitted_32 : decode cX1_learnCommitted 32 = .ok (.return_, 1) := by decide +kernel
end
section
theorem dX0_init_0 : decode cX0_init 0 = .ok (.aload_n 0, 1) := by decide +kernel
theorem dX0_init_1 : decode cX0_init 1 = .ok (.invokespecial 3, 3) := by decide +kernel
theorem dX0_init_4 : decode cX0_init 4 = .ok (.aload_n 0, 1) := by decide +kernel
theorem dX0_init_5 : decode cX0_init 5 = .ok (.bipush 7, 2) := by decide +kernel
theorem dX0_init_7 : decode cX0_init 7 = .ok (.newarray .int, 2) := by decide +kernel
theorem dX0_init_9 : decode cX0_init 9 = .ok (.putfield 9, 3) := by decide +kernel
theorem dX0_init_12 : decode cX0_init 12 = .ok (.aload_n 0, 1) := by decide +kernel
theorem dX0_init_13 : decode cX0_init 13 = .ok (.bipush 7, 2) := by decide +kernel
theorem dX0_init_15 : decode cX0_init 15 = .ok (.newarray .int, 2) := by decide +kernel
theorem dX0_init_17 : decode cX0_init 17 = .ok (.putfield 15, 3) := by decide +kernel
theorem dX0_init_20 : decode cX0_init 20 = .ok (.aload_n 0, 1) := by decide +kernel
theorem dX0_init_21 : decode cX0_init 21 = .ok (.bipush 7, 2) := by decide +kernel
theorem dX0_init_23 : decode cX0_init 23 = .ok (.newarray .int, 2) := by decide +kernel
theorem dX0_init_25 : decode cX0_init 25 = .ok (.putfield 18, 3) := by decide +kernel
theorem dX0_init_28 : decode cX0_init 28 = .ok (.aload_n 0, 1) := by decide +kernel
theorem dX0_init_29 : decode cX0_init 29 = .ok (.bipush 7, 2) := by decide +kernel
theorem dX0_init_31 : decode cX0_init 31 = .ok (.newarray .int, 2) := by decide +kernel
theorem dX0_init_33 : decode cX0_init 33 = .ok (.putfield 21, 3) := by decide +kernel
theorem dX0_init_36 : decode cX0_init 36 = .ok (.aload_n 0, 1) := by decide +kernel
theorem dX0_init_37 : decode cX0_init 37 = .ok (.bipush 7, 2) := by decide +kernel
theorem dX0_init_39 : decode cX0_init 39 = .ok (.newarray .int, 2) := by decide +kernel
theorem dX0_init_41 : decode cX0_init 41 = .ok (.putfield 24, 3) := by decide +kernel
theorem dX0_init_44 : decode cX0_init 44 = .ok (.aload_n 0, 1) := by decide +kernel
theorem dX0_init_45 : decode cX0_init 45 = .ok (.bipush 7, 2) := by decide +kernel
theorem dX0_init_47 : decode cX0_init 47 = .ok (.newarray .int, 2) := by decide +kernel
theorem dX0_init_49 : decode cX0_init 49 = .ok (.putfield 27, 3) := by decide +kernel
theorem dX0_init_52 : decode cX0_init 52 = .ok (.aload_n 0, 1) := by decide +kernel
theorem dX0_init_53 : decode cX0_init 53 = .ok (.bipush 7, 2) := by decide +kernel
theorem dX0_init_55 : decode cX0_init 55 = .ok (.newarray .boolean, 2) := by decide +kernel
theorem dX0_init_57 : decode cX0_init 57 = .ok (.putfield 30, 3) := by decide +kernel
theorem dX0_init_60 : decode cX0_init 60 = .ok (.aload_n 0, 1) := by decide +kernel
theorem dX0_init_61 : decode cX0_init 61 = .ok (.new 34, 3) := by decide +kernel
theorem dX0_init_64 : decode cX0_init 64 = .ok (.dup, 1) := by decide +kernel
theorem dX0_init_65 : decode cX0_init 65 = .ok (.invokespecial 36, 3) := by decide +kernel
theorem dX0_init_68 : decode cX0_init 68 = .ok (.putfield 37, 3) := by decide +kernel
theorem dX0_init_71 : decode cX0_init 71 = .ok (.return_, 1) := by decide +kernel
theorem dX0_begin_0 : decode cX0_begin 0 = .ok (.aload_n 0, 1) := by decide +kernel
theorem dX0_begin_1 : decode cX0_begin 1 = .ok (.iconst 3, 1) := by decide +kernel
theorem dX0_begin_2 : decode cX0_begin 2 = .ok (.iload_n 1, 1) := by decide +kernel
theorem dX0_begin_3 : decode cX0_begin 3 = .ok (.bipush 7, 2) := by decide +kernel
theorem dX0_begin_5 : decode cX0_begin 5 = .ok (.invokestatic 41, 3) := by decide +kernel
theorem dX0_begin_8 : decode cX0_begin 8 = .ok (.invokestatic 47, 3) := by decide +kernel
theorem dX0_begin_11 : decode cX0_begin 11 = .ok (.putfield 50, 3) := by decide +kernel
theorem dX0_begin_14 : decode cX0_begin 14 = .ok (.aload_n 0, 1) := by decide +kernel
theorem dX0_begin_15 : decode cX0_begin 15 = .ok (.iconst 0, 1) := by decide +kernel
theorem dX0_begin_16 : decode cX0_begin 16 = .ok (.putfield 54, 3) := by decide +kernel
theorem dX0_begin_19 : decode cX0_begin 19 = .ok (.aload_n 0, 1) := by decide +kernel
theorem dX0_begin_20 : decode cX0_begin 20 = .ok (.iconst 0, 1) := by decide +kernel
theorem dX0_begin_21 : decode cX0_begin 21 = .ok (.putfield 57, 3) := by decide +kernel
theorem dX0_begin_24 : decode cX0_begin 24 = .ok (.aload_n 0, 1) := by decide +kernel
theorem dX0_begin_25 : decode cX0_begin 25 = .ok (.iconst 0, 1) := by decide +kernel
theorem dX0_begin_26 : decode cX0_begin 26 = .ok (.putfield 60, 3) := by decide +kernel
theorem dX0_begin_29 : decode cX0_begin 29 = .ok (.aload_n 0, 1) := by decide +kernel
theorem dX0_begin_30 : decode cX0_begin 30 = .ok (.iconst 0, 1) := by decide +kernel
theorem dX0_begin_31 : decode cX0_begin 31 = .ok (.putfield 63, 3) := by decide +kernel
theorem dX0_begin_34 : decode cX0_begin 34 = .ok (.iconst 0, 1) := by decide +kernel
theorem dX0_begin_35 : decode cX0_begin 35 = .ok (.istore_n 2, 1) := by decide +kernel
theorem dX0_begin_36 : decode cX0_begin 36 = .ok (.iload_n 2, 1) := by decide +kernel
theorem dX0_begin_37 : decode cX0_begin 37 = .ok (.aload_n 0, 1) := by decide +kernel
theorem dX0_begin_38 : decode cX0_begin 38 = .ok (.getfield 50, 3) := by decide +kernel
theorem dX0_begin_41 : decode cX0_begin 41 = .ok (.if_icmp .ge 73, 3) := by decide +kernel
theorem dX0_begin_44 : decode cX0_begin 44 = .ok (.aload_n 0, 1) := by decide +kernel
theorem dX0_begin_45 : decode cX0_begin 45 = .ok (.getfield 9, 3) := by decide +kernel
theorem dX0_begin_48 : decode cX0_begin 48 = .ok (.iload_n 2, 1) := by decide +kernel
theorem dX0_begin_49 : decode cX0_begin 49 = .ok (.iconst 2, 1) := by decide +kernel
theorem dX0_begin_50 : decode cX0_begin 50 = .ok (.iload_n 2, 1) := by decide +kernel
theorem dX0_begin_51 : decode cX0_begin 51 = .ok (.iadd, 1) := by decide +kernel
theorem dX0_begin_52 : decode cX0_begin 52 = .ok (.iastore, 1) := by decide +kernel
theorem dX0_begin_53 : decode cX0_begin 53 = .ok (.aload_n 0, 1) := by decide +kernel
theorem dX0_begin_54 : decode cX0_begin 54 = .ok (.getfield 15, 3) := by decide +kernel
theorem dX0_begin_57 : decode cX0_begin 57 = .ok (.iload_n 2, 1) := by decide +kernel
theorem dX0_begin_58 : decode cX0_begin 58 = .ok (.aload_n 0, 1) := by decide +kernel
theorem dX0_begin_59 : decode cX0_begin 59 = .ok (.getfield 9, 3) := by decide +kernel
theorem dX0_begin_62 : decode cX0_begin 62 = .ok (.iload_n 2, 1) := by decide +kernel
theorem dX0_begin_63 : decode cX0_begin 63 = .ok (.iaload, 1) := by decide +kernel
theorem dX0_begin_64 : decode cX0_begin 64 = .ok (.iastore, 1) := by decide +kernel
theorem dX0_begin_65 : decode cX0_begin 65 = .ok (.aload_n 0, 1) := by decide +kernel
theorem dX0_begin_66 : decode cX0_begin 66 = .ok (.getfield 18, 3) := by decide +kernel
theorem dX0_begin_69 : decode cX0_begin 69 = .ok (.iload_n 2, 1) := by decide +kernel
theorem dX0_begin_70 : decode cX0_begin 70 = .ok (.iconst 0, 1) := by decide +kernel
theorem dX0_begin_71 : decode cX0_begin 71 = .ok (.iastore, 1) := by decide +kernel
theorem dX0_begin_72 : decode cX0_begin 72 = .ok (.aload_n 0, 1) := by decide +kernel
theorem dX0_begin_73 : decode cX0_begin 73 = .ok (.getfield 21, 3) := by decide +kernel
theorem dX0_begin_76 : decode cX0_begin 76 = .ok (.iload_n 2, 1) := by decide +kernel
theorem dX0_begin_77 : decode cX0_begin 77 = .ok (.iconst (-1), 1) := by decide +kernel
theorem dX0_begin_78 : decode cX0_begin 78 = .ok (.iastore, 1) := by decide +kernel
theorem dX0_begin_79 : decode cX0_begin 79 = .ok (.aload_n 0, 1) := by decide +kernel
theorem dX0_begin_80 : decode cX0_begin 80 = .ok (.getfield 24, 3) := by decide +kernel
theorem dX0_begin_83 : decode cX0_begin 83 = .ok (.iload_n 2, 1) := by decide +kernel
theorem dX0_begin_84 : decode cX0_begin 84 = .ok (.iconst 0, 1) := by decide +kernel
theorem dX0_begin_85 : decode cX0_begin 85 = .ok (.iastore, 1) := by decide +kernel
theorem dX0_begin_86 : decode cX0_begin 86 = .ok (.aload_n 0, 1) := by decide +kernel
theorem dX0_begin_87 : decode cX0_begin 87 = .ok (.getfield 27, 3) := by decide +kernel
theorem dX0_begin_90 : decode cX0_begin 90 = .ok (.iload_n 2, 1) := by decide +kernel
theorem dX0_begin_91 : decode cX0_begin 91 = .ok (.iconst 0, 1) := by decide +kernel
theorem dX0_begin_92 : decode cX0_begin 92 = .ok (.iastore, 1) := by decide +kernel
theorem dX0_begin_93 : decode cX0_begin 93 = .ok (.aload_n 0, 1) := by decide +kernel
theorem dX0_begin_94 : decode cX0_begin 94 = .ok (.getfield 30, 3) := by decide +kernel
theorem dX0_begin_97 : decode cX0_begin 97 = .ok (.iload_n 2, 1) := by decide +kernel
theorem dX0_begin_98 : decode cX0_begin 98 = .ok (.iconst 1, 1) := by decide +kernel
theorem dX0_begin_99 : decode cX0_begin 99 = .ok (.bastore, 1) := by decide +kernel
theorem dX0_begin_100 : decode cX0_begin 100 = .ok (.aload_n 0, 1) := by decide +kernel
theorem dX0_begin_101 : decode cX0_begin 101 = .ok (.getfield 37, 3) := by decide +kernel
theorem dX0_begin_104 : decode cX0_begin 104 = .ok (.iload_n 2, 1) := by decide +kernel
theorem dX0_begin_105 : decode cX0_begin 105 = .ok (.invokevirtual 66, 3) := by decide +kernel
theorem dX0_begin_108 : decode cX0_begin 108 = .ok (.iinc 2 1, 3) := by decide +kernel
theorem dX0_begin_111 : decode cX0_begin 111 = .ok (.goto (-75), 3) := by decide +kernel
theorem dX0_begin_114 : decode cX0_begin 114 = .ok (.return_, 1) := by decide +kernel
theorem dX0_copyFrom_0 : decode cX0_copyFrom 0 = .ok (.aload_n 0, 1) := by decide +kernel
theorem dX0_copyFrom_1 : decode cX0_copyFrom 1 = .ok (.aload_n 1, 1) := by decide +kernel
theorem dX0_copyFrom_2 : decode cX0_copyFrom 2 = .ok (.getfield 50, 3) := by decide +kernel
theorem dX0_copyFrom_5 : decode cX0_copyFrom 5 = .ok (.putfield 50, 3) := by decide +kernel
theorem dX0_copyFrom_8 : decode cX0_copyFrom 8 = .ok (.aload_n 0, 1) := by decide +kernel
theorem dX0_copyFrom_9 : decode cX0_copyFrom 9 = .ok (.aload_n 1, 1) := by decide +kernel
theorem dX0_copyFrom_10 : decode cX0_copyFrom 10 = .ok (.getfield 54, 3) := by decide +kernel
theorem dX0_copyFrom_13 : decode cX0_copyFrom 13 = .ok (.putfield 54, 3) := by decide +kernel
theorem dX0_copyFrom_16 : decode cX0_copyFrom 16 = .ok (.aload_n 0, 1) := by decide +kernel
theorem dX0_copyFrom_17 : decode cX0_copyFrom 17 = .ok (.aload_n 1, 1) := by decide +kernel
theorem dX0_copyFrom_18 : decode cX0_copyFrom 18 = .ok (.getfield 57, 3) := by decide +kernel
theorem dX0_copyFrom_21 : decode cX0_copyFrom 21 = .ok (.putfield 57, 3) := by decide +kernel
theorem dX0_copyFrom_24 : decode cX0_copyFrom 24 = .ok (.aload_n 0, 1) := by decide +kernel
theorem dX0_copyFrom_25 : decode cX0_copyFrom 25 = .ok (.aload_n 1, 1) := by decide +kernel
theorem dX0_copyFrom_26 : decode cX0_copyFrom 26 = .ok (.getfield 60, 3) := by decide +kernel
theorem dX0_copyFrom_29 : decode cX0_copyFrom 29 = .ok (.putfield 60, 3) := by decide +kernel
theorem dX0_copyFrom_32 : decode cX0_copyFrom 32 = .ok (.aload_n 0, 1) := by decide +kernel
theorem dX0_copyFrom_33 : decode cX0_copyFrom 33 = .ok (.aload_n 1, 1) := by decide +kernel
theorem dX0_copyFrom_34 : decode cX0_copyFrom 34 = .ok (.getfield 63, 3) := by decide +kernel
theorem dX0_copyFrom_37 : decode cX0_copyFrom 37 = .ok (.putfield 63, 3) := by decide +kernel
theorem dX0_copyFrom_40 : decode cX0_copyFrom 40 = .ok (.iconst 0, 1) := by decide +kernel
theorem dX0_copyFrom_41 : decode cX0_copyFrom 41 = .ok (.istore_n 2, 1) := by decide +kernel
theorem dX0_copyFrom_42 : decode cX0_copyFrom 42 = .ok (.iload_n 2, 1) := by decide +kernel
theorem dX0_copyFrom_43 : decode cX0_copyFrom 43 = .ok (.bipush 7, 2) := by decide +kernel
theorem dX0_copyFrom_45 : decode cX0_copyFrom 45 = .ok (.if_icmp .ge 93, 3) := by decide +kernel
theorem dX0_copyFrom_48 : decode cX0_copyFrom 48 = .ok (.aload_n 0, 1) := by decide +kernel
theorem dX0_copyFrom_49 : decode cX0_copyFrom 49 = .ok (.getfield 9, 3) := by decide +kernel
theorem dX0_copyFrom_52 : decode cX0_copyFrom 52 = .ok (.iload_n 2, 1) := by decide +kernel
theorem dX0_copyFrom_53 : decode cX0_copyFrom 53 = .ok (.aload_n 1, 1) := by decide +kernel
theorem dX0_copyFrom_54 : decode cX0_copyFrom 54 = .ok (.getfield 9, 3) := by decide +kernel
theorem dX0_copyFrom_57 : decode cX0_copyFrom 57 = .ok (.iload_n 2, 1) := by decide +kernel
theorem dX0_copyFrom_58 : decode cX0_copyFrom 58 = .ok (.iaload, 1) := by decide +kernel
theorem dX0_copyFrom_59 : decode cX0_copyFrom 59 = .ok (.iastore, 1) := by decide +kernel
theorem dX0_copyFrom_60 : decode cX0_copyFrom 60 = .ok (.aload_n 0, 1) := by decide +kernel
theorem dX0_copyFrom_61 : decode cX0_copyFrom 61 = .ok (.getfield 15, 3) := by decide +kernel
theorem dX0_copyFrom_64 : decode cX0_copyFrom 64 = .ok (.iload_n 2, 1) := by decide +kernel
theorem dX0_copyFrom_65 : decode cX0_copyFrom 65 = .ok (.aload_n 1, 1) := by decide +kernel
theorem dX0_copyFrom_66 : decode cX0_copyFrom 66 = .ok (.getfield 15, 3) := by decide +kernel
theorem dX0_copyFrom_69 : decode cX0_copyFrom 69 = .ok (.iload_n 2, 1) := by decide +kernel
theorem dX0_copyFrom_70 : decode cX0_copyFrom 70 = .ok (.iaload, 1) := by decide +kernel
theorem dX0_copyFrom_71 : decode cX0_copyFrom 71 = .ok (.iastore, 1) := by decide +kernel
theorem dX0_copyFrom_72 : decode cX0_copyFrom 72 = .ok (.aload_n 0, 1) := by decide +kernel
theorem dX0_copyFrom_73 : decode cX0_copyFrom 73 = .ok (.getfield 18, 3) := by decide +kernel
theorem dX0_copyFrom_76 : decode cX0_copyFrom 76 = .ok (.iload_n 2, 1) := by decide +kernel
theorem dX0_copyFrom_77 : decode cX0_copyFrom 77 = .ok (.aload_n 1, 1) := by decide +kernel
theorem dX0_copyFrom_78 : decode cX0_copyFrom 78 = .ok (.getfield 18, 3) := by decide +kernel
theorem dX0_copyFrom_81 : decode cX0_copyFrom 81 = .ok (.iload_n 2, 1) := by decide +kernel
theorem dX0_copyFrom_82 : decode cX0_copyFrom 82 = .ok (.iaload, 1) := by decide +kernel
theorem dX0_copyFrom_83 : decode cX0_copyFrom 83 = .ok (.iastore, 1) := by decide +kernel
theorem dX0_copyFrom_84 : decode cX0_copyFrom 84 = .ok (.aload_n 0, 1) := by decide +kernel
theorem dX0_copyFrom_85 : decode cX0_copyFrom 85 = .ok (.getfield 21, 3) := by decide +kernel
theorem dX0_copyFrom_88 : decode cX0_copyFrom 88 = .ok (.iload_n 2, 1) := by decide +kernel
theorem dX0_copyFrom_89 : decode cX0_copyFrom 89 = .ok (.aload_n 1, 1) := by decide +kernel
theorem dX0_copyFrom_90 : decode cX0_copyFrom 90 = .ok (.getfield 21, 3) := by decide +kernel
theorem dX0_copyFrom_93 : decode cX0_copyFrom 93 = .ok (.iload_n 2, 1) := by decide +kernel
theorem dX0_copyFrom_94 : decode cX0_copyFrom 94 = .ok (.iaload, 1) := by decide +kernel
theorem dX0_copyFrom_95 : decode cX0_copyFrom 95 = .ok (.iastore, 1) := by decide +kernel
theorem dX0_copyFrom_96 : decode cX0_copyFrom 96 = .ok (.aload_n 0, 1) := by decide +kernel
theorem dX0_copyFrom_97 : decode cX0_copyFrom 97 = .ok (.getfield 24, 3) := by decide +kernel
theorem dX0_copyFrom_100 : decode cX0_copyFrom 100 = .ok (.iload_n 2, 1) := by decide +kernel
theorem dX0_copyFrom_101 : decode cX0_copyFrom 101 = .ok (.aload_n 1, 1) := by decide +kernel
theorem dX0_copyFrom_102 : decode cX0_copyFrom 102 = .ok (.getfield 24, 3) := by decide +kernel
theorem dX0_copyFrom_105 : decode cX0_copyFrom 105 = .ok (.iload_n 2, 1) := by decide +kernel
theorem dX0_copyFrom_106 : decode cX0_copyFrom 106 = .ok (.iaload, 1) := by decide +kernel
theorem dX0_copyFrom_107 : decode cX0_copyFrom 107 = .ok (.iastore, 1) := by decide +kernel
theorem dX0_copyFrom_108 : decode cX0_copyFrom 108 = .ok (.aload_n 0, 1) := by decide +kernel
theorem dX0_copyFrom_109 : decode cX0_copyFrom 109 = .ok (.getfield 27, 3) := by decide +kernel
theorem dX0_copyFrom_112 : decode cX0_copyFrom 112 = .ok (.iload_n 2, 1) := by decide +kernel
theorem dX0_copyFrom_113 : decode cX0_copyFrom 113 = .ok (.aload_n 1, 1) := by decide +kernel
theorem dX0_copyFrom_114 : decode cX0_copyFrom 114 = .ok (.getfield 27, 3) := by decide +kernel
theorem dX0_copyFrom_117 : decode cX0_copyFrom 117 = .ok (.iload_n 2, 1) := by decide +kernel
theorem dX0_copyFrom_118 : decode cX0_copyFrom 118 = .ok (.iaload, 1) := by decide +kernel
theorem dX0_copyFrom_119 : decode cX0_copyFrom 119 = .ok (.iastore, 1) := by decide +kernel
theorem dX0_copyFrom_120 : decode cX0_copyFrom 120 = .ok (.aload_n 0, 1) := by decide +kernel
theorem dX0_copyFrom_121 : decode cX0_copyFrom 121 = .ok (.getfield 30, 3) := by decide +kernel
theorem dX0_copyFrom_124 : decode cX0_copyFrom 124 = .ok (.iload_n 2, 1) := by decide +kernel
theorem dX0_copyFrom_125 : decode cX0_copyFrom 125 = .ok (.aload_n 1, 1) := by decide +kernel
theorem dX0_copyFrom_126 : decode cX0_copyFrom 126 = .ok (.getfield 30, 3) := by decide +kernel
theorem dX0_copyFrom_129 : decode cX0_copyFrom 129 = .ok (.iload_n 2, 1) := by decide +kernel
theorem dX0_copyFrom_130 : decode cX0_copyFrom 130 = .ok (.baload, 1) := by decide +kernel
theorem dX0_copyFrom_131 : decode cX0_copyFrom 131 = .ok (.bastore, 1) := by decide +kernel
theorem dX0_copyFrom_132 : decode cX0_copyFrom 132 = .ok (.iinc 2 1, 3) := by decide +kernel
theorem dX0_copyFrom_135 : decode cX0_copyFrom 135 = .ok (.goto (-93), 3) := by decide +kernel
theorem dX0_copyFrom_138 : decode cX0_copyFrom 138 = .ok (.aload_n 0, 1) := by decide +kernel
theorem dX0_copyFrom_139 : decode cX0_copyFrom 139 = .ok (.getfield 37, 3) := by decide +kernel
theorem dX0_copyFrom_142 : decode cX0_copyFrom 142 = .ok (.aload_n 1, 1) := by decide +kernel
theorem dX0_copyFrom_143 : decode cX0_copyFrom 143 = .ok (.getfield 37, 3) := by decide +kernel
theorem dX0_copyFrom_146 : decode cX0_copyFrom 146 = .ok (.invokevirtual 70, 3) := by decide +kernel
theorem dX0_copyFrom_149 : decode cX0_copyFrom 149 = .ok (.return_, 1) := by decide +kernel
theorem dX0_raise_0 : decode cX0_raise 0 = .ok (.aload_n 0, 1) := by decide +kernel
theorem dX0_raise_1 : decode cX0_raise 1 = .ok (.getfield 30, 3) := by decide +kernel
theorem dX0_raise_4 : decode cX0_raise 4 = .ok (.iload_n 1, 1) := by decide +kernel
theorem dX0_raise_5 : decode cX0_raise 5 = .ok (.iconst 1, 1) := by decide +kernel
theorem dX0_raise_6 : decode cX0_raise 6 = .ok (.bastore, 1) := by decide +kernel
theorem dX0_raise_7 : decode cX0_raise 7 = .ok (.aload_n 0, 1) := by decide +kernel
theorem dX0_raise_8 : decode cX0_raise 8 = .ok (.getfield 24, 3) := by decide +kernel
theorem dX0_raise_11 : decode cX0_raise 11 = .ok (.iload_n 1, 1) := by decide +kernel
theorem dX0_raise_12 : decode cX0_raise 12 = .ok (.iconst 0, 1) := by decide +kernel
theorem dX0_raise_13 : decode cX0_raise 13 = .ok (.iastore, 1) := by decide +kernel
theorem dX0_raise_14 : decode cX0_raise 14 = .ok (.aload_n 0, 1) := by decide +kernel
theorem dX0_raise_15 : decode cX0_raise 15 = .ok (.getfield 15, 3) := by decide +kernel
theorem dX0_raise_18 : decode cX0_raise 18 = .ok (.iload_n 1, 1) := by decide +kernel
theorem dX0_raise_19 : decode cX0_raise 19 = .ok (.aload_n 0, 1) := by decide +kernel
theorem dX0_raise_20 : decode cX0_raise 20 = .ok (.getfield 9, 3) := by decide +kernel
theorem dX0_raise_23 : decode cX0_raise 23 = .ok (.iload_n 1, 1) := by decide +kernel
theorem dX0_raise_24 : decode cX0_raise 24 = .ok (.iaload, 1) := by decide +kernel
theorem dX0_raise_25 : decode cX0_raise 25 = .ok (.iastore, 1) := by decide +kernel
theorem dX0_raise_26 : decode cX0_raise 26 = .ok (.aload_n 0, 1) := by decide +kernel
theorem dX0_raise_27 : decode cX0_raise 27 = .ok (.getfield 37, 3) := by decide +kernel
theorem dX0_raise_30 : decode cX0_raise 30 = .ok (.getfield 74, 3) := by decide +kernel
theorem dX0_raise_33 : decode cX0_raise 33 = .ok (.iload_n 1, 1) := by decide +kernel
theorem dX0_raise_34 : decode cX0_raise 34 = .ok (.iconst 0, 1) := by decide +kernel
theorem dX0_raise_35 : decode cX0_raise 35 = .ok (.iastore, 1) := by decide +kernel
theorem dX0_raise_36 : decode cX0_raise 36 = .ok (.return_, 1) := by decide +kernel
theorem dX0_passHours_0 : decode cX0_passHours 0 = .ok (.iconst 0, 1) := by decide +kernel
theorem dX0_passHours_1 : decode cX0_passHours 1 = .ok (.istore_n 2, 1) := by decide +kernel
theorem dX0_passHours_2 : decode cX0_passHours 2 = .ok (.iload_n 2, 1) := by decide +kernel
theorem dX0_passHours_3 : decode cX0_passHours 3 = .ok (.iload_n 1, 1) := by decide +kernel
theorem dX0_passHours_4 : decode cX0_passHours 4 = .ok (.if_icmp .ge 31, 3) := by decide +kernel
theorem dX0_passHours_7 : decode cX0_passHours 7 = .ok (.aload_n 0, 1) := by decide +kernel
theorem dX0_passHours_8 : decode cX0_passHours 8 = .ok (.invokevirtual 77, 3) := by decide +kernel
theorem dX0_passHours_11 : decode cX0_passHours 11 = .ok (.aload_n 0, 1) := by decide +kernel
theorem dX0_passHours_12 : decode cX0_passHours 12 = .ok (.invokevirtual 80, 3) := by decide +kernel
theorem dX0_passHours_15 : decode cX0_passHours 15 = .ok (.aload_n 0, 1) := by decide +kernel
theorem dX0_passHours_16 : decode cX0_passHours 16 = .ok (.invokevirtual 83, 3) := by decide +kernel
theorem dX0_passHours_19 : decode cX0_passHours 19 = .ok (.aload_n 0, 1) := by decide +kernel
theorem dX0_passHours_20 : decode cX0_passHours 20 = .ok (.dup, 1) := by decide +kernel
theorem dX0_passHours_21 : decode cX0_passHours 21 = .ok (.getfield 54, 3) := by decide +kernel
theorem dX0_passHours_24 : decode cX0_passHours 24 = .ok (.iconst 1, 1) := by decide +kernel
theorem dX0_passHours_25 : decode cX0_passHours 25 = .ok (.iadd, 1) := by decide +kernel
theorem dX0_passHours_26 : decode cX0_passHours 26 = .ok (.putfield 54, 3) := by decide +kernel
theorem dX0_passHours_29 : decode cX0_passHours 29 = .ok (.iinc 2 1, 3) := by decide +kernel
theorem dX0_passHours_32 : decode cX0_passHours 32 = .ok (.goto (-30), 3) := by decide +kernel
theorem dX0_passHours_35 : decode cX0_passHours 35 = .ok (.return_, 1) := by decide +kernel
theorem dX0_runClocks_0 : decode cX0_runClocks 0 = .ok (.iconst 0, 1) := by decide +kernel
theorem dX0_runClocks_1 : decode cX0_runClocks 1 = .ok (.istore_n 1, 1) := by decide +kernel
theorem dX0_runClocks_2 : decode cX0_runClocks 2 = .ok (.iload_n 1, 1) := by decide +kernel
theorem dX0_runClocks_3 : decode cX0_runClocks 3 = .ok (.aload_n 0, 1) := by decide +kernel
theorem dX0_runClocks_4 : decode cX0_runClocks 4 = .ok (.getfield 50, 3) := by decide +kernel
theorem dX0_runClocks_7 : decode cX0_runClocks 7 = .ok (.if_icmp .ge 52, 3) := by decide +kernel
theorem dX0_runClocks_10 : decode cX0_runClocks 10 = .ok (.aload_n 0, 1) := by decide +kernel
theorem dX0_runClocks_11 : decode cX0_runClocks 11 = .ok (.getfield 30, 3) := by decide +kernel
theorem dX0_runClocks_14 : decode cX0_runClocks 14 = .ok (.iload_n 1, 1) := by decide +kernel
theorem dX0_runClocks_15 : decode cX0_runClocks 15 = .ok (.baload, 1) := by decide +kernel
theorem dX0_runClocks_16 : decode cX0_runClocks 16 = .ok (.ifCond .eq 37, 3) := by decide +kernel
theorem dX0_runClocks_19 : decode cX0_runClocks 19 = .ok (.aload_n 0, 1) := by decide +kernel
theorem dX0_runClocks_20 : decode cX0_runClocks 20 = .ok (.getfield 24, 3) := by decide +kernel
theorem dX0_runClocks_23 : decode cX0_runClocks 23 = .ok (.iload_n 1, 1) := by decide +kernel
theorem dX0_runClocks_24 : decode cX0_runClocks 24 = .ok (.iaload, 1) := by decide +kernel
theorem dX0_runClocks_25 : decode cX0_runClocks 25 = .ok (.iconst 2, 1) := by decide +kernel
theorem dX0_runClocks_26 : decode cX0_runClocks 26 = .ok (.if_icmp .eq 27, 3) := by decide +kernel
theorem dX0_runClocks_29 : decode cX0_runClocks 29 = .ok (.aload_n 0, 1) := by decide +kernel
theorem dX0_runClocks_30 : decode cX0_runClocks 30 = .ok (.getfield 15, 3) := by decide +kernel
theorem dX0_runClocks_33 : decode cX0_runClocks 33 = .ok (.iload_n 1, 1) := by decide +kernel
theorem dX0_runClocks_34 : decode cX0_runClocks 34 = .ok (.dup2, 1) := by decide +kernel
theorem dX0_runClocks_35 : decode cX0_runClocks 35 = .ok (.iaload, 1) := by decide +kernel
theorem dX0_runClocks_36 : decode cX0_runClocks 36 = .ok (.iconst 1, 1) := by decide +kernel
theorem dX0_runClocks_37 : decode cX0_runClocks 37 = .ok (.isub, 1) := by decide +kernel
theorem dX0_runClocks_38 : decode cX0_runClocks 38 = .ok (.iastore, 1) := by decide +kernel
theorem dX0_runClocks_39 : decode cX0_runClocks 39 = .ok (.aload_n 0, 1) := by decide +kernel
theorem dX0_runClocks_40 : decode cX0_runClocks 40 = .ok (.getfield 15, 3) := by decide +kernel
theorem dX0_runClocks_43 : decode cX0_runClocks 43 = .ok (.iload_n 1, 1) := by decide +kernel
theorem dX0_runClocks_44 : decode cX0_runClocks 44 = .ok (.iaload, 1) := by decide +kernel
theorem dX0_runClocks_45 : decode cX0_runClocks 45 = .ok (.ifCond .ne 8, 3) := by decide +kernel
theorem dX0_runClocks_48 : decode cX0_runClocks 48 = .ok (.aload_n 0, 1) := by decide +kernel
theorem dX0_runClocks_49 : decode cX0_runClocks 49 = .ok (.iload_n 1, 1) := by decide +kernel
theorem dX0_runClocks_50 : decode cX0_runClocks 50 = .ok (.invokevirtual 86, 3) := by decide +kernel
theorem dX0_runClocks_53 : decode cX0_runClocks 53 = .ok (.iinc 1 1, 3) := by decide +kernel
theorem dX0_runClocks_56 : decode cX0_runClocks 56 = .ok (.goto (-54), 3) := by decide +kernel
theorem dX0_runClocks_59 : decode cX0_runClocks 59 = .ok (.return_, 1) := by decide +kernel
theorem dX0_tellAll_0 : decode cX0_tellAll 0 = .ok (.iconst 0, 1) := by decide +kernel
theorem dX0_tellAll_1 : decode cX0_tellAll 1 = .ok (.istore_n 1, 1) := by decide +kernel
theorem dX0_tellAll_2 : decode cX0_tellAll 2 = .ok (.iload_n 1, 1) := by decide +kernel
theorem dX0_tellAll_3 : decode cX0_tellAll 3 = .ok (.aload_n 0, 1) := by decide +kernel
theorem dX0_tellAll_4 : decode cX0_tellAll 4 = .ok (.getfield 50, 3) := by decide +kernel
theorem dX0_tellAll_7 : decode cX0_tellAll 7 = .ok (.if_icmp .ge 22, 3) := by decide +kernel
theorem dX0_tellAll_10 : decode cX0_tellAll 10 = .ok (.aload_n 0, 1) := by decide +kernel
theorem dX0_tellAll_11 : decode cX0_tellAll 11 = .ok (.iload_n 1, 1) := by decide +kernel
theorem dX0_tellAll_12 : decode cX0_tellAll 12 = .ok (.invokevirtual 89, 3) := by decide +kernel
theorem dX0_tellAll_15 : decode cX0_tellAll 15 = .ok (.ifCond .eq 8, 3) := by decide +kernel
theorem dX0_tellAll_18 : decode cX0_tellAll 18 = .ok (.aload_n 0, 1) := by decide +kernel
theorem dX0_tellAll_19 : decode cX0_tellAll 19 = .ok (.iload_n 1, 1) := by decide +kernel
theorem dX0_tellAll_20 : decode cX0_tellAll 20 = .ok (.invokevirtual 93, 3) := by decide +kernel
theorem dX0_tellAll_23 : decode cX0_tellAll 23 = .ok (.iinc 1 1, 3) := by decide +kernel
theorem dX0_tellAll_26 : decode cX0_tellAll 26 = .ok (.goto (-24), 3) := by decide +kernel
theorem dX0_tellAll_29 : decode cX0_tellAll 29 = .ok (.return_, 1) := by decide +kernel
theorem dX0_commitAll_0 : decode cX0_commitAll 0 = .ok (.iconst 0, 1) := by decide +kernel
theorem dX0_commitAll_1 : decode cX0_commitAll 1 = .ok (.istore_n 1, 1) := by decide +kernel
theorem dX0_commitAll_2 : decode cX0_commitAll 2 = .ok (.iload_n 1, 1) := by decide +kernel
theorem dX0_commitAll_3 : decode cX0_commitAll 3 = .ok (.aload_n 0, 1) := by decide +kernel
theorem dX0_commitAll_4 : decode cX0_commitAll 4 = .ok (.getfield 50, 3) := by decide +kernel
theorem dX0_commitAll_7 : decode cX0_commitAll 7 = .ok (.if_icmp .ge 22, 3) := by decide +kernel
theorem dX0_commitAll_10 : decode cX0_commitAll 10 = .ok (.aload_n 0, 1) := by decide +kernel
theorem dX0_commitAll_11 : decode cX0_commitAll 11 = .ok (.iload_n 1, 1) := by decide +kernel
theorem dX0_commitAll_12 : decode cX0_commitAll 12 = .ok (.invokevirtual 89, 3) := by decide +kernel
theorem dX0_commitAll_15 : decode cX0_commitAll 15 = .ok (.ifCond .eq 8, 3) := by decide +kernel
theorem dX0_commitAll_18 : decode cX0_commitAll 18 = .ok (.aload_n 0, 1) := by decide +kernel
theorem dX0_commitAll_19 : decode cX0_commitAll 19 = .ok (.iload_n 1, 1) := by decide +kernel
theorem dX0_commitAll_20 : decode cX0_commitAll 20 = .ok (.invokevirtual 96, 3) := by decide +kernel
theorem dX0_commitAll_23 : decode cX0_commitAll 23 = .ok (.iinc 1 1, 3) := by decide +kernel
theorem dX0_commitAll_26 : decode cX0_commitAll 26 = .ok (.goto (-24), 3) := by decide +kernel
theorem dX0_commitAll_29 : decode cX0_commitAll 29 = .ok (.return_, 1) := by decide +kernel
theorem dX0_stand_0 : decode cX0_stand 0 = .ok (.aload_n 0, 1) := by decide +kernel
theorem dX0_stand_1 : decode cX0_stand 1 = .ok (.dup, 1) := by decide +kernel
theorem dX0_stand_2 : decode cX0_stand 2 = .ok (.getfield 57, 3) := by decide +kernel
theorem dX0_stand_5 : decode cX0_stand 5 = .ok (.iconst 1, 1) := by decide +kernel
theorem dX0_stand_6 : decode cX0_stand 6 = .ok (.iadd, 1) := by decide +kernel
theorem dX0_stand_7 : decode cX0_stand 7 = .ok (.putfield 57, 3) := by decide +kernel
theorem dX0_stand_10 : decode cX0_stand 10 = .ok (.aload_n 0, 1) := by decide +kernel
theorem dX0_stand_11 : decode cX0_stand 11 = .ok (.getfield 18, 3) := by decide +kernel
theorem dX0_stand_14 : decode cX0_stand 14 = .ok (.iload_n 1, 1) := by decide +kernel
theorem dX0_stand_15 : decode cX0_stand 15 = .ok (.dup2, 1) := by decide +kernel
theorem dX0_stand_16 : decode cX0_stand 16 = .ok (.iaload, 1) := by decide +kernel
theorem dX0_stand_17 : decode cX0_stand 17 = .ok (.iconst 1, 1) := by decide +kernel
theorem dX0_stand_18 : decode cX0_stand 18 = .ok (.iadd, 1) := by decide +kernel
theorem dX0_stand_19 : decode cX0_stand 19 = .ok (.iastore, 1) := by decide +kernel
theorem dX0_stand_20 : decode cX0_stand 20 = .ok (.aload_n 0, 1) := by decide +kernel
theorem dX0_stand_21 : decode cX0_stand 21 = .ok (.getfield 24, 3) := by decide +kernel
theorem dX0_stand_24 : decode cX0_stand 24 = .ok (.iload_n 1, 1) := by decide +kernel
theorem dX0_stand_25 : decode cX0_stand 25 = .ok (.iconst 1, 1) := by decide +kernel
theorem dX0_stand_26 : decode cX0_stand 26 = .ok (.iastore, 1) := by decide +kernel
theorem dX0_stand_27 : decode cX0_stand 27 = .ok (.aload_n 0, 1) := by decide +kernel
theorem dX0_stand_28 : decode cX0_stand 28 = .ok (.getfield 21, 3) := by decide +kernel
theorem dX0_stand_31 : decode cX0_stand 31 = .ok (.iload_n 1, 1) := by decide +kernel
theorem dX0_stand_32 : decode cX0_stand 32 = .ok (.iload_n 1, 1) := by decide +kernel
theorem dX0_stand_33 : decode cX0_stand 33 = .ok (.iastore, 1) := by decide +kernel
theorem dX0_stand_34 : decode cX0_stand 34 = .ok (.aload_n 0, 1) := by decide +kernel
theorem dX0_stand_35 : decode cX0_stand 35 = .ok (.getfield 15, 3) := by decide +kernel
theorem dX0_stand_38 : decode cX0_stand 38 = .ok (.iload_n 1, 1) := by decide +kernel
theorem dX0_stand_39 : decode cX0_stand 39 = .ok (.aload_n 0, 1) := by decide +kernel
theorem dX0_stand_40 : decode cX0_stand 40 = .ok (.getfield 9, 3) := by decide +kernel
theorem dX0_stand_43 : decode cX0_stand 43 = .ok (.iload_n 1, 1) := by decide +kernel
theorem dX0_stand_44 : decode cX0_stand 44 = .ok (.iaload, 1) := by decide +kernel
theorem dX0_stand_45 : decode cX0_stand 45 = .ok (.iastore, 1) := by decide +kernel
theorem dX0_stand_46 : decode cX0_stand 46 = .ok (.iconst 1, 1) := by decide +kernel
theorem dX0_stand_47 : decode cX0_stand 47 = .ok (.istore_n 2, 1) := by decide +kernel
theorem dX0_stand_48 : decode cX0_stand 48 = .ok (.iconst 0, 1) := by decide +kernel
theorem dX0_stand_49 : decode cX0_stand 49 = .ok (.istore_n 3, 1) := by decide +kernel
theorem dX0_stand_50 : decode cX0_stand 50 = .ok (.iload_n 3, 1) := by decide +kernel
theorem dX0_stand_51 : decode cX0_stand 51 = .ok (.aload_n 0, 1) := by decide +kernel
theorem dX0_stand_52 : decode cX0_stand 52 = .ok (.getfield 50, 3) := by decide +kernel
theorem dX0_stand_55 : decode cX0_stand 55 = .ok (.if_icmp .ge 45, 3) := by decide +kernel
theorem dX0_stand_58 : decode cX0_stand 58 = .ok (.aload_n 0, 1) := by decide +kernel
theorem dX0_stand_59 : decode cX0_stand 59 = .ok (.getfield 24, 3) := by decide +kernel
theorem dX0_stand_62 : decode cX0_stand 62 = .ok (.iload_n 1, 1) := by decide +kernel
theorem dX0_stand_63 : decode cX0_stand 63 = .ok (.iaload, 1) := by decide +kernel
theorem dX0_stand_64 : decode cX0_stand 64 = .ok (.iconst 1, 1) := by decide +kernel
theorem dX0_stand_65 : decode cX0_stand 65 = .ok (.if_icmp .ne 35, 3) := by decide +kernel
theorem dX0_stand_68 : decode cX0_stand 68 = .ok (.iload_n 3, 1) := by decide +kernel
theorem dX0_stand_69 : decode cX0_stand 69 = .ok (.iload_n 1, 1) := by decide +kernel
theorem dX0_stand_70 : decode cX0_stand 70 = .ok (.if_icmp .eq 24, 3) := by decide +kernel
theorem dX0_stand_73 : decode cX0_stand 73 = .ok (.aload_n 0, 1) := by decide +kernel
theorem dX0_stand_74 : decode cX0_stand 74 = .ok (.iload_n 1, 1) := by decide +kernel
theorem dX0_stand_75 : decode cX0_stand 75 = .ok (.iload_n 3, 1) := by decide +kernel
theorem dX0_stand_76 : decode cX0_stand 76 = .ok (.invokevirtual 99, 3) := by decide +kernel
theorem dX0_stand_79 : decode cX0_stand 79 = .ok (.ifCond .eq 15, 3) := by decide +kernel
theorem dX0_stand_82 : decode cX0_stand 82 = .ok (.aload_n 0, 1) := by decide +kernel
theorem dX0_stand_83 : decode cX0_stand 83 = .ok (.iload_n 1, 1) := by decide +kernel
theorem dX0_stand_84 : decode cX0_stand 84 = .ok (.iload_n 3, 1) := by decide +kernel
theorem dX0_stand_85 : decode cX0_stand 85 = .ok (.invokevirtual 103, 3) := by decide +kernel
theorem dX0_stand_88 : decode cX0_stand 88 = .ok (.ifCond .eq 6, 3) := by decide +kernel
theorem dX0_stand_91 : decode cX0_stand 91 = .ok (.iinc 2 1, 3) := by decide +kernel
theorem dX0_stand_94 : decode cX0_stand 94 = .ok (.iinc 3 1, 3) := by decide +kernel
theorem dX0_stand_97 : decode cX0_stand 97 = .ok (.goto (-47), 3) := by decide +kernel
theorem dX0_stand_100 : decode cX0_stand 100 = .ok (.aload_n 0, 1) := by decide +kernel
theorem dX0_stand_101 : decode cX0_stand 101 = .ok (.getfield 24, 3) := by decide +kernel
theorem dX0_stand_104 : decode cX0_stand 104 = .ok (.iload_n 1, 1) := by decide +kernel
theorem dX0_stand_105 : decode cX0_stand 105 = .ok (.iaload, 1) := by decide +kernel
theorem dX0_stand_106 : decode cX0_stand 106 = .ok (.iconst 1, 1) := by decide +kernel
theorem dX0_stand_107 : decode cX0_stand 107 = .ok (.if_icmp .ne 28, 3) := by decide +kernel
theorem dX0_stand_110 : decode cX0_stand 110 = .ok (.aload_n 0, 1) := by decide +kernel
theorem dX0_stand_111 : decode cX0_stand 111 = .ok (.iload_n 2, 1) := by decide +kernel
theorem dX0_stand_112 : decode cX0_stand 112 = .ok (.invokevirtual 106, 3) := by decide +kernel
theorem dX0_stand_115 : decode cX0_stand 115 = .ok (.ifCond .eq 20, 3) := by decide +kernel
theorem dX0_stand_118 : decode cX0_stand 118 = .ok (.aload_n 0, 1) := by decide +kernel
theorem dX0_stand_119 : decode cX0_stand 119 = .ok (.getfield 24, 3) := by decide +kernel
theorem dX0_stand_122 : decode cX0_stand 122 = .ok (.iload_n 1, 1) := by decide +kernel
theorem dX0_stand_123 : decode cX0_stand 123 = .ok (.iconst 2, 1) := by decide +kernel
theorem dX0_stand_124 : decode cX0_stand 124 = .ok (.iastore, 1) := by decide +kernel
theorem dX0_stand_125 : decode cX0_stand 125 = .ok (.aload_n 0, 1) := by decide +kernel
theorem dX0_stand_126 : decode cX0_stand 126 = .ok (.dup, 1) := by decide +kernel
theorem dX0_stand_127 : decode cX0_stand 127 = .ok (.getfield 60, 3) := by decide +kernel
theorem dX0_stand_130 : decode cX0_stand 130 = .ok (.iconst 1, 1) := by decide +kernel
theorem dX0_stand_131 : decode cX0_stand 131 = .ok (.iadd, 1) := by decide +kernel
theorem dX0_stand_132 : decode cX0_stand 132 = .ok (.putfield 60, 3) := by decide +kernel
theorem dX0_stand_135 : decode cX0_stand 135 = .ok (.return_, 1) := by decide +kernel
theorem dX0_givesVote_0 : decode cX0_givesVote 0 = .ok (.aload_n 0, 1) := by decide +kernel
theorem dX0_givesVote_1 : decode cX0_givesVote 1 = .ok (.iload_n 1, 1) := by decide +kernel
theorem dX0_givesVote_2 : decode cX0_givesVote 2 = .ok (.iload_n 2, 1) := by decide +kernel
theorem dX0_givesVote_3 : decode cX0_givesVote 3 = .ok (.invokevirtual 109, 3) := by decide +kernel
theorem dX0_givesVote_6 : decode cX0_givesVote 6 = .ok (.ifCond .ne 5, 3) := by decide +kernel
theorem dX0_givesVote_9 : decode cX0_givesVote 9 = .ok (.iconst 0, 1) := by decide +kernel
theorem dX0_givesVote_10 : decode cX0_givesVote 10 = .ok (.ireturn, 1) := by decide +kernel
theorem dX0_givesVote_11 : decode cX0_givesVote 11 = .ok (.aload_n 0, 1) := by decide +kernel
theorem dX0_givesVote_12 : decode cX0_givesVote 12 = .ok (.getfield 21, 3) := by decide +kernel
theorem dX0_givesVote_15 : decode cX0_givesVote 15 = .ok (.iload_n 2, 1) := by decide +kernel
theorem dX0_givesVote_16 : decode cX0_givesVote 16 = .ok (.iaload, 1) := by decide +kernel
theorem dX0_givesVote_17 : decode cX0_givesVote 17 = .ok (.iconst (-1), 1) := by decide +kernel
theorem dX0_givesVote_18 : decode cX0_givesVote 18 = .ok (.if_icmp .eq 13, 3) := by decide +kernel
theorem dX0_givesVote_21 : decode cX0_givesVote 21 = .ok (.aload_n 0, 1) := by decide +kernel
theorem dX0_givesVote_22 : decode cX0_givesVote 22 = .ok (.getfield 21, 3) := by decide +kernel
theorem dX0_givesVote_25 : decode cX0_givesVote 25 = .ok (.iload_n 2, 1) := by decide +kernel
theorem dX0_givesVote_26 : decode cX0_givesVote 26 = .ok (.iaload, 1) := by decide +kernel
theorem dX0_givesVote_27 : decode cX0_givesVote 27 = .ok (.iload_n 1, 1) := by decide +kernel
theorem dX0_givesVote_28 : decode cX0_givesVote 28 = .ok (.if_icmp .ne 7, 3) := by decide +kernel
theorem dX0_givesVote_31 : decode cX0_givesVote 31 = .ok (.iconst 1, 1) := by decide +kernel
theorem dX0_givesVote_32 : decode cX0_givesVote 32 = .ok (.goto 4, 3) := by decide +kernel
theorem dX0_givesVote_35 : decode cX0_givesVote 35 = .ok (.iconst 0, 1) := by decide +kernel
theorem dX0_givesVote_36 : decode cX0_givesVote 36 = .ok (.istore_n 3, 1) := by decide +kernel
theorem dX0_givesVote_37 : decode cX0_givesVote 37 = .ok (.iload_n 3, 1) := by decide +kernel
theorem dX0_givesVote_38 : decode cX0_givesVote 38 = .ok (.ifCond .eq 15, 3) := by decide +kernel
theorem dX0_givesVote_41 : decode cX0_givesVote 41 = .ok (.aload_n 0, 1) := by decide +kernel
theorem dX0_givesVote_42 : decode cX0_givesVote 42 = .ok (.getfield 37, 3) := by decide +kernel
theorem dX0_givesVote_45 : decode cX0_givesVote 45 = .ok (.iload_n 1, 1) := by decide +kernel
theorem dX0_givesVote_46 : decode cX0_givesVote 46 = .ok (.iload_n 2, 1) := by decide +kernel
theorem dX0_givesVote_47 : decode cX0_givesVote 47 = .ok (.invokevirtual 112, 3) := by decide +kernel
theorem dX0_givesVote_50 : decode cX0_givesVote 50 = .ok (.ifCond .ne 5, 3) := by decide +kernel
theorem dX0_givesVote_53 : decode cX0_givesVote 53 = .ok (.iconst 0, 1) := by decide +kernel
theorem dX0_givesVote_54 : decode cX0_givesVote 54 = .ok (.ireturn, 1) := by decide +kernel
theorem dX0_givesVote_55 : decode cX0_givesVote 55 = .ok (.aload_n 0, 1) := by decide +kernel
theorem dX0_givesVote_56 : decode cX0_givesVote 56 = .ok (.getfield 21, 3) := by decide +kernel
theorem dX0_givesVote_59 : decode cX0_givesVote 59 = .ok (.iload_n 2, 1) := by decide +kernel
theorem dX0_givesVote_60 : decode cX0_givesVote 60 = .ok (.iload_n 1, 1) := by decide +kernel
theorem dX0_givesVote_61 : decode cX0_givesVote 61 = .ok (.iastore, 1) := by decide +kernel
theorem dX0_givesVote_62 : decode cX0_givesVote 62 = .ok (.aload_n 0, 1) := by decide +kernel
theorem dX0_givesVote_63 : decode cX0_givesVote 63 = .ok (.getfield 15, 3) := by decide +kernel
theorem dX0_givesVote_66 : decode cX0_givesVote 66 = .ok (.iload_n 2, 1) := by decide +kernel
theorem dX0_givesVote_67 : decode cX0_givesVote 67 = .ok (.aload_n 0, 1) := by decide +kernel
theorem dX0_givesVote_68 : decode cX0_givesVote 68 = .ok (.getfield 9, 3) := by decide +kernel
theorem dX0_givesVote_71 : decode cX0_givesVote 71 = .ok (.iload_n 2, 1) := by decide +kernel
theorem dX0_givesVote_72 : decode cX0_givesVote 72 = .ok (.iaload, 1) := by decide +kernel
theorem dX0_givesVote_73 : decode cX0_givesVote 73 = .ok (.iastore, 1) := by decide +kernel
theorem dX0_givesVote_74 : decode cX0_givesVote 74 = .ok (.iconst 1, 1) := by decide +kernel
theorem dX0_givesVote_75 : decode cX0_givesVote 75 = .ok (.ireturn, 1) := by decide +kernel
theorem dX0_tellOthers_0 : decode cX0_tellOthers 0 = .ok (.iconst 0, 1) := by decide +kernel
theorem dX0_tellOthers_1 : decode cX0_tellOthers 1 = .ok (.istore_n 2, 1) := by decide +kernel
theorem dX0_tellOthers_2 : decode cX0_tellOthers 2 = .ok (.iload_n 2, 1) := by decide +kernel
theorem dX0_tellOthers_3 : decode cX0_tellOthers 3 = .ok (.aload_n 0, 1) := by decide +kernel
theorem dX0_tellOthers_4 : decode cX0_tellOthers 4 = .ok (.getfield 50, 3) := by decide +kernel
theorem dX0_tellOthers_7 : decode cX0_tellOthers 7 = .ok (.if_icmp .ge 39, 3) := by decide +kernel
theorem dX0_tellOthers_10 : decode cX0_tellOthers 10 = .ok (.aload_n 0, 1) := by decide +kernel
theorem dX0_tellOthers_11 : decode cX0_tellOthers 11 = .ok (.getfield 24, 3) := by decide +kernel
theorem dX0_tellOthers_14 : decode cX0_tellOthers 14 = .ok (.iload_n 1, 1) := by decide +kernel
theorem dX0_tellOthers_15 : decode cX0_tellOthers 15 = .ok (.iaload, 1) := by decide +kernel
theorem dX0_tellOthers_16 : decode cX0_tellOthers 16 = .ok (.iconst 2, 1) := by decide +kernel
theorem dX0_tellOthers_17 : decode cX0_tellOthers 17 = .ok (.if_icmp .ne 29, 3) := by decide +kernel
theorem dX0_tellOthers_20 : decode cX0_tellOthers 20 = .ok (.iload_n 2, 1) := by decide +kernel
theorem dX0_tellOthers_21 : decode cX0_tellOthers 21 = .ok (.iload_n 1, 1) := by decide +kernel
theorem dX0_tellOthers_22 : decode cX0_tellOthers 22 = .ok (.if_icmp .eq 18, 3) := by decide +kernel
theorem dX0_tellOthers_25 : decode cX0_tellOthers 25 = .ok (.aload_n 0, 1) := by decide +kernel
theorem dX0_tellOthers_26 : decode cX0_tellOthers 26 = .ok (.iload_n 1, 1) := by decide +kernel
theorem dX0_tellOthers_27 : decode cX0_tellOthers 27 = .ok (.iload_n 2, 1) := by decide +kernel
theorem dX0_tellOthers_28 : decode cX0_tellOthers 28 = .ok (.invokevirtual 99, 3) := by decide +kernel
theorem dX0_tellOthers_31 : decode cX0_tellOthers 31 = .ok (.ifCond .eq 9, 3) := by decide +kernel
theorem dX0_tellOthers_34 : decode cX0_tellOthers 34 = .ok (.aload_n 0, 1) := by decide +kernel
theorem dX0_tellOthers_35 : decode cX0_tellOthers 35 = .ok (.iload_n 1, 1) := by decide +kernel
theorem dX0_tellOthers_36 : decode cX0_tellOthers 36 = .ok (.iload_n 2, 1) := by decide +kernel
theorem dX0_tellOthers_37 : decode cX0_tellOthers 37 = .ok (.invokevirtual 115, 3) := by decide +kernel
theorem dX0_tellOthers_40 : decode cX0_tellOthers 40 = .ok (.iinc 2 1, 3) := by decide +kernel
theorem dX0_tellOthers_43 : decode cX0_tellOthers 43 = .ok (.goto (-41), 3) := by decide +kernel
theorem dX0_tellOthers_46 : decode cX0_tellOthers 46 = .ok (.return_, 1) := by decide +kernel
theorem dX0_tell_0 : decode cX0_tell 0 = .ok (.aload_n 0, 1) := by decide +kernel
theorem dX0_tell_1 : decode cX0_tell 1 = .ok (.iload_n 1, 1) := by decide +kernel
theorem dX0_tell_2 : decode cX0_tell 2 = .ok (.iload_n 2, 1) := by decide +kernel
theorem dX0_tell_3 : decode cX0_tell 3 = .ok (.invokevirtual 109, 3) := by decide +kernel
theorem dX0_tell_6 : decode cX0_tell 6 = .ok (.ifCond .ne 4, 3) := by decide +kernel
theorem dX0_tell_9 : decode cX0_tell 9 = .ok (.return_, 1) := by decide +kernel
theorem dX0_tell_10 : decode cX0_tell 10 = .ok (.aload_n 0, 1) := by decide +kernel
theorem dX0_tell_11 : decode cX0_tell 11 = .ok (.getfield 24, 3) := by decide +kernel
theorem dX0_tell_14 : decode cX0_tell 14 = .ok (.iload_n 2, 1) := by decide +kernel
theorem dX0_tell_15 : decode cX0_tell 15 = .ok (.iconst 0, 1) := by decide +kernel
theorem dX0_tell_16 : decode cX0_tell 16 = .ok (.iastore, 1) := by decide +kernel
theorem dX0_tell_17 : decode cX0_tell 17 = .ok (.aload_n 0, 1) := by decide +kernel
theorem dX0_tell_18 : decode cX0_tell 18 = .ok (.getfield 15, 3) := by decide +kernel
theorem dX0_tell_21 : decode cX0_tell 21 = .ok (.iload_n 2, 1) := by decide +kernel
theorem dX0_tell_22 : decode cX0_tell 22 = .ok (.aload_n 0, 1) := by decide +kernel
theorem dX0_tell_23 : decode cX0_tell 23 = .ok (.getfield 9, 3) := by decide +kernel
theorem dX0_tell_26 : decode cX0_tell 26 = .ok (.iload_n 2, 1) := by decide +kernel
theorem dX0_tell_27 : decode cX0_tell 27 = .ok (.iaload, 1) := by decide +kernel
theorem dX0_tell_28 : decode cX0_tell 28 = .ok (.iastore, 1) := by decide +kernel
theorem dX0_tell_29 : decode cX0_tell 29 = .ok (.aload_n 0, 1) := by decide +kernel
theorem dX0_tell_30 : decode cX0_tell 30 = .ok (.getfield 37, 3) := by decide +kernel
theorem dX0_tell_33 : decode cX0_tell 33 = .ok (.iload_n 1, 1) := by decide +kernel
theorem dX0_tell_34 : decode cX0_tell 34 = .ok (.iload_n 2, 1) := by decide +kernel
theorem dX0_tell_35 : decode cX0_tell 35 = .ok (.invokevirtual 119, 3) := by decide +kernel
theorem dX0_tell_38 : decode cX0_tell 38 = .ok (.ifCond .eq 13, 3) := by decide +kernel
theorem dX0_tell_41 : decode cX0_tell 41 = .ok (.aload_n 0, 1) := by decide +kernel
theorem dX0_tell_42 : decode cX0_tell 42 = .ok (.dup, 1) := by decide +kernel
theorem dX0_tell_43 : decode cX0_tell 43 = .ok (.getfield 63, 3) := by decide +kernel
theorem dX0_tell_46 : decode cX0_tell 46 = .ok (.iconst 1, 1) := by decide +kernel
theorem dX0_tell_47 : decode cX0_tell 47 = .ok (.iadd, 1) := by decide +kernel
theorem dX0_tell_48 : decode cX0_tell 48 = .ok (.putfield 63, 3) := by decide +kernel
theorem dX0_tell_51 : decode cX0_tell 51 = .ok (.aload_n 0, 1) := by decide +kernel
theorem dX0_tell_52 : decode cX0_tell 52 = .ok (.getfield 37, 3) := by decide +kernel
theorem dX0_tell_55 : decode cX0_tell 55 = .ok (.iload_n 1, 1) := by decide +kernel
theorem dX0_tell_56 : decode cX0_tell 56 = .ok (.iload_n 2, 1) := by decide +kernel
theorem dX0_tell_57 : decode cX0_tell 57 = .ok (.invokevirtual 122, 3) := by decide +kernel
theorem dX0_tell_60 : decode cX0_tell 60 = .ok (.return_, 1) := by decide +kernel
theorem dX0_meetTerms_0 : decode cX0_meetTerms 0 = .ok (.aload_n 0, 1) := by decide +kernel
theorem dX0_meetTerms_1 : decode cX0_meetTerms 1 = .ok (.getfield 18, 3) := by decide +kernel
theorem dX0_meetTerms_4 : decode cX0_meetTerms 4 = .ok (.iload_n 2, 1) := by decide +kernel
theorem dX0_meetTerms_5 : decode cX0_meetTerms 5 = .ok (.iaload, 1) := by decide +kernel
theorem dX0_meetTerms_6 : decode cX0_meetTerms 6 = .ok (.aload_n 0, 1) := by decide +kernel
theorem dX0_meetTerms_7 : decode cX0_meetTerms 7 = .ok (.getfield 18, 3) := by decide +kernel
theorem dX0_meetTerms_10 : decode cX0_meetTerms 10 = .ok (.iload_n 1, 1) := by decide +kernel
theorem dX0_meetTerms_11 : decode cX0_meetTerms 11 = .ok (.iaload, 1) := by decide +kernel
theorem dX0_meetTerms_12 : decode cX0_meetTerms 12 = .ok (.if_icmp .le 16, 3) := by decide +kernel
theorem dX0_meetTerms_15 : decode cX0_meetTerms 15 = .ok (.aload_n 0, 1) := by decide +kernel
theorem dX0_meetTerms_16 : decode cX0_meetTerms 16 = .ok (.iload_n 1, 1) := by decide +kernel
theorem dX0_meetTerms_17 : decode cX0_meetTerms 17 = .ok (.aload_n 0, 1) := by decide +kernel
theorem dX0_meetTerms_18 : decode cX0_meetTerms 18 = .ok (.getfield 18, 3) := by decide +kernel
theorem dX0_meetTerms_21 : decode cX0_meetTerms 21 = .ok (.iload_n 2, 1) := by decide +kernel
theorem dX0_meetTerms_22 : decode cX0_meetTerms 22 = .ok (.iaload, 1) := by decide +kernel
theorem dX0_meetTerms_23 : decode cX0_meetTerms 23 = .ok (.invokevirtual 125, 3) := by decide +kernel
theorem dX0_meetTerms_26 : decode cX0_meetTerms 26 = .ok (.iconst 0, 1) := by decide +kernel
theorem dX0_meetTerms_27 : decode cX0_meetTerms 27 = .ok (.ireturn, 1) := by decide +kernel
theorem dX0_meetTerms_28 : decode cX0_meetTerms 28 = .ok (.aload_n 0, 1) := by decide +kernel
theorem dX0_meetTerms_29 : decode cX0_meetTerms 29 = .ok (.getfield 18, 3) := by decide +kernel
theorem dX0_meetTerms_32 : decode cX0_meetTerms 32 = .ok (.iload_n 2, 1) := by decide +kernel
theorem dX0_meetTerms_33 : decode cX0_meetTerms 33 = .ok (.iaload, 1) := by decide +kernel
theorem dX0_meetTerms_34 : decode cX0_meetTerms 34 = .ok (.aload_n 0, 1) := by decide +kernel
theorem dX0_meetTerms_35 : decode cX0_meetTerms 35 = .ok (.getfield 18, 3) := by decide +kernel
theorem dX0_meetTerms_38 : decode cX0_meetTerms 38 = .ok (.iload_n 1, 1) := by decide +kernel
theorem dX0_meetTerms_39 : decode cX0_meetTerms 39 = .ok (.iaload, 1) := by decide +kernel
theorem dX0_meetTerms_40 : decode cX0_meetTerms 40 = .ok (.if_icmp .ge 14, 3) := by decide +kernel
theorem dX0_meetTerms_43 : decode cX0_meetTerms 43 = .ok (.aload_n 0, 1) := by decide +kernel
theorem dX0_meetTerms_44 : decode cX0_meetTerms 44 = .ok (.iload_n 2, 1) := by decide +kernel
theorem dX0_meetTerms_45 : decode cX0_meetTerms 45 = .ok (.aload_n 0, 1) := by decide +kernel
theorem dX0_meetTerms_46 : decode cX0_meetTerms 46 = .ok (.getfield 18, 3) := by decide +kernel
theorem dX0_meetTerms_49 : decode cX0_meetTerms 49 = .ok (.iload_n 1, 1) := by decide +kernel
theorem dX0_meetTerms_50 : decode cX0_meetTerms 50 = .ok (.iaload, 1) := by decide +kernel
theorem dX0_meetTerms_51 : decode cX0_meetTerms 51 = .ok (.invokevirtual 125, 3) := by decide +kernel
theorem dX0_meetTerms_54 : decode cX0_meetTerms 54 = .ok (.iconst 1, 1) := by decide +kernel
theorem dX0_meetTerms_55 : decode cX0_meetTerms 55 = .ok (.ireturn, 1) := by decide +kernel
theorem dX0_takeTerm_0 : decode cX0_takeTerm 0 = .ok (.aload_n 0, 1) := by decide +kernel
theorem dX0_takeTerm_1 : decode cX0_takeTerm 1 = .ok (.getfield 18, 3) := by decide +kernel
theorem dX0_takeTerm_4 : decode cX0_takeTerm 4 = .ok (.iload_n 1, 1) := by decide +kernel
theorem dX0_takeTerm_5 : decode cX0_takeTerm 5 = .ok (.iload_n 2, 1) := by decide +kernel
theorem dX0_takeTerm_6 : decode cX0_takeTerm 6 = .ok (.iastore, 1) := by decide +kernel
theorem dX0_takeTerm_7 : decode cX0_takeTerm 7 = .ok (.aload_n 0, 1) := by decide +kernel
theorem dX0_takeTerm_8 : decode cX0_takeTerm 8 = .ok (.getfield 21, 3) := by decide +kernel
theorem dX0_takeTerm_11 : decode cX0_takeTerm 11 = .ok (.iload_n 1, 1) := by decide +kernel
theorem dX0_takeTerm_12 : decode cX0_takeTerm 12 = .ok (.iconst (-1), 1) := by decide +kernel
theorem dX0_takeTerm_13 : decode cX0_takeTerm 13 = .ok (.iastore, 1) := by decide +kernel
theorem dX0_takeTerm_14 : decode cX0_takeTerm 14 = .ok (.aload_n 0, 1) := by decide +kernel
theorem dX0_takeTerm_15 : decode cX0_takeTerm 15 = .ok (.getfield 24, 3) := by decide +kernel
theorem dX0_takeTerm_18 : decode cX0_takeTerm 18 = .ok (.iload_n 1, 1) := by decide +kernel
theorem dX0_takeTerm_19 : decode cX0_takeTerm 19 = .ok (.iconst 0, 1) := by decide +kernel
theorem dX0_takeTerm_20 : decode cX0_takeTerm 20 = .ok (.iastore, 1) := by decide +kernel
theorem dX0_takeTerm_21 : decode cX0_takeTerm 21 = .ok (.return_, 1) := by decide +kernel
theorem dX0_commit_0 : decode cX0_commit 0 = .ok (.aload_n 0, 1) := by decide +kernel
theorem dX0_commit_1 : decode cX0_commit 1 = .ok (.getfield 37, 3) := by decide +kernel
theorem dX0_commit_4 : decode cX0_commit 4 = .ok (.getfield 128, 3) := by decide +kernel
theorem dX0_commit_7 : decode cX0_commit 7 = .ok (.iload_n 1, 1) := by decide +kernel
theorem dX0_commit_8 : decode cX0_commit 8 = .ok (.iaload, 1) := by decide +kernel
theorem dX0_commit_9 : decode cX0_commit 9 = .ok (.istore_n 2, 1) := by decide +kernel
theorem dX0_commit_10 : decode cX0_commit 10 = .ok (.iload_n 2, 1) := by decide +kernel
theorem dX0_commit_11 : decode cX0_commit 11 = .ok (.aload_n 0, 1) := by decide +kernel
theorem dX0_commit_12 : decode cX0_commit 12 = .ok (.getfield 37, 3) := by decide +kernel
theorem dX0_commit_15 : decode cX0_commit 15 = .ok (.getfield 74, 3) := by decide +kernel
theorem dX0_commit_18 : decode cX0_commit 18 = .ok (.iload_n 1, 1) := by decide +kernel
theorem dX0_commit_19 : decode cX0_commit 19 = .ok (.iaload, 1) := by decide +kernel
theorem dX0_commit_20 : decode cX0_commit 20 = .ok (.if_icmp .le 53, 3) := by decide +kernel
theorem dX0_commit_23 : decode cX0_commit 23 = .ok (.aload_n 0, 1) := by decide +kernel
theorem dX0_commit_24 : decode cX0_commit 24 = .ok (.getfield 37, 3) := by decide +kernel
theorem dX0_commit_27 : decode cX0_commit 27 = .ok (.iload_n 1, 1) := by decide +kernel
theorem dX0_commit_28 : decode cX0_commit 28 = .ok (.iload_n 2, 1) := by decide +kernel
theorem dX0_commit_29 : decode cX0_commit 29 = .ok (.iconst 1, 1) := by decide +kernel
theorem dX0_commit_30 : decode cX0_commit 30 = .ok (.isub, 1) := by decide +kernel
theorem dX0_commit_31 : decode cX0_commit 31 = .ok (.invokevirtual 131, 3) := by decide +kernel
theorem dX0_commit_34 : decode cX0_commit 34 = .ok (.aload_n 0, 1) := by decide +kernel
theorem dX0_commit_35 : decode cX0_commit 35 = .ok (.getfield 18, 3) := by decide +kernel
theorem dX0_commit_38 : decode cX0_commit 38 = .ok (.iload_n 1, 1) := by decide +kernel
theorem dX0_commit_39 : decode cX0_commit 39 = .ok (.iaload, 1) := by decide +kernel
theorem dX0_commit_40 : decode cX0_commit 40 = .ok (.if_icmp .ne 27, 3) := by decide +kernel
theorem dX0_commit_43 : decode cX0_commit 43 = .ok (.aload_n 0, 1) := by decide +kernel
theorem dX0_commit_44 : decode cX0_commit 44 = .ok (.aload_n 0, 1) := by decide +kernel
theorem dX0_commit_45 : decode cX0_commit 45 = .ok (.iload_n 1, 1) := by decide +kernel
theorem dX0_commit_46 : decode cX0_commit 46 = .ok (.iload_n 2, 1) := by decide +kernel
theorem dX0_commit_47 : decode cX0_commit 47 = .ok (.invokevirtual 134, 3) := by decide +kernel
theorem dX0_commit_50 : decode cX0_commit 50 = .ok (.invokevirtual 106, 3) := by decide +kernel
theorem dX0_commit_53 : decode cX0_commit 53 = .ok (.ifCond .eq 14, 3) := by decide +kernel
theorem dX0_commit_56 : decode cX0_commit 56 = .ok (.aload_n 0, 1) := by decide +kernel
theorem dX0_commit_57 : decode cX0_commit 57 = .ok (.getfield 37, 3) := by decide +kernel
theorem dX0_commit_60 : decode cX0_commit 60 = .ok (.getfield 74, 3) := by decide +kernel
theorem dX0_commit_63 : decode cX0_commit 63 = .ok (.iload_n 1, 1) := by decide +kernel
theorem dX0_commit_64 : decode cX0_commit 64 = .ok (.iload_n 2, 1) := by decide +kernel
theorem dX0_commit_65 : decode cX0_commit 65 = .ok (.iastore, 1) := by decide +kernel
theorem dX0_commit_66 : decode cX0_commit 66 = .ok (.return_, 1) := by decide +kernel
theorem dX0_commit_67 : decode cX0_commit 67 = .ok (.iinc 2 (-1), 3) := by decide +kernel
theorem dX0_commit_70 : decode cX0_commit 70 = .ok (.goto (-60), 3) := by decide +kernel
theorem dX0_commit_73 : decode cX0_commit 73 = .ok (.return_, 1) := by decide +kernel
theorem dX0_hearersThatAgree_0 : decode cX0_hearersThatAgree 0 = .ok (.iconst 0, 1) := by decide +kernel
theorem dX0_hearersThatAgree_1 : decode cX0_hearersThatAgree 1 = .ok (.istore_n 3, 1) := by decide +kernel
theorem dX0_hearersThatAgree_2 : decode cX0_hearersThatAgree 2 = .ok (.iconst 0, 1) := by decide +kernel
theorem dX0_hearersThatAgree_3 : decode cX0_hearersThatAgree 3 = .ok (.istore 4, 2) := by decide +kernel
theorem dX0_hearersThatAgree_5 : decode cX0_hearersThatAgree 5 = .ok (.iload 4, 2) := by decide +kernel
theorem dX0_hearersThatAgree_7 : decode cX0_hearersThatAgree 7 = .ok (.aload_n 0, 1) := by decide +kernel
theorem dX0_hearersThatAgree_8 : decode cX0_hearersThatAgree 8 = .ok (.getfield 50, 3) := by decide +kernel
theorem dX0_hearersThatAgree_11 : decode cX0_hearersThatAgree 11 = .ok (.if_icmp .ge 36, 3) := by decide +kernel
theorem dX0_hearersThatAgree_14 : decode cX0_hearersThatAgree 14 = .ok (.aload_n 0, 1) := by decide +kernel
theorem dX0_hearersThatAgree_15 : decode cX0_hearersThatAgree 15 = .ok (.iload_n 1, 1) := by decide +kernel
theorem dX0_hearersThatAgree_16 : decode cX0_hearersThatAgree 16 = .ok (.iload 4, 2) := by decide +kernel
theorem dX0_hearersThatAgree_18 : decode cX0_hearersThatAgree 18 = .ok (.invokevirtual 99, 3) := by decide +kernel
theorem dX0_hearersThatAgree_21 : decode cX0_hearersThatAgree 21 = .ok (.ifCond .eq 20, 3) := by decide +kernel
theorem dX0_hearersThatAgree_24 : decode cX0_hearersThatAgree 24 = .ok (.aload_n 0, 1) := by decide +kernel
theorem dX0_hearersThatAgree_25 : decode cX0_hearersThatAgree 25 = .ok (.getfield 37, 3) := by decide +kernel
theorem dX0_hearersThatAgree_28 : decode cX0_hearersThatAgree 28 = .ok (.iload_n 1, 1) := by decide +kernel
theorem dX0_hearersThatAgree_29 : decode cX0_hearersThatAgree 29 = .ok (.iload 4, 2) := by decide +kernel
theorem dX0_hearersThatAgree_31 : decode cX0_hearersThatAgree 31 = .ok (.invokevirtual 137, 3) := by decide +kernel
theorem dX0_hearersThatAgree_34 : decode cX0_hearersThatAgree 34 = .ok (.iload_n 2, 1) := by decide +kernel
theorem dX0_hearersThatAgree_35 : decode cX0_hearersThatAgree 35 = .ok (.if_icmp .lt 6, 3) := by decide +kernel
theorem dX0_hearersThatAgree_38 : decode cX0_hearersThatAgree 38 = .ok (.iinc 3 1, 3) := by decide +kernel
theorem dX0_hearersThatAgree_41 : decode cX0_hearersThatAgree 41 = .ok (.iinc 4 1, 3) := by decide +kernel
theorem dX0_hearersThatAgree_44 : decode cX0_hearersThatAgree 44 = .ok (.goto (-39), 3) := by decide +kernel
theorem dX0_hearersThatAgree_47 : decode cX0_hearersThatAgree 47 = .ok (.iload_n 3, 1) := by decide +kernel
theorem dX0_hearersThatAgree_48 : decode cX0_hearersThatAgree 48 = .ok (.ireturn, 1) := by decide +kernel
theorem dX0_leadsNow_0 : decode cX0_leadsNow 0 = .ok (.aload_n 0, 1) := by decide +kernel
theorem dX0_leadsNow_1 : decode cX0_leadsNow 1 = .ok (.getfield 30, 3) := by decide +kernel
theorem dX0_leadsNow_4 : decode cX0_leadsNow 4 = .ok (.iload_n 1, 1) := by decide +kernel
theorem dX0_leadsNow_5 : decode cX0_leadsNow 5 = .ok (.baload, 1) := by decide +kernel
theorem dX0_leadsNow_6 : decode cX0_leadsNow 6 = .ok (.ifCond .eq 17, 3) := by decide +kernel
theorem dX0_leadsNow_9 : decode cX0_leadsNow 9 = .ok (.aload_n 0, 1) := by decide +kernel
theorem dX0_leadsNow_10 : decode cX0_leadsNow 10 = .ok (.getfield 24, 3) := by decide +kernel
theorem dX0_leadsNow_13 : decode cX0_leadsNow 13 = .ok (.iload_n 1, 1) := by decide +kernel
theorem dX0_leadsNow_14 : decode cX0_leadsNow 14 = .ok (.iaload, 1) := by decide +kernel
theorem dX0_leadsNow_15 : decode cX0_leadsNow 15 = .ok (.iconst 2, 1) := by decide +kernel
theorem dX0_leadsNow_16 : decode cX0_leadsNow 16 = .ok (.if_icmp .ne 7, 3) := by decide +kernel
theorem dX0_leadsNow_19 : decode cX0_leadsNow 19 = .ok (.iconst 1, 1) := by decide +kernel
theorem dX0_leadsNow_20 : decode cX0_leadsNow 20 = .ok (.goto 4, 3) := by decide +kernel
theorem dX0_leadsNow_23 : decode cX0_leadsNow 23 = .ok (.iconst 0, 1) := by decide +kernel
theorem dX0_leadsNow_24 : decode cX0_leadsNow 24 = .ok (.ireturn, 1) := by decide +kernel
theorem dX0_hear_0 : decode cX0_hear 0 = .ok (.aload_n 0, 1) := by decide +kernel
theorem dX0_hear_1 : decode cX0_hear 1 = .ok (.getfield 30, 3) := by decide +kernel
theorem dX0_hear_4 : decode cX0_hear 4 = .ok (.iload_n 1, 1) := by decide +kernel
theorem dX0_hear_5 : decode cX0_hear 5 = .ok (.baload, 1) := by decide +kernel
theorem dX0_hear_6 : decode cX0_hear 6 = .ok (.ifCond .eq 31, 3) := by decide +kernel
theorem dX0_hear_9 : decode cX0_hear 9 = .ok (.aload_n 0, 1) := by decide +kernel
theorem dX0_hear_10 : decode cX0_hear 10 = .ok (.getfield 30, 3) := by decide +kernel
theorem dX0_hear_13 : decode cX0_hear 13 = .ok (.iload_n 2, 1) := by decide +kernel
theorem dX0_hear_14 : decode cX0_hear 14 = .ok (.baload, 1) := by decide +kernel
theorem dX0_hear_15 : decode cX0_hear 15 = .ok (.ifCond .eq 22, 3) := by decide +kernel
theorem dX0_hear_18 : decode cX0_hear 18 = .ok (.aload_n 0, 1) := by decide +kernel
theorem dX0_hear_19 : decode cX0_hear 19 = .ok (.getfield 27, 3) := by decide +kernel
theorem dX0_hear_22 : decode cX0_hear 22 = .ok (.iload_n 1, 1) := by decide +kernel
theorem dX0_hear_23 : decode cX0_hear 23 = .ok (.iaload, 1) := by decide +kernel
theorem dX0_hear_24 : decode cX0_hear 24 = .ok (.aload_n 0, 1) := by decide +kernel
theorem dX0_hear_25 : decode cX0_hear 25 = .ok (.getfield 27, 3) := by decide +kernel
theorem dX0_hear_28 : decode cX0_hear 28 = .ok (.iload_n 2, 1) := by decide +kernel
theorem dX0_hear_29 : decode cX0_hear 29 = .ok (.iaload, 1) := by decide +kernel
theorem dX0_hear_30 : decode cX0_hear 30 = .ok (.if_icmp .ne 7, 3) := by decide +kernel
theorem dX0_hear_33 : decode cX0_hear 33 = .ok (.iconst 1, 1) := by decide +kernel
theorem dX0_hear_34 : decode cX0_hear 34 = .ok (.goto 4, 3) := by decide +kernel
theorem dX0_hear_37 : decode cX0_hear 37 = .ok (.iconst 0, 1) := by decide +kernel
theorem dX0_hear_38 : decode cX0_hear 38 = .ok (.ireturn, 1) := by decide +kernel
theorem dX0_isMoreThanHalf_0 : decode cX0_isMoreThanHalf 0 = .ok (.iload_n 1, 1) := by decide +kernel
theorem dX0_isMoreThanHalf_1 : decode cX0_isMoreThanHalf 1 = .ok (.aload_n 0, 1) := by decide +kernel
theorem dX0_isMoreThanHalf_2 : decode cX0_isMoreThanHalf 2 = .ok (.getfield 50, 3) := by decide +kernel
theorem dX0_isMoreThanHalf_5 : decode cX0_isMoreThanHalf 5 = .ok (.iconst 2, 1) := by decide +kernel
theorem dX0_isMoreThanHalf_6 : decode cX0_isMoreThanHalf 6 = .ok (.idiv, 1) := by decide +kernel
theorem dX0_isMoreThanHalf_7 : decode cX0_isMoreThanHalf 7 = .ok (.if_icmp .le 7, 3) := by decide +kernel
theorem dX0_isMoreThanHalf_10 : decode cX0_isMoreThanHalf 10 = .ok (.iconst 1, 1) := by decide +kernel
theorem dX0_isMoreThanHalf_11 : decode cX0_isMoreThanHalf 11 = .ok (.goto 4, 3) := by decide +kernel
theorem dX0_isMoreThanHalf_14 : decode cX0_isMoreThanHalf 14 = .ok (.iconst 0, 1) := by decide +kernel
theorem dX0_isMoreThanHalf_15 : decode cX0_isMoreThanHalf 15 = .ok (.ireturn, 1) := by decide +kernel
theorem dX0_isLed_0 : decode cX0_isLed 0 = .ok (.iconst 0, 1) := by decide +kernel
theorem dX0_isLed_1 : decode cX0_isLed 1 = .ok (.istore_n 1, 1) := by decide +kernel
theorem dX0_isLed_2 : decode cX0_isLed 2 = .ok (.iload_n 1, 1) := by decide +kernel
theorem dX0_isLed_3 : decode cX0_isLed 3 = .ok (.aload_n 0, 1) := by decide +kernel
theorem dX0_isLed_4 : decode cX0_isLed 4 = .ok (.getfield 50, 3) := by decide +kernel
theorem dX0_isLed_7 : decode cX0_isLed 7 = .ok (.if_icmp .ge 36, 3) := by decide +kernel
theorem dX0_isLed_10 : decode cX0_isLed 10 = .ok (.aload_n 0, 1) := by decide +kernel
theorem dX0_isLed_11 : decode cX0_isLed 11 = .ok (.iload_n 1, 1) := by decide +kernel
theorem dX0_isLed_12 : decode cX0_isLed 12 = .ok (.invokevirtual 89, 3) := by decide +kernel
theorem dX0_isLed_15 : decode cX0_isLed 15 = .ok (.ifCond .eq 22, 3) := by decide +kernel
theorem dX0_isLed_18 : decode cX0_isLed 18 = .ok (.aload_n 0, 1) := by decide +kernel
theorem dX0_isLed_19 : decode cX0_isLed 19 = .ok (.aload_n 0, 1) := by decide +kernel
theorem dX0_isLed_20 : decode cX0_isLed 20 = .ok (.aload_n 0, 1) := by decide +kernel
theorem dX0_isLed_21 : decode cX0_isLed 21 = .ok (.getfield 27, 3) := by decide +kernel
theorem dX0_isLed_24 : decode cX0_isLed 24 = .ok (.iload_n 1, 1) := by decide +kernel
theorem dX0_isLed_25 : decode cX0_isLed 25 = .ok (.iaload, 1) := by decide +kernel
theorem dX0_isLed_26 : decode cX0_isLed 26 = .ok (.invokevirtual 140, 3) := by decide +kernel
theorem dX0_isLed_29 : decode cX0_isLed 29 = .ok (.invokevirtual 106, 3) := by decide +kernel
theorem dX0_isLed_32 : decode cX0_isLed 32 = .ok (.ifCond .eq 5, 3) := by decide +kernel
theorem dX0_isLed_35 : decode cX0_isLed 35 = .ok (.iconst 1, 1) := by decide +kernel
theorem dX0_isLed_36 : decode cX0_isLed 36 = .ok (.ireturn, 1) := by decide +kernel
theorem dX0_isLed_37 : decode cX0_isLed 37 = .ok (.iinc 1 1, 3) := by decide +kernel
theorem dX0_isLed_40 : decode cX0_isLed 40 = .ok (.goto (-38), 3) := by decide +kernel
theorem dX0_isLed_43 : decode cX0_isLed 43 = .ok (.iconst 0, 1) := by decide +kernel
theorem dX0_isLed_44 : decode cX0_isLed 44 = .ok (.ireturn, 1) := by decide +kernel
theorem dX0_upIn_0 : decode cX0_upIn 0 = .ok (.iconst 0, 1) := by decide +kernel
theorem dX0_upIn_1 : decode cX0_upIn 1 = .ok (.istore_n 2, 1) := by decide +kernel
theorem dX0_upIn_2 : decode cX0_upIn 2 = .ok (.iconst 0, 1) := by decide +kernel
theorem dX0_upIn_3 : decode cX0_upIn 3 = .ok (.istore_n 3, 1) := by decide +kernel
theorem dX0_upIn_4 : decode cX0_upIn 4 = .ok (.iload_n 3, 1) := by decide +kernel
theorem dX0_upIn_5 : decode cX0_upIn 5 = .ok (.aload_n 0, 1) := by decide +kernel
theorem dX0_upIn_6 : decode cX0_upIn 6 = .ok (.getfield 50, 3) := by decide +kernel
theorem dX0_upIn_9 : decode cX0_upIn 9 = .ok (.if_icmp .ge 31, 3) := by decide +kernel
theorem dX0_upIn_12 : decode cX0_upIn 12 = .ok (.aload_n 0, 1) := by decide +kernel
theorem dX0_upIn_13 : decode cX0_upIn 13 = .ok (.getfield 30, 3) := by decide +kernel
theorem dX0_upIn_16 : decode cX0_upIn 16 = .ok (.iload_n 3, 1) := by decide +kernel
theorem dX0_upIn_17 : decode cX0_upIn 17 = .ok (.baload, 1) := by decide +kernel
theorem dX0_upIn_18 : decode cX0_upIn 18 = .ok (.ifCond .eq 16, 3) := by decide +kernel
theorem dX0_upIn_21 : decode cX0_upIn 21 = .ok (.aload_n 0, 1) := by decide +kernel
theorem dX0_upIn_22 : decode cX0_upIn 22 = .ok (.getfield 27, 3) := by decide +kernel
theorem dX0_upIn_25 : decode cX0_upIn 25 = .ok (.iload_n 3, 1) := by decide +kernel
theorem dX0_upIn_26 : decode cX0_upIn 26 = .ok (.iaload, 1) := by decide +kernel
theorem dX0_upIn_27 : decode cX0_upIn 27 = .ok (.iload_n 1, 1) := by decide +kernel
theorem dX0_upIn_28 : decode cX0_upIn 28 = .ok (.if_icmp .ne 6, 3) := by decide +kernel
theorem dX0_upIn_31 : decode cX0_upIn 31 = .ok (.iinc 2 1, 3) := by decide +kernel
theorem dX0_upIn_34 : decode cX0_upIn 34 = .ok (.iinc 3 1, 3) := by decide +kernel
theorem dX0_upIn_37 : decode cX0_upIn 37 = .ok (.goto (-33), 3) := by decide +kernel
theorem dX0_upIn_40 : decode cX0_upIn 40 = .ok (.iload_n 2, 1) := by decide +kernel
theorem dX0_upIn_41 : decode cX0_upIn 41 = .ok (.ireturn, 1) := by decide +kernel
theorem dX0_newestIn_0 : decode cX0_newestIn 0 = .ok (.iconst (-1), 1) := by decide +kernel
theorem dX0_newestIn_1 : decode cX0_newestIn 1 = .ok (.istore_n 2, 1) := by decide +kernel
theorem dX0_newestIn_2 : decode cX0_newestIn 2 = .ok (.iconst 0, 1) := by decide +kernel
theorem dX0_newestIn_3 : decode cX0_newestIn 3 = .ok (.istore_n 3, 1) := by decide +kernel
theorem dX0_newestIn_4 : decode cX0_newestIn 4 = .ok (.iload_n 3, 1) := by decide +kernel
theorem dX0_newestIn_5 : decode cX0_newestIn 5 = .ok (.aload_n 0, 1) := by decide +kernel
theorem dX0_newestIn_6 : decode cX0_newestIn 6 = .ok (.getfield 50, 3) := by decide +kernel
theorem dX0_newestIn_9 : decode cX0_newestIn 9 = .ok (.if_icmp .ge 47, 3) := by decide +kernel
theorem dX0_newestIn_12 : decode cX0_newestIn 12 = .ok (.aload_n 0, 1) := by decide +kernel
theorem dX0_newestIn_13 : decode cX0_newestIn 13 = .ok (.getfield 30, 3) := by decide +kernel
theorem dX0_newestIn_16 : decode cX0_newestIn 16 = .ok (.iload_n 3, 1) := by decide +kernel
theorem dX0_newestIn_17 : decode cX0_newestIn 17 = .ok (.baload, 1) := by decide +kernel
theorem dX0_newestIn_18 : decode cX0_newestIn 18 = .ok (.ifCond .eq 32, 3) := by decide +kernel
theorem dX0_newestIn_21 : decode cX0_newestIn 21 = .ok (.aload_n 0, 1) := by decide +kernel
theorem dX0_newestIn_22 : decode cX0_newestIn 22 = .ok (.getfield 27, 3) := by decide +kernel
theorem dX0_newestIn_25 : decode cX0_newestIn 25 = .ok (.iload_n 3, 1) := by decide +kernel
theorem dX0_newestIn_26 : decode cX0_newestIn 26 = .ok (.iaload, 1) := by decide +kernel
theorem dX0_newestIn_27 : decode cX0_newestIn 27 = .ok (.iload_n 1, 1) := by decide +kernel
theorem dX0_newestIn_28 : decode cX0_newestIn 28 = .ok (.if_icmp .ne 22, 3) := by decide +kernel
theorem dX0_newestIn_31 : decode cX0_newestIn 31 = .ok (.iload_n 2, 1) := by decide +kernel
theorem dX0_newestIn_32 : decode cX0_newestIn 32 = .ok (.iconst (-1), 1) := by decide +kernel
theorem dX0_newestIn_33 : decode cX0_newestIn 33 = .ok (.if_icmp .eq 15, 3) := by decide +kernel
theorem dX0_newestIn_36 : decode cX0_newestIn 36 = .ok (.aload_n 0, 1) := by decide +kernel
theorem dX0_newestIn_37 : decode cX0_newestIn 37 = .ok (.getfield 37, 3) := by decide +kernel
theorem dX0_newestIn_40 : decode cX0_newestIn 40 = .ok (.iload_n 2, 1) := by decide +kernel
theorem dX0_newestIn_41 : decode cX0_newestIn 41 = .ok (.iload_n 3, 1) := by decide +kernel
theorem dX0_newestIn_42 : decode cX0_newestIn 42 = .ok (.invokevirtual 112, 3) := by decide +kernel
theorem dX0_newestIn_45 : decode cX0_newestIn 45 = .ok (.ifCond .ne 5, 3) := by decide +kernel
theorem dX0_newestIn_48 : decode cX0_newestIn 48 = .ok (.iload_n 3, 1) := by decide +kernel
theorem dX0_newestIn_49 : decode cX0_newestIn 49 = .ok (.istore_n 2, 1) := by decide +kernel
theorem dX0_newestIn_50 : decode cX0_newestIn 50 = .ok (.iinc 3 1, 3) := by decide +kernel
theorem dX0_newestIn_53 : decode cX0_newestIn 53 = .ok (.goto (-49), 3) := by decide +kernel
theorem dX0_newestIn_56 : decode cX0_newestIn 56 = .ok (.iload_n 2, 1) := by decide +kernel
theorem dX0_newestIn_57 : decode cX0_newestIn 57 = .ok (.ireturn, 1) := by decide +kernel
theorem dX0_ofBoat_0 : decode cX0_ofBoat 0 = .ok (.iload_n 2, 1) := by decide +kernel
theorem dX0_ofBoat_1 : decode cX0_ofBoat 1 = .ok (.tableswitch 128 0 8 #[51, 58, 65, 72, 79, 94, 101, 108, 118], 51) := by decide +kernel
theorem dX0_ofBoat_52 : decode cX0_ofBoat 52 = .ok (.aload_n 0, 1) := by decide +kernel
theorem dX0_ofBoat_53 : decode cX0_ofBoat 53 = .ok (.getfield 18, 3) := by decide +kernel
theorem dX0_ofBoat_56 : decode cX0_ofBoat 56 = .ok (.iload_n 1, 1) := by decide +kernel
theorem dX0_ofBoat_57 : decode cX0_ofBoat 57 = .ok (.iaload, 1) := by decide +kernel
theorem dX0_ofBoat_58 : decode cX0_ofBoat 58 = .ok (.ireturn, 1) := by decide +kernel
theorem dX0_ofBoat_59 : decode cX0_ofBoat 59 = .ok (.aload_n 0, 1) := by decide +kernel
theorem dX0_ofBoat_60 : decode cX0_ofBoat 60 = .ok (.getfield 21, 3) := by decide +kernel
theorem dX0_ofBoat_63 : decode cX0_ofBoat 63 = .ok (.iload_n 1, 1) := by decide +kernel
theorem dX0_ofBoat_64 : decode cX0_ofBoat 64 = .ok (.iaload, 1) := by decide +kernel
theorem dX0_ofBoat_65 : decode cX0_ofBoat 65 = .ok (.ireturn, 1) := by decide +kernel
theorem dX0_ofBoat_66 : decode cX0_ofBoat 66 = .ok (.aload_n 0, 1) := by decide +kernel
theorem dX0_ofBoat_67 : decode cX0_ofBoat 67 = .ok (.getfield 24, 3) := by decide +kernel
theorem dX0_ofBoat_70 : decode cX0_ofBoat 70 = .ok (.iload_n 1, 1) := by decide +kernel
theorem dX0_ofBoat_71 : decode cX0_ofBoat 71 = .ok (.iaload, 1) := by decide +kernel
theorem dX0_ofBoat_72 : decode cX0_ofBoat 72 = .ok (.ireturn, 1) := by decide +kernel
theorem dX0_ofBoat_73 : decode cX0_ofBoat 73 = .ok (.aload_n 0, 1) := by decide +kernel
theorem dX0_ofBoat_74 : decode cX0_ofBoat 74 = .ok (.getfield 27, 3) := by decide +kernel
theorem dX0_ofBoat_77 : decode cX0_ofBoat 77 = .ok (.iload_n 1, 1) := by decide +kernel
theorem dX0_ofBoat_78 : decode cX0_ofBoat 78 = .ok (.iaload, 1) := by decide +kernel
theorem dX0_ofBoat_79 : decode cX0_ofBoat 79 = .ok (.ireturn, 1) := by decide +kernel
theorem dX0_ofBoat_80 : decode cX0_ofBoat 80 = .ok (.aload_n 0, 1) := by decide +kernel
theorem dX0_ofBoat_81 : decode cX0_ofBoat 81 = .ok (.getfield 30, 3) := by decide +kernel
theorem dX0_ofBoat_84 : decode cX0_ofBoat 84 = .ok (.iload_n 1, 1) := by decide +kernel
theorem dX0_ofBoat_85 : decode cX0_ofBoat 85 = .ok (.baload, 1) := by decide +kernel
theorem dX0_ofBoat_86 : decode cX0_ofBoat 86 = .ok (.ifCond .eq 7, 3) := by decide +kernel
theorem dX0_ofBoat_89 : decode cX0_ofBoat 89 = .ok (.iconst 1, 1) := by decide +kernel
theorem dX0_ofBoat_90 : decode cX0_ofBoat 90 = .ok (.goto 4, 3) := by decide +kernel
theorem dX0_ofBoat_93 : decode cX0_ofBoat 93 = .ok (.iconst 0, 1) := by decide +kernel
theorem dX0_ofBoat_94 : decode cX0_ofBoat 94 = .ok (.ireturn, 1) := by decide +kernel
theorem dX0_ofBoat_95 : decode cX0_ofBoat 95 = .ok (.aload_n 0, 1) := by decide +kernel
theorem dX0_ofBoat_96 : decode cX0_ofBoat 96 = .ok (.getfield 9, 3) := by decide +kernel
theorem dX0_ofBoat_99 : decode cX0_ofBoat 99 = .ok (.iload_n 1, 1) := by decide +kernel
theorem dX0_ofBoat_100 : decode cX0_ofBoat 100 = .ok (.iaload, 1) := by decide +kernel
theorem dX0_ofBoat_101 : decode cX0_ofBoat 101 = .ok (.ireturn, 1) := by decide +kernel
theorem dX0_ofBoat_102 : decode cX0_ofBoat 102 = .ok (.aload_n 0, 1) := by decide +kernel
theorem dX0_ofBoat_103 : decode cX0_ofBoat 103 = .ok (.getfield 15, 3) := by decide +kernel
theorem dX0_ofBoat_106 : decode cX0_ofBoat 106 = .ok (.iload_n 1, 1) := by decide +kernel
theorem dX0_ofBoat_107 : decode cX0_ofBoat 107 = .ok (.iaload, 1) := by decide +kernel
theorem dX0_ofBoat_108 : decode cX0_ofBoat 108 = .ok (.ireturn, 1) := by decide +kernel
theorem dX0_ofBoat_109 : decode cX0_ofBoat 109 = .ok (.aload_n 0, 1) := by decide +kernel
theorem dX0_ofBoat_110 : decode cX0_ofBoat 110 = .ok (.getfield 37, 3) := by decide +kernel
theorem dX0_ofBoat_113 : decode cX0_ofBoat 113 = .ok (.getfield 128, 3) := by decide +kernel
theorem dX0_ofBoat_116 : decode cX0_ofBoat 116 = .ok (.iload_n 1, 1) := by decide +kernel
theorem dX0_ofBoat_117 : decode cX0_ofBoat 117 = .ok (.iaload, 1) := by decide +kernel
theorem dX0_ofBoat_118 : decode cX0_ofBoat 118 = .ok (.ireturn, 1) := by decide +kernel
theorem dX0_ofBoat_119 : decode cX0_ofBoat 119 = .ok (.aload_n 0, 1) := by decide +kernel
theorem dX0_ofBoat_120 : decode cX0_ofBoat 120 = .ok (.getfield 37, 3) := by decide +kernel
theorem dX0_ofBoat_123 : decode cX0_ofBoat 123 = .ok (.getfield 74, 3) := by decide +kernel
theorem dX0_ofBoat_126 : decode cX0_ofBoat 126 = .ok (.iload_n 1, 1) := by decide +kernel
theorem dX0_ofBoat_127 : decode cX0_ofBoat 127 = .ok (.iaload, 1) := by decide +kernel
theorem dX0_ofBoat_128 : decode cX0_ofBoat 128 = .ok (.ireturn, 1) := by decide +kernel
theorem dX0_ofBoat_129 : decode cX0_ofBoat 129 = .ok (.aload_n 0, 1) := by decide +kernel
theorem dX0_ofBoat_130 : decode cX0_ofBoat 130 = .ok (.getfield 37, 3) := by decide +kernel
theorem dX0_ofBoat_133 : decode cX0_ofBoat 133 = .ok (.iload_n 1, 1) := by decide +kernel
theorem dX0_ofBoat_134 : decode cX0_ofBoat 134 = .ok (.invokevirtual 144, 3) := by decide +kernel
theorem dX0_ofBoat_137 : decode cX0_ofBoat 137 = .ok (.ireturn, 1) := by decide +kernel
theorem dX0_ofEntry_0 : decode cX0_ofEntry 0 = .ok (.iload_n 3, 1) := by decide +kernel
theorem dX0_ofEntry_1 : decode cX0_ofEntry 1 = .ok (.lookupswitch 47 #[(0, 27), (1, 37)], 27) := by decide +kernel
theorem dX0_ofEntry_28 : decode cX0_ofEntry 28 = .ok (.aload_n 0, 1) := by decide +kernel
theorem dX0_ofEntry_29 : decode cX0_ofEntry 29 = .ok (.getfield 37, 3) := by decide +kernel
theorem dX0_ofEntry_32 : decode cX0_ofEntry 32 = .ok (.iload_n 1, 1) := by decide +kernel
theorem dX0_ofEntry_33 : decode cX0_ofEntry 33 = .ok (.iload_n 2, 1) := by decide +kernel
theorem dX0_ofEntry_34 : decode cX0_ofEntry 34 = .ok (.invokevirtual 131, 3) := by decide +kernel
theorem dX0_ofEntry_37 : decode cX0_ofEntry 37 = .ok (.ireturn, 1) := by decide +kernel
theorem dX0_ofEntry_38 : decode cX0_ofEntry 38 = .ok (.aload_n 0, 1) := by decide +kernel
theorem dX0_ofEntry_39 : decode cX0_ofEntry 39 = .ok (.getfield 37, 3) := by decide +kernel
theorem dX0_ofEntry_42 : decode cX0_ofEntry 42 = .ok (.iload_n 1, 1) := by decide +kernel
theorem dX0_ofEntry_43 : decode cX0_ofEntry 43 = .ok (.iload_n 2, 1) := by decide +kernel
theorem dX0_ofEntry_44 : decode cX0_ofEntry 44 = .ok (.invokevirtual 147, 3) := by decide +kernel
theorem dX0_ofEntry_47 : decode cX0_ofEntry 47 = .ok (.ireturn, 1) := by decide +kernel
theorem dX0_ofEntry_48 : decode cX0_ofEntry 48 = .ok (.aload_n 0, 1) := by decide +kernel
theorem dX0_ofEntry_49 : decode cX0_ofEntry 49 = .ok (.iload_n 1, 1) := by decide +kernel
theorem dX0_ofEntry_50 : decode cX0_ofEntry 50 = .ok (.iload_n 2, 1) := by decide +kernel
theorem dX0_ofEntry_51 : decode cX0_ofEntry 51 = .ok (.iconst 1, 1) := by decide +kernel
theorem dX0_ofEntry_52 : decode cX0_ofEntry 52 = .ok (.iadd, 1) := by decide +kernel
theorem dX0_ofEntry_53 : decode cX0_ofEntry 53 = .ok (.invokevirtual 150, 3) := by decide +kernel
theorem dX0_ofEntry_56 : decode cX0_ofEntry 56 = .ok (.ireturn, 1) := by decide +kernel
theorem dX0_boatsThatAgree_0 : decode cX0_boatsThatAgree 0 = .ok (.iconst 0, 1) := by decide +kernel
theorem dX0_boatsThatAgree_1 : decode cX0_boatsThatAgree 1 = .ok (.istore_n 3, 1) := by decide +kernel
theorem dX0_boatsThatAgree_2 : decode cX0_boatsThatAgree 2 = .ok (.iconst 0, 1) := by decide +kernel
theorem dX0_boatsThatAgree_3 : decode cX0_boatsThatAgree 3 = .ok (.istore 4, 2) := by decide +kernel
theorem dX0_boatsThatAgree_5 : decode cX0_boatsThatAgree 5 = .ok (.iload 4, 2) := by decide +kernel
theorem dX0_boatsThatAgree_7 : decode cX0_boatsThatAgree 7 = .ok (.aload_n 0, 1) := by decide +kernel
theorem dX0_boatsThatAgree_8 : decode cX0_boatsThatAgree 8 = .ok (.getfield 50, 3) := by decide +kernel
theorem dX0_boatsThatAgree_11 : decode cX0_boatsThatAgree 11 = .ok (.if_icmp .ge 26, 3) := by decide +kernel
theorem dX0_boatsThatAgree_14 : decode cX0_boatsThatAgree 14 = .ok (.aload_n 0, 1) := by decide +kernel
theorem dX0_boatsThatAgree_15 : decode cX0_boatsThatAgree 15 = .ok (.getfield 37, 3) := by decide +kernel
theorem dX0_boatsThatAgree_18 : decode cX0_boatsThatAgree 18 = .ok (.iload_n 1, 1) := by decide +kernel
theorem dX0_boatsThatAgree_19 : decode cX0_boatsThatAgree 19 = .ok (.iload 4, 2) := by decide +kernel
theorem dX0_boatsThatAgree_21 : decode cX0_boatsThatAgree 21 = .ok (.invokevirtual 137, 3) := by decide +kernel
theorem dX0_boatsThatAgree_24 : decode cX0_boatsThatAgree 24 = .ok (.iload_n 2, 1) := by decide +kernel
theorem dX0_boatsThatAgree_25 : decode cX0_boatsThatAgree 25 = .ok (.if_icmp .lt 6, 3) := by decide +kernel
theorem dX0_boatsThatAgree_28 : decode cX0_boatsThatAgree 28 = .ok (.iinc 3 1, 3) := by decide +kernel
theorem dX0_boatsThatAgree_31 : decode cX0_boatsThatAgree 31 = .ok (.iinc 4 1, 3) := by decide +kernel
theorem dX0_boatsThatAgree_34 : decode cX0_boatsThatAgree 34 = .ok (.goto (-29), 3) := by decide +kernel
theorem dX0_boatsThatAgree_37 : decode cX0_boatsThatAgree 37 = .ok (.iload_n 3, 1) := by decide +kernel
theorem dX0_boatsThatAgree_38 : decode cX0_boatsThatAgree 38 = .ok (.ireturn, 1) := by decide +kernel
theorem dX0_ofFleet_0 : decode cX0_ofFleet 0 = .ok (.iload_n 1, 1) := by decide +kernel
theorem dX0_ofFleet_1 : decode cX0_ofFleet 1 = .ok (.tableswitch 96 0 8 #[51, 56, 61, 66, 71, 76, 81, 86, 91], 51) := by decide +kernel
theorem dX0_ofFleet_52 : decode cX0_ofFleet 52 = .ok (.aload_n 0, 1) := by decide +kernel
theorem dX0_ofFleet_53 : decode cX0_ofFleet 53 = .ok (.getfield 54, 3) := by decide +kernel
theorem dX0_ofFleet_56 : decode cX0_ofFleet 56 = .ok (.ireturn, 1) := by decide +kernel
theorem dX0_ofFleet_57 : decode cX0_ofFleet 57 = .ok (.aload_n 0, 1) := by decide +kernel
theorem dX0_ofFleet_58 : decode cX0_ofFleet 58 = .ok (.getfield 50, 3) := by decide +kernel
theorem dX0_ofFleet_61 : decode cX0_ofFleet 61 = .ok (.ireturn, 1) := by decide +kernel
theorem dX0_ofFleet_62 : decode cX0_ofFleet 62 = .ok (.aload_n 0, 1) := by decide +kernel
theorem dX0_ofFleet_63 : decode cX0_ofFleet 63 = .ok (.invokevirtual 153, 3) := by decide +kernel
theorem dX0_ofFleet_66 : decode cX0_ofFleet 66 = .ok (.ireturn, 1) := by decide +kernel
theorem dX0_ofFleet_67 : decode cX0_ofFleet 67 = .ok (.aload_n 0, 1) := by decide +kernel
theorem dX0_ofFleet_68 : decode cX0_ofFleet 68 = .ok (.invokevirtual 157, 3) := by decide +kernel
theorem dX0_ofFleet_71 : decode cX0_ofFleet 71 = .ok (.ireturn, 1) := by decide +kernel
theorem dX0_ofFleet_72 : decode cX0_ofFleet 72 = .ok (.aload_n 0, 1) := by decide +kernel
theorem dX0_ofFleet_73 : decode cX0_ofFleet 73 = .ok (.invokevirtual 160, 3) := by decide +kernel
theorem dX0_ofFleet_76 : decode cX0_ofFleet 76 = .ok (.ireturn, 1) := by decide +kernel
theorem dX0_ofFleet_77 : decode cX0_ofFleet 77 = .ok (.aload_n 0, 1) := by decide +kernel
theorem dX0_ofFleet_78 : decode cX0_ofFleet 78 = .ok (.getfield 57, 3) := by decide +kernel
theorem dX0_ofFleet_81 : decode cX0_ofFleet 81 = .ok (.ireturn, 1) := by decide +kernel
theorem dX0_ofFleet_82 : decode cX0_ofFleet 82 = .ok (.aload_n 0, 1) := by decide +kernel
theorem dX0_ofFleet_83 : decode cX0_ofFleet 83 = .ok (.getfield 60, 3) := by decide +kernel
theorem dX0_ofFleet_86 : decode cX0_ofFleet 86 = .ok (.ireturn, 1) := by decide +kernel
theorem dX0_ofFleet_87 : decode cX0_ofFleet 87 = .ok (.aload_n 0, 1) := by decide +kernel
theorem dX0_ofFleet_88 : decode cX0_ofFleet 88 = .ok (.getfield 63, 3) := by decide +kernel
theorem dX0_ofFleet_91 : decode cX0_ofFleet 91 = .ok (.ireturn, 1) := by decide +kernel
theorem dX0_ofFleet_92 : decode cX0_ofFleet 92 = .ok (.aload_n 0, 1) := by decide +kernel
theorem dX0_ofFleet_93 : decode cX0_ofFleet 93 = .ok (.invokevirtual 163, 3) := by decide +kernel
theorem dX0_ofFleet_96 : decode cX0_ofFleet 96 = .ok (.ireturn, 1) := by decide +kernel
theorem dX0_ofFleet_97 : decode cX0_ofFleet 97 = .ok (.aload_n 0, 1) := by decide +kernel
theorem dX0_ofFleet_98 : decode cX0_ofFleet 98 = .ok (.invokevirtual 166, 3) := by decide +kernel
theorem dX0_ofFleet_101 : decode cX0_ofFleet 101 = .ok (.ireturn, 1) := by decide +kernel
theorem dX0_boatsUp_0 : decode cX0_boatsUp 0 = .ok (.iconst 0, 1) := by decide +kernel
theorem dX0_boatsUp_1 : decode cX0_boatsUp 1 = .ok (.istore_n 1, 1) := by decide +kernel
theorem dX0_boatsUp_2 : decode cX0_boatsUp 2 = .ok (.iconst 0, 1) := by decide +kernel
theorem dX0_boatsUp_3 : decode cX0_boatsUp 3 = .ok (.istore_n 2, 1) := by decide +kernel
theorem dX0_boatsUp_4 : decode cX0_boatsUp 4 = .ok (.iload_n 2, 1) := by decide +kernel
theorem dX0_boatsUp_5 : decode cX0_boatsUp 5 = .ok (.aload_n 0, 1) := by decide +kernel
theorem dX0_boatsUp_6 : decode cX0_boatsUp 6 = .ok (.getfield 50, 3) := by decide +kernel
theorem dX0_boatsUp_9 : decode cX0_boatsUp 9 = .ok (.if_icmp .ge 21, 3) := by decide +kernel
theorem dX0_boatsUp_12 : decode cX0_boatsUp 12 = .ok (.aload_n 0, 1) := by decide +kernel
theorem dX0_boatsUp_13 : decode cX0_boatsUp 13 = .ok (.getfield 30, 3) := by decide +kernel
theorem dX0_boatsUp_16 : decode cX0_boatsUp 16 = .ok (.iload_n 2, 1) := by decide +kernel
theorem dX0_boatsUp_17 : decode cX0_boatsUp 17 = .ok (.baload, 1) := by decide +kernel
theorem dX0_boatsUp_18 : decode cX0_boatsUp 18 = .ok (.ifCond .eq 6, 3) := by decide +kernel
theorem dX0_boatsUp_21 : decode cX0_boatsUp 21 = .ok (.iinc 1 1, 3) := by decide +kernel
theorem dX0_boatsUp_24 : decode cX0_boatsUp 24 = .ok (.iinc 2 1, 3) := by decide +kernel
theorem dX0_boatsUp_27 : decode cX0_boatsUp 27 = .ok (.goto (-23), 3) := by decide +kernel
theorem dX0_boatsUp_30 : decode cX0_boatsUp 30 = .ok (.iload_n 1, 1) := by decide +kernel
theorem dX0_boatsUp_31 : decode cX0_boatsUp 31 = .ok (.ireturn, 1) := by decide +kernel
theorem dX0_boatsLeading_0 : decode cX0_boatsLeading 0 = .ok (.iconst 0, 1) := by decide +kernel
theorem dX0_boatsLeading_1 : decode cX0_boatsLeading 1 = .ok (.istore_n 1, 1) := by decide +kernel
theorem dX0_boatsLeading_2 : decode cX0_boatsLeading 2 = .ok (.iconst 0, 1) := by decide +kernel
theorem dX0_boatsLeading_3 : decode cX0_boatsLeading 3 = .ok (.istore_n 2, 1) := by decide +kernel
theorem dX0_boatsLeading_4 : decode cX0_boatsLeading 4 = .ok (.iload_n 2, 1) := by decide +kernel
theorem dX0_boatsLeading_5 : decode cX0_boatsLeading 5 = .ok (.aload_n 0, 1) := by decide +kernel
theorem dX0_boatsLeading_6 : decode cX0_boatsLeading 6 = .ok (.getfield 50, 3) := by decide +kernel
theorem dX0_boatsLeading_9 : decode cX0_boatsLeading 9 = .ok (.if_icmp .ge 20, 3) := by decide +kernel
theorem dX0_boatsLeading_12 : decode cX0_boatsLeading 12 = .ok (.aload_n 0, 1) := by decide +kernel
theorem dX0_boatsLeading_13 : decode cX0_boatsLeading 13 = .ok (.iload_n 2, 1) := by decide +kernel
theorem dX0_boatsLeading_14 : decode cX0_boatsLeading 14 = .ok (.invokevirtual 89, 3) := by decide +kernel
theorem dX0_boatsLeading_17 : decode cX0_boatsLeading 17 = .ok (.ifCond .eq 6, 3) := by decide +kernel
theorem dX0_boatsLeading_20 : decode cX0_boatsLeading 20 = .ok (.iinc 1 1, 3) := by decide +kernel
theorem dX0_boatsLeading_23 : decode cX0_boatsLeading 23 = .ok (.iinc 2 1, 3) := by decide +kernel
theorem dX0_boatsLeading_26 : decode cX0_boatsLeading 26 = .ok (.goto (-22), 3) := by decide +kernel
theorem dX0_boatsLeading_29 : decode cX0_boatsLeading 29 = .ok (.iload_n 1, 1) := by decide +kernel
theorem dX0_boatsLeading_30 : decode cX0_boatsLeading 30 = .ok (.ireturn, 1) := by decide +kernel
theorem dX0_greatestTerm_0 : decode cX0_greatestTerm 0 = .ok (.iconst 0, 1) := by decide +kernel
theorem dX0_greatestTerm_1 : decode cX0_greatestTerm 1 = .ok (.istore_n 1, 1) := by decide +kernel
theorem dX0_greatestTerm_2 : decode cX0_greatestTerm 2 = .ok (.iconst 0, 1) := by decide +kernel
theorem dX0_greatestTerm_3 : decode cX0_greatestTerm 3 = .ok (.istore_n 2, 1) := by decide +kernel
theorem dX0_greatestTerm_4 : decode cX0_greatestTerm 4 = .ok (.iload_n 2, 1) := by decide +kernel
theorem dX0_greatestTerm_5 : decode cX0_greatestTerm 5 = .ok (.aload_n 0, 1) := by decide +kernel
theorem dX0_greatestTerm_6 : decode cX0_greatestTerm 6 = .ok (.getfield 50, 3) := by decide +kernel
theorem dX0_greatestTerm_9 : decode cX0_greatestTerm 9 = .ok (.if_icmp .ge 20, 3) := by decide +kernel
theorem dX0_greatestTerm_12 : decode cX0_greatestTerm 12 = .ok (.iload_n 1, 1) := by decide +kernel
theorem dX0_greatestTerm_13 : decode cX0_greatestTerm 13 = .ok (.aload_n 0, 1) := by decide +kernel
theorem dX0_greatestTerm_14 : decode cX0_greatestTerm 14 = .ok (.getfield 18, 3) := by decide +kernel
theorem dX0_greatestTerm_17 : decode cX0_greatestTerm 17 = .ok (.iload_n 2, 1) := by decide +kernel
theorem dX0_greatestTerm_18 : decode cX0_greatestTerm 18 = .ok (.iaload, 1) := by decide +kernel
theorem dX0_greatestTerm_19 : decode cX0_greatestTerm 19 = .ok (.invokestatic 47, 3) := by decide +kernel
theorem dX0_greatestTerm_22 : decode cX0_greatestTerm 22 = .ok (.istore_n 1, 1) := by decide +kernel
theorem dX0_greatestTerm_23 : decode cX0_greatestTerm 23 = .ok (.iinc 2 1, 3) := by decide +kernel
theorem dX0_greatestTerm_26 : decode cX0_greatestTerm 26 = .ok (.goto (-22), 3) := by decide +kernel
theorem dX0_greatestTerm_29 : decode cX0_greatestTerm 29 = .ok (.iload_n 1, 1) := by decide +kernel
theorem dX0_greatestTerm_30 : decode cX0_greatestTerm 30 = .ok (.ireturn, 1) := by decide +kernel
theorem dX0_mostKnown_0 : decode cX0_mostKnown 0 = .ok (.iconst 0, 1) := by decide +kernel
theorem dX0_mostKnown_1 : decode cX0_mostKnown 1 = .ok (.istore_n 1, 1) := by decide +kernel
theorem dX0_mostKnown_2 : decode cX0_mostKnown 2 = .ok (.iconst 0, 1) := by decide +kernel
theorem dX0_mostKnown_3 : decode cX0_mostKnown 3 = .ok (.istore_n 2, 1) := by decide +kernel
theorem dX0_mostKnown_4 : decode cX0_mostKnown 4 = .ok (.iload_n 2, 1) := by decide +kernel
theorem dX0_mostKnown_5 : decode cX0_mostKnown 5 = .ok (.aload_n 0, 1) := by decide +kernel
theorem dX0_mostKnown_6 : decode cX0_mostKnown 6 = .ok (.getfield 50, 3) := by decide +kernel
theorem dX0_mostKnown_9 : decode cX0_mostKnown 9 = .ok (.if_icmp .ge 23, 3) := by decide +kernel
theorem dX0_mostKnown_12 : decode cX0_mostKnown 12 = .ok (.iload_n 1, 1) := by decide +kernel
theorem dX0_mostKnown_13 : decode cX0_mostKnown 13 = .ok (.aload_n 0, 1) := by decide +kernel
theorem dX0_mostKnown_14 : decode cX0_mostKnown 14 = .ok (.getfield 37, 3) := by decide +kernel
theorem dX0_mostKnown_17 : decode cX0_mostKnown 17 = .ok (.getfield 74, 3) := by decide +kernel
theorem dX0_mostKnown_20 : decode cX0_mostKnown 20 = .ok (.iload_n 2, 1) := by decide +kernel
theorem dX0_mostKnown_21 : decode cX0_mostKnown 21 = .ok (.iaload, 1) := by decide +kernel
theorem dX0_mostKnown_22 : decode cX0_mostKnown 22 = .ok (.invokestatic 47, 3) := by decide +kernel
theorem dX0_mostKnown_25 : decode cX0_mostKnown 25 = .ok (.istore_n 1, 1) := by decide +kernel
theorem dX0_mostKnown_26 : decode cX0_mostKnown 26 = .ok (.iinc 2 1, 3) := by decide +kernel
theorem dX0_mostKnown_29 : decode cX0_mostKnown 29 = .ok (.goto (-25), 3) := by decide +kernel
theorem dX0_mostKnown_32 : decode cX0_mostKnown 32 = .ok (.iload_n 1, 1) := by decide +kernel
theorem dX0_mostKnown_33 : decode cX0_mostKnown 33 = .ok (.ireturn, 1) := by decide +kernel
theorem dX0_fewestKnown_0 : decode cX0_fewestKnown 0 = .ok (.bipush 10, 2) := by decide +kernel
theorem dX0_fewestKnown_2 : decode cX0_fewestKnown 2 = .ok (.istore_n 1, 1) := by decide +kernel
theorem dX0_fewestKnown_3 : decode cX0_fewestKnown 3 = .ok (.iconst 0, 1) := by decide +kernel
theorem dX0_fewestKnown_4 : decode cX0_fewestKnown 4 = .ok (.istore_n 2, 1) := by decide +kernel
theorem dX0_fewestKnown_5 : decode cX0_fewestKnown 5 = .ok (.iload_n 2, 1) := by decide +kernel
theorem dX0_fewestKnown_6 : decode cX0_fewestKnown 6 = .ok (.aload_n 0, 1) := by decide +kernel
theorem dX0_fewestKnown_7 : decode cX0_fewestKnown 7 = .ok (.getfield 50, 3) := by decide +kernel
theorem dX0_fewestKnown_10 : decode cX0_fewestKnown 10 = .ok (.if_icmp .ge 23, 3) := by decide +kernel
theorem dX0_fewestKnown_13 : decode cX0_fewestKnown 13 = .ok (.iload_n 1, 1) := by decide +kernel
theorem dX0_fewestKnown_14 : decode cX0_fewestKnown 14 = .ok (.aload_n 0, 1) := by decide +kernel
theorem dX0_fewestKnown_15 : decode cX0_fewestKnown 15 = .ok (.getfield 37, 3) := by decide +kernel
theorem dX0_fewestKnown_18 : decode cX0_fewestKnown 18 = .ok (.getfield 74, 3) := by decide +kernel
theorem dX0_fewestKnown_21 : decode cX0_fewestKnown 21 = .ok (.iload_n 2, 1) := by decide +kernel
theorem dX0_fewestKnown_22 : decode cX0_fewestKnown 22 = .ok (.iaload, 1) := by decide +kernel
theorem dX0_fewestKnown_23 : decode cX0_fewestKnown 23 = .ok (.invokestatic 41, 3) := by decide +kernel
theorem dX0_fewestKnown_26 : decode cX0_fewestKnown 26 = .ok (.istore_n 1, 1) := by decide +kernel
theorem dX0_fewestKnown_27 : decode cX0_fewestKnown 27 = .ok (.iinc 2 1, 3) := by decide +kernel
theorem dX0_fewestKnown_30 : decode cX0_fewestKnown 30 = .ok (.goto (-25), 3) := by decide +kernel
theorem dX0_fewestKnown_33 : decode cX0_fewestKnown 33 = .ok (.iload_n 1, 1) := by decide +kernel
theorem dX0_fewestKnown_34 : decode cX0_fewestKnown 34 = .ok (.ireturn, 1) := by decide +kernel
end
section
theorem dX3_init_0 : decode cX3_init 0 = .ok (.aload_n 0, 1) := by decide +kernel
theorem dX3_init_1 : decode cX3_init 1 = .ok (.invokespecial 3, 3) := by decide +kernel
theorem dX3_init_4 : decode cX3_init 4 = .ok (.aload_n 0, 1) := by decide +kernel
theorem dX3_init_5 : decode cX3_init 5 = .ok (.iconst 5, 1) := by decide +kernel
theorem dX3_init_6 : decode cX3_init 6 = .ok (.putfield 9, 3) := by decide +kernel
theorem dX3_init_9 : decode cX3_init 9 = .ok (.aload_n 0, 1) := by decide +kernel
theorem dX3_init_10 : decode cX3_init 10 = .ok (.bipush 7, 2) := by decide +kernel
theorem dX3_init_12 : decode cX3_init 12 = .ok (.newarray .int, 2) := by decide +kernel
theorem dX3_init_14 : decode cX3_init 14 = .ok (.putfield 15, 3) := by decide +kernel
theorem dX3_init_17 : decode cX3_init 17 = .ok (.aload_n 0, 1) := by decide +kernel
theorem dX3_init_18 : decode cX3_init 18 = .ok (.bipush 7, 2) := by decide +kernel
theorem dX3_init_20 : decode cX3_init 20 = .ok (.newarray .int, 2) := by decide +kernel
theorem dX3_init_22 : decode cX3_init 22 = .ok (.putfield 19, 3) := by decide +kernel
theorem dX3_init_25 : decode cX3_init 25 = .ok (.aload_n 0, 1) := by decide +kernel
theorem dX3_init_26 : decode cX3_init 26 = .ok (.bipush 7, 2) := by decide +kernel
theorem dX3_init_28 : decode cX3_init 28 = .ok (.newarray .int, 2) := by decide +kernel
theorem dX3_init_30 : decode cX3_init 30 = .ok (.putfield 22, 3) := by decide +kernel
theorem dX3_init_33 : decode cX3_init 33 = .ok (.aload_n 0, 1) := by decide +kernel
theorem dX3_init_34 : decode cX3_init 34 = .ok (.bipush 7, 2) := by decide +kernel
theorem dX3_init_36 : decode cX3_init 36 = .ok (.newarray .int, 2) := by decide +kernel
theorem dX3_init_38 : decode cX3_init 38 = .ok (.putfield 25, 3) := by decide +kernel
theorem dX3_init_41 : decode cX3_init 41 = .ok (.aload_n 0, 1) := by decide +kernel
theorem dX3_init_42 : decode cX3_init 42 = .ok (.bipush 7, 2) := by decide +kernel
theorem dX3_init_44 : decode cX3_init 44 = .ok (.newarray .int, 2) := by decide +kernel
theorem dX3_init_46 : decode cX3_init 46 = .ok (.putfield 28, 3) := by decide +kernel
theorem dX3_init_49 : decode cX3_init 49 = .ok (.aload_n 0, 1) := by decide +kernel
theorem dX3_init_50 : decode cX3_init 50 = .ok (.bipush 7, 2) := by decide +kernel
theorem dX3_init_52 : decode cX3_init 52 = .ok (.newarray .int, 2) := by decide +kernel
theorem dX3_init_54 : decode cX3_init 54 = .ok (.putfield 31, 3) := by decide +kernel
theorem dX3_init_57 : decode cX3_init 57 = .ok (.aload_n 0, 1) := by decide +kernel
theorem dX3_init_58 : decode cX3_init 58 = .ok (.bipush 7, 2) := by decide +kernel
theorem dX3_init_60 : decode cX3_init 60 = .ok (.newarray .int, 2) := by decide +kernel
theorem dX3_init_62 : decode cX3_init 62 = .ok (.putfield 34, 3) := by decide +kernel
theorem dX3_init_65 : decode cX3_init 65 = .ok (.aload_n 0, 1) := by decide +kernel
theorem dX3_init_66 : decode cX3_init 66 = .ok (.bipush 7, 2) := by decide +kernel
theorem dX3_init_68 : decode cX3_init 68 = .ok (.newarray .int, 2) := by decide +kernel
theorem dX3_init_70 : decode cX3_init 70 = .ok (.putfield 37, 3) := by decide +kernel
theorem dX3_init_73 : decode cX3_init 73 = .ok (.aload_n 0, 1) := by decide +kernel
theorem dX3_init_74 : decode cX3_init 74 = .ok (.bipush 7, 2) := by decide +kernel
theorem dX3_init_76 : decode cX3_init 76 = .ok (.newarray .int, 2) := by decide +kernel
theorem dX3_init_78 : decode cX3_init 78 = .ok (.putfield 40, 3) := by decide +kernel
theorem dX3_init_81 : decode cX3_init 81 = .ok (.aload_n 0, 1) := by decide +kernel
theorem dX3_init_82 : decode cX3_init 82 = .ok (.bipush 70, 2) := by decide +kernel
theorem dX3_init_84 : decode cX3_init 84 = .ok (.newarray .int, 2) := by decide +kernel
theorem dX3_init_86 : decode cX3_init 86 = .ok (.putfield 43, 3) := by decide +kernel
theorem dX3_init_89 : decode cX3_init 89 = .ok (.aload_n 0, 1) := by decide +kernel
theorem dX3_init_90 : decode cX3_init 90 = .ok (.bipush 70, 2) := by decide +kernel
theorem dX3_init_92 : decode cX3_init 92 = .ok (.newarray .int, 2) := by decide +kernel
theorem dX3_init_94 : decode cX3_init 94 = .ok (.putfield 46, 3) := by decide +kernel
theorem dX3_init_97 : decode cX3_init 97 = .ok (.aload_n 0, 1) := by decide +kernel
theorem dX3_init_98 : decode cX3_init 98 = .ok (.iconst 5, 1) := by decide +kernel
theorem dX3_init_99 : decode cX3_init 99 = .ok (.invokevirtual 49, 3) := by decide +kernel
theorem dX3_init_102 : decode cX3_init 102 = .ok (.return_, 1) := by decide +kernel
theorem dX3_begin_0 : decode cX3_begin 0 = .ok (.aload_n 0, 1) := by decide +kernel
theorem dX3_begin_1 : decode cX3_begin 1 = .ok (.iload_n 1, 1) := by decide +kernel
theorem dX3_begin_2 : decode cX3_begin 2 = .ok (.putfield 9, 3) := by decide +kernel
theorem dX3_begin_5 : decode cX3_begin 5 = .ok (.aload_n 0, 1) := by decide +kernel
theorem dX3_begin_6 : decode cX3_begin 6 = .ok (.iconst 0, 1) := by decide +kernel
theorem dX3_begin_7 : decode cX3_begin 7 = .ok (.putfield 53, 3) := by decide +kernel
theorem dX3_begin_10 : decode cX3_begin 10 = .ok (.aload_n 0, 1) := by decide +kernel
theorem dX3_begin_11 : decode cX3_begin 11 = .ok (.iconst 0, 1) := by decide +kernel
theorem dX3_begin_12 : decode cX3_begin 12 = .ok (.putfield 56, 3) := by decide +kernel
theorem dX3_begin_15 : decode cX3_begin 15 = .ok (.aload_n 0, 1) := by decide +kernel
theorem dX3_begin_16 : decode cX3_begin 16 = .ok (.iconst 0, 1) := by decide +kernel
theorem dX3_begin_17 : decode cX3_begin 17 = .ok (.putfield 59, 3) := by decide +kernel
theorem dX3_begin_20 : decode cX3_begin 20 = .ok (.aload_n 0, 1) := by decide +kernel
theorem dX3_begin_21 : decode cX3_begin 21 = .ok (.iconst 0, 1) := by decide +kernel
theorem dX3_begin_22 : decode cX3_begin 22 = .ok (.putfield 62, 3) := by decide +kernel
theorem dX3_begin_25 : decode cX3_begin 25 = .ok (.iconst 0, 1) := by decide +kernel
theorem dX3_begin_26 : decode cX3_begin 26 = .ok (.istore_n 2, 1) := by decide +kernel
theorem dX3_begin_27 : decode cX3_begin 27 = .ok (.iload_n 2, 1) := by decide +kernel
theorem dX3_begin_28 : decode cX3_begin 28 = .ok (.bipush 7, 2) := by decide +kernel
theorem dX3_begin_30 : decode cX3_begin 30 = .ok (.if_icmp .ge 76, 3) := by decide +kernel
theorem dX3_begin_33 : decode cX3_begin 33 = .ok (.aload_n 0, 1) := by decide +kernel
theorem dX3_begin_34 : decode cX3_begin 34 = .ok (.getfield 15, 3) := by decide +kernel
theorem dX3_begin_37 : decode cX3_begin 37 = .ok (.iload_n 2, 1) := by decide +kernel
theorem dX3_begin_38 : decode cX3_begin 38 = .ok (.iconst 2, 1) := by decide +kernel
theorem dX3_begin_39 : decode cX3_begin 39 = .ok (.iload_n 2, 1) := by decide +kernel
theorem dX3_begin_40 : decode cX3_begin 40 = .ok (.iadd, 1) := by decide +kernel
theorem dX3_begin_41 : decode cX3_begin 41 = .ok (.iastore, 1) := by decide +kernel
theorem dX3_begin_42 : decode cX3_begin 42 = .ok (.aload_n 0, 1) := by decide +kernel
theorem dX3_begin_43 : decode cX3_begin 43 = .ok (.getfield 19, 3) := by decide +kernel
theorem dX3_begin_46 : decode cX3_begin 46 = .ok (.iload_n 2, 1) := by decide +kernel
theorem dX3_begin_47 : decode cX3_begin 47 = .ok (.iconst 2, 1) := by decide +kernel
theorem dX3_begin_48 : decode cX3_begin 48 = .ok (.iload_n 2, 1) := by decide +kernel
theorem dX3_begin_49 : decode cX3_begin 49 = .ok (.iadd, 1) := by decide +kernel
theorem dX3_begin_50 : decode cX3_begin 50 = .ok (.iastore, 1) := by decide +kernel
theorem dX3_begin_51 : decode cX3_begin 51 = .ok (.aload_n 0, 1) := by decide +kernel
theorem dX3_begin_52 : decode cX3_begin 52 = .ok (.getfield 22, 3) := by decide +kernel
theorem dX3_begin_55 : decode cX3_begin 55 = .ok (.iload_n 2, 1) := by decide +kernel
theorem dX3_begin_56 : decode cX3_begin 56 = .ok (.iconst 0, 1) := by decide +kernel
theorem dX3_begin_57 : decode cX3_begin 57 = .ok (.iastore, 1) := by decide +kernel
theorem dX3_begin_58 : decode cX3_begin 58 = .ok (.aload_n 0, 1) := by decide +kernel
theorem dX3_begin_59 : decode cX3_begin 59 = .ok (.getfield 25, 3) := by decide +kernel
theorem dX3_begin_62 : decode cX3_begin 62 = .ok (.iload_n 2, 1) := by decide +kernel
theorem dX3_begin_63 : decode cX3_begin 63 = .ok (.iconst (-1), 1) := by decide +kernel
theorem dX3_begin_64 : decode cX3_begin 64 = .ok (.iastore, 1) := by decide +kernel
theorem dX3_begin_65 : decode cX3_begin 65 = .ok (.aload_n 0, 1) := by decide +kernel
theorem dX3_begin_66 : decode cX3_begin 66 = .ok (.getfield 28, 3) := by decide +kernel
theorem dX3_begin_69 : decode cX3_begin 69 = .ok (.iload_n 2, 1) := by decide +kernel
theorem dX3_begin_70 : decode cX3_begin 70 = .ok (.iconst 0, 1) := by decide +kernel
theorem dX3_begin_71 : decode cX3_begin 71 = .ok (.iastore, 1) := by decide +kernel
theorem dX3_begin_72 : decode cX3_begin 72 = .ok (.aload_n 0, 1) := by decide +kernel
theorem dX3_begin_73 : decode cX3_begin 73 = .ok (.getfield 31, 3) := by decide +kernel
theorem dX3_begin_76 : decode cX3_begin 76 = .ok (.iload_n 2, 1) := by decide +kernel
theorem dX3_begin_77 : decode cX3_begin 77 = .ok (.iconst 0, 1) := by decide +kernel
theorem dX3_begin_78 : decode cX3_begin 78 = .ok (.iastore, 1) := by decide +kernel
theorem dX3_begin_79 : decode cX3_begin 79 = .ok (.aload_n 0, 1) := by decide +kernel
theorem dX3_begin_80 : decode cX3_begin 80 = .ok (.getfield 34, 3) := by decide +kernel
theorem dX3_begin_83 : decode cX3_begin 83 = .ok (.iload_n 2, 1) := by decide +kernel
theorem dX3_begin_84 : decode cX3_begin 84 = .ok (.iconst 1, 1) := by decide +kernel
theorem dX3_begin_85 : decode cX3_begin 85 = .ok (.iastore, 1) := by decide +kernel
theorem dX3_begin_86 : decode cX3_begin 86 = .ok (.aload_n 0, 1) := by decide +kernel
theorem dX3_begin_87 : decode cX3_begin 87 = .ok (.getfield 37, 3) := by decide +kernel
theorem dX3_begin_90 : decode cX3_begin 90 = .ok (.iload_n 2, 1) := by decide +kernel
theorem dX3_begin_91 : decode cX3_begin 91 = .ok (.iconst 0, 1) := by decide +kernel
theorem dX3_begin_92 : decode cX3_begin 92 = .ok (.iastore, 1) := by decide +kernel
theorem dX3_begin_93 : decode cX3_begin 93 = .ok (.aload_n 0, 1) := by decide +kernel
theorem dX3_begin_94 : decode cX3_begin 94 = .ok (.getfield 40, 3) := by decide +kernel
theorem dX3_begin_97 : decode cX3_begin 97 = .ok (.iload_n 2, 1) := by decide +kernel
theorem dX3_begin_98 : decode cX3_begin 98 = .ok (.iconst 0, 1) := by decide +kernel
theorem dX3_begin_99 : decode cX3_begin 99 = .ok (.iastore, 1) := by decide +kernel
theorem dX3_begin_100 : decode cX3_begin 100 = .ok (.iinc 2 1, 3) := by decide +kernel
theorem dX3_begin_103 : decode cX3_begin 103 = .ok (.goto (-76), 3) := by decide +kernel
theorem dX3_begin_106 : decode cX3_begin 106 = .ok (.return_, 1) := by decide +kernel
theorem dX3_copy_0 : decode cX3_copy 0 = .ok (.aload_n 0, 1) := by decide +kernel
theorem dX3_copy_1 : decode cX3_copy 1 = .ok (.iconst 0, 1) := by decide +kernel
theorem dX3_copy_2 : decode cX3_copy 2 = .ok (.aload_n 1, 1) := by decide +kernel
theorem dX3_copy_3 : decode cX3_copy 3 = .ok (.iconst 0, 1) := by decide +kernel
theorem dX3_copy_4 : decode cX3_copy 4 = .ok (.aload_n 1, 1) := by decide +kernel
theorem dX3_copy_5 : decode cX3_copy 5 = .ok (.arraylength, 1) := by decide +kernel
theorem dX3_copy_6 : decode cX3_copy 6 = .ok (.invokestatic 65, 3) := by decide +kernel
theorem dX3_copy_9 : decode cX3_copy 9 = .ok (.return_, 1) := by decide +kernel
theorem dX3_become_0 : decode cX3_become 0 = .ok (.aload_n 0, 1) := by decide +kernel
theorem dX3_become_1 : decode cX3_become 1 = .ok (.aload_n 1, 1) := by decide +kernel
theorem dX3_become_2 : decode cX3_become 2 = .ok (.getfield 9, 3) := by decide +kernel
theorem dX3_become_5 : decode cX3_become 5 = .ok (.putfield 9, 3) := by decide +kernel
theorem dX3_become_8 : decode cX3_become 8 = .ok (.aload_n 0, 1) := by decide +kernel
theorem dX3_become_9 : decode cX3_become 9 = .ok (.aload_n 1, 1) := by decide +kernel
theorem dX3_become_10 : decode cX3_become 10 = .ok (.getfield 53, 3) := by decide +kernel
theorem dX3_become_13 : decode cX3_become 13 = .ok (.putfield 53, 3) := by decide +kernel
theorem dX3_become_16 : decode cX3_become 16 = .ok (.aload_n 0, 1) := by decide +kernel
theorem dX3_become_17 : decode cX3_become 17 = .ok (.aload_n 1, 1) := by decide +kernel
theorem dX3_become_18 : decode cX3_become 18 = .ok (.getfield 56, 3) := by decide +kernel
theorem dX3_become_21 : decode cX3_become 21 = .ok (.putfield 56, 3) := by decide +kernel
theorem dX3_become_24 : decode cX3_become 24 = .ok (.aload_n 0, 1) := by decide +kernel
theorem dX3_become_25 : decode cX3_become 25 = .ok (.aload_n 1, 1) := by decide +kernel
theorem dX3_become_26 : decode cX3_become 26 = .ok (.getfield 59, 3) := by decide +kernel
theorem dX3_become_29 : decode cX3_become 29 = .ok (.putfield 59, 3) := by decide +kernel
theorem dX3_become_32 : decode cX3_become 32 = .ok (.aload_n 0, 1) := by decide +kernel
theorem dX3_become_33 : decode cX3_become 33 = .ok (.aload_n 1, 1) := by decide +kernel
theorem dX3_become_34 : decode cX3_become 34 = .ok (.getfield 62, 3) := by decide +kernel
theorem dX3_become_37 : decode cX3_become 37 = .ok (.putfield 62, 3) := by decide +kernel
theorem dX3_become_40 : decode cX3_become 40 = .ok (.aload_n 1, 1) := by decide +kernel
theorem dX3_become_41 : decode cX3_become 41 = .ok (.getfield 15, 3) := by decide +kernel
theorem dX3_become_44 : decode cX3_become 44 = .ok (.aload_n 0, 1) := by decide +kernel
theorem dX3_become_45 : decode cX3_become 45 = .ok (.getfield 15, 3) := by decide +kernel
theorem dX3_become_48 : decode cX3_become 48 = .ok (.invokestatic 71, 3) := by decide +kernel
theorem dX3_become_51 : decode cX3_become 51 = .ok (.aload_n 1, 1) := by decide +kernel
theorem dX3_become_52 : decode cX3_become 52 = .ok (.getfield 19, 3) := by decide +kernel
theorem dX3_become_55 : decode cX3_become 55 = .ok (.aload_n 0, 1) := by decide +kernel
theorem dX3_become_56 : decode cX3_become 56 = .ok (.getfield 19, 3) := by decide +kernel
theorem dX3_become_59 : decode cX3_become 59 = .ok (.invokestatic 71, 3) := by decide +kernel
theorem dX3_become_62 : decode cX3_become 62 = .ok (.aload_n 1, 1) := by decide +kernel
theorem dX3_become_63 : decode cX3_become 63 = .ok (.getfield 22, 3) := by decide +kernel
theorem dX3_become_66 : decode cX3_become 66 = .ok (.aload_n 0, 1) := by decide +kernel
theorem dX3_become_67 : decode cX3_become 67 = .ok (.getfield 22, 3) := by decide +kernel
theorem dX3_become_70 : decode cX3_become 70 = .ok (.invokestatic 71, 3) := by decide +kernel
theorem dX3_become_73 : decode cX3_become 73 = .ok (.aload_n 1, 1) := by decide +kernel
theorem dX3_become_74 : decode cX3_become 74 = .ok (.getfield 25, 3) := by decide +kernel
theorem dX3_become_77 : decode cX3_become 77 = .ok (.aload_n 0, 1) := by decide +kernel
theorem dX3_become_78 : decode cX3_become 78 = .ok (.getfield 25, 3) := by decide +kernel
theorem dX3_become_81 : decode cX3_become 81 = .ok (.invokestatic 71, 3) := by decide +kernel
theorem dX3_become_84 : decode cX3_become 84 = .ok (.aload_n 1, 1) := by decide +kernel
theorem dX3_become_85 : decode cX3_become 85 = .ok (.getfield 28, 3) := by decide +kernel
theorem dX3_become_88 : decode cX3_become 88 = .ok (.aload_n 0, 1) := by decide +kernel
theorem dX3_become_89 : decode cX3_become 89 = .ok (.getfield 28, 3) := by decide +kernel
theorem dX3_become_92 : decode cX3_become 92 = .ok (.invokestatic 71, 3) := by decide +kernel
theorem dX3_become_95 : decode cX3_become 95 = .ok (.aload_n 1, 1) := by decide +kernel
theorem dX3_become_96 : decode cX3_become 96 = .ok (.getfield 31, 3) := by decide +kernel
theorem dX3_become_99 : decode cX3_become 99 = .ok (.aload_n 0, 1) := by decide +kernel
theorem dX3_become_100 : decode cX3_become 100 = .ok (.getfield 31, 3) := by decide +kernel
theorem dX3_become_103 : decode cX3_become 103 = .ok (.invokestatic 71, 3) := by decide +kernel
theorem dX3_become_106 : decode cX3_become 106 = .ok (.aload_n 1, 1) := by decide +kernel
theorem dX3_become_107 : decode cX3_become 107 = .ok (.getfield 34, 3) := by decide +kernel
theorem dX3_become_110 : decode cX3_become 110 = .ok (.aload_n 0, 1) := by decide +kernel
theorem dX3_become_111 : decode cX3_become 111 = .ok (.getfield 34, 3) := by decide +kernel
theorem dX3_become_114 : decode cX3_become 114 = .ok (.invokestatic 71, 3) := by decide +kernel
theorem dX3_become_117 : decode cX3_become 117 = .ok (.aload_n 1, 1) := by decide +kernel
theorem dX3_become_118 : decode cX3_become 118 = .ok (.getfield 37, 3) := by decide +kernel
theorem dX3_become_121 : decode cX3_become 121 = .ok (.aload_n 0, 1) := by decide +kernel
theorem dX3_become_122 : decode cX3_become 122 = .ok (.getfield 37, 3) := by decide +kernel
theorem dX3_become_125 : decode cX3_become 125 = .ok (.invokestatic 71, 3) := by decide +kernel
theorem dX3_become_128 : decode cX3_become 128 = .ok (.aload_n 1, 1) := by decide +kernel
theorem dX3_become_129 : decode cX3_become 129 = .ok (.getfield 40, 3) := by decide +kernel
theorem dX3_become_132 : decode cX3_become 132 = .ok (.aload_n 0, 1) := by decide +kernel
theorem dX3_become_133 : decode cX3_become 133 = .ok (.getfield 40, 3) := by decide +kernel
theorem dX3_become_136 : decode cX3_become 136 = .ok (.invokestatic 71, 3) := by decide +kernel
theorem dX3_become_139 : decode cX3_become 139 = .ok (.aload_n 1, 1) := by decide +kernel
theorem dX3_become_140 : decode cX3_become 140 = .ok (.getfield 43, 3) := by decide +kernel
theorem dX3_become_143 : decode cX3_become 143 = .ok (.aload_n 0, 1) := by decide +kernel
theorem dX3_become_144 : decode cX3_become 144 = .ok (.getfield 43, 3) := by decide +kernel
theorem dX3_become_147 : decode cX3_become 147 = .ok (.invokestatic 71, 3) := by decide +kernel
theorem dX3_become_150 : decode cX3_become 150 = .ok (.aload_n 1, 1) := by decide +kernel
theorem dX3_become_151 : decode cX3_become 151 = .ok (.getfield 46, 3) := by decide +kernel
theorem dX3_become_154 : decode cX3_become 154 = .ok (.aload_n 0, 1) := by decide +kernel
theorem dX3_become_155 : decode cX3_become 155 = .ok (.getfield 46, 3) := by decide +kernel
theorem dX3_become_158 : decode cX3_become 158 = .ok (.invokestatic 71, 3) := by decide +kernel
theorem dX3_become_161 : decode cX3_become 161 = .ok (.return_, 1) := by decide +kernel
theorem dX3_isMore_0 : decode cX3_isMore 0 = .ok (.iload_n 1, 1) := by decide +kernel
theorem dX3_isMore_1 : decode cX3_isMore 1 = .ok (.aload_n 0, 1) := by decide +kernel
theorem dX3_isMore_2 : decode cX3_isMore 2 = .ok (.getfield 9, 3) := by decide +kernel
theorem dX3_isMore_5 : decode cX3_isMore 5 = .ok (.iconst 2, 1) := by decide +kernel
theorem dX3_isMore_6 : decode cX3_isMore 6 = .ok (.idiv, 1) := by decide +kernel
theorem dX3_isMore_7 : decode cX3_isMore 7 = .ok (.if_icmp .le 7, 3) := by decide +kernel
theorem dX3_isMore_10 : decode cX3_isMore 10 = .ok (.iconst 1, 1) := by decide +kernel
theorem dX3_isMore_11 : decode cX3_isMore 11 = .ok (.goto 4, 3) := by decide +kernel
theorem dX3_isMore_14 : decode cX3_isMore 14 = .ok (.iconst 0, 1) := by decide +kernel
theorem dX3_isMore_15 : decode cX3_isMore 15 = .ok (.ireturn, 1) := by decide +kernel
theorem dX3_isUp_0 : decode cX3_isUp 0 = .ok (.aload_n 0, 1) := by decide +kernel
theorem dX3_isUp_1 : decode cX3_isUp 1 = .ok (.getfield 34, 3) := by decide +kernel
theorem dX3_isUp_4 : decode cX3_isUp 4 = .ok (.iload_n 1, 1) := by decide +kernel
theorem dX3_isUp_5 : decode cX3_isUp 5 = .ok (.iaload, 1) := by decide +kernel
theorem dX3_isUp_6 : decode cX3_isUp 6 = .ok (.iconst 1, 1) := by decide +kernel
theorem dX3_isUp_7 : decode cX3_isUp 7 = .ok (.if_icmp .ne 17, 3) := by decide +kernel
theorem dX3_isUp_10 : decode cX3_isUp 10 = .ok (.aload_n 0, 1) := by decide +kernel
theorem dX3_isUp_11 : decode cX3_isUp 11 = .ok (.getfield 28, 3) := by decide +kernel
theorem dX3_isUp_14 : decode cX3_isUp 14 = .ok (.iload_n 1, 1) := by decide +kernel
theorem dX3_isUp_15 : decode cX3_isUp 15 = .ok (.iaload, 1) := by decide +kernel
theorem dX3_isUp_16 : decode cX3_isUp 16 = .ok (.iload_n 2, 1) := by decide +kernel
theorem dX3_isUp_17 : decode cX3_isUp 17 = .ok (.if_icmp .ne 7, 3) := by decide +kernel
theorem dX3_isUp_20 : decode cX3_isUp 20 = .ok (.iconst 1, 1) := by decide +kernel
theorem dX3_isUp_21 : decode cX3_isUp 21 = .ok (.goto 4, 3) := by decide +kernel
theorem dX3_isUp_24 : decode cX3_isUp 24 = .ok (.iconst 0, 1) := by decide +kernel
theorem dX3_isUp_25 : decode cX3_isUp 25 = .ok (.ireturn, 1) := by decide +kernel
theorem dX3_hear_0 : decode cX3_hear 0 = .ok (.iload_n 1, 1) := by decide +kernel
theorem dX3_hear_1 : decode cX3_hear 1 = .ok (.iload_n 2, 1) := by decide +kernel
theorem dX3_hear_2 : decode cX3_hear 2 = .ok (.if_icmp .eq 42, 3) := by decide +kernel
theorem dX3_hear_5 : decode cX3_hear 5 = .ok (.aload_n 0, 1) := by decide +kernel
theorem dX3_hear_6 : decode cX3_hear 6 = .ok (.getfield 34, 3) := by decide +kernel
theorem dX3_hear_9 : decode cX3_hear 9 = .ok (.iload_n 1, 1) := by decide +kernel
theorem dX3_hear_10 : decode cX3_hear 10 = .ok (.iaload, 1) := by decide +kernel
theorem dX3_hear_11 : decode cX3_hear 11 = .ok (.iconst 1, 1) := by decide +kernel
theorem dX3_hear_12 : decode cX3_hear 12 = .ok (.if_icmp .ne 32, 3) := by decide +kernel
theorem dX3_hear_15 : decode cX3_hear 15 = .ok (.aload_n 0, 1) := by decide +kernel
theorem dX3_hear_16 : decode cX3_hear 16 = .ok (.getfield 34, 3) := by decide +kernel
theorem dX3_hear_19 : decode cX3_hear 19 = .ok (.iload_n 2, 1) := by decide +kernel
theorem dX3_hear_20 : decode cX3_hear 20 = .ok (.iaload, 1) := by decide +kernel
theorem dX3_hear_21 : decode cX3_hear 21 = .ok (.iconst 1, 1) := by decide +kernel
theorem dX3_hear_22 : decode cX3_hear 22 = .ok (.if_icmp .ne 22, 3) := by decide +kernel
theorem dX3_hear_25 : decode cX3_hear 25 = .ok (.aload_n 0, 1) := by decide +kernel
theorem dX3_hear_26 : decode cX3_hear 26 = .ok (.getfield 31, 3) := by decide +kernel
theorem dX3_hear_29 : decode cX3_hear 29 = .ok (.iload_n 1, 1) := by decide +kernel
theorem dX3_hear_30 : decode cX3_hear 30 = .ok (.iaload, 1) := by decide +kernel
theorem dX3_hear_31 : decode cX3_hear 31 = .ok (.aload_n 0, 1) := by decide +kernel
theorem dX3_hear_32 : decode cX3_hear 32 = .ok (.getfield 31, 3) := by decide +kernel
theorem dX3_hear_35 : decode cX3_hear 35 = .ok (.iload_n 2, 1) := by decide +kernel
theorem dX3_hear_36 : decode cX3_hear 36 = .ok (.iaload, 1) := by decide +kernel
theorem dX3_hear_37 : decode cX3_hear 37 = .ok (.if_icmp .ne 7, 3) := by decide +kernel
theorem dX3_hear_40 : decode cX3_hear 40 = .ok (.iconst 1, 1) := by decide +kernel
theorem dX3_hear_41 : decode cX3_hear 41 = .ok (.goto 4, 3) := by decide +kernel
theorem dX3_hear_44 : decode cX3_hear 44 = .ok (.iconst 0, 1) := by decide +kernel
theorem dX3_hear_45 : decode cX3_hear 45 = .ok (.ireturn, 1) := by decide +kernel
theorem dX3_agree_0 : decode cX3_agree 0 = .ok (.iconst 0, 1) := by decide +kernel
theorem dX3_agree_1 : decode cX3_agree 1 = .ok (.istore_n 3, 1) := by decide +kernel
theorem dX3_agree_2 : decode cX3_agree 2 = .ok (.iload_n 3, 1) := by decide +kernel
theorem dX3_agree_3 : decode cX3_agree 3 = .ok (.aload_n 0, 1) := by decide +kernel
theorem dX3_agree_4 : decode cX3_agree 4 = .ok (.getfield 37, 3) := by decide +kernel
theorem dX3_agree_7 : decode cX3_agree 7 = .ok (.iload_n 1, 1) := by decide +kernel
theorem dX3_agree_8 : decode cX3_agree 8 = .ok (.iaload, 1) := by decide +kernel
theorem dX3_agree_9 : decode cX3_agree 9 = .ok (.if_icmp .ge 69, 3) := by decide +kernel
theorem dX3_agree_12 : decode cX3_agree 12 = .ok (.iload_n 3, 1) := by decide +kernel
theorem dX3_agree_13 : decode cX3_agree 13 = .ok (.aload_n 0, 1) := by decide +kernel
theorem dX3_agree_14 : decode cX3_agree 14 = .ok (.getfield 37, 3) := by decide +kernel
theorem dX3_agree_17 : decode cX3_agree 17 = .ok (.iload_n 2, 1) := by decide +kernel
theorem dX3_agree_18 : decode cX3_agree 18 = .ok (.iaload, 1) := by decide +kernel
theorem dX3_agree_19 : decode cX3_agree 19 = .ok (.if_icmp .ge 59, 3) := by decide +kernel
theorem dX3_agree_22 : decode cX3_agree 22 = .ok (.aload_n 0, 1) := by decide +kernel
theorem dX3_agree_23 : decode cX3_agree 23 = .ok (.getfield 43, 3) := by decide +kernel
theorem dX3_agree_26 : decode cX3_agree 26 = .ok (.bipush 10, 2) := by decide +kernel
theorem dX3_agree_28 : decode cX3_agree 28 = .ok (.iload_n 1, 1) := by decide +kernel
theorem dX3_agree_29 : decode cX3_agree 29 = .ok (.imul, 1) := by decide +kernel
theorem dX3_agree_30 : decode cX3_agree 30 = .ok (.iload_n 3, 1) := by decide +kernel
theorem dX3_agree_31 : decode cX3_agree 31 = .ok (.iadd, 1) := by decide +kernel
theorem dX3_agree_32 : decode cX3_agree 32 = .ok (.iaload, 1) := by decide +kernel
theorem dX3_agree_33 : decode cX3_agree 33 = .ok (.aload_n 0, 1) := by decide +kernel
theorem dX3_agree_34 : decode cX3_agree 34 = .ok (.getfield 43, 3) := by decide +kernel
theorem dX3_agree_37 : decode cX3_agree 37 = .ok (.bipush 10, 2) := by decide +kernel
theorem dX3_agree_39 : decode cX3_agree 39 = .ok (.iload_n 2, 1) := by decide +kernel
theorem dX3_agree_40 : decode cX3_agree 40 = .ok (.imul, 1) := by decide +kernel
theorem dX3_agree_41 : decode cX3_agree 41 = .ok (.iload_n 3, 1) := by decide +kernel
theorem dX3_agree_42 : decode cX3_agree 42 = .ok (.iadd, 1) := by decide +kernel
theorem dX3_agree_43 : decode cX3_agree 43 = .ok (.iaload, 1) := by decide +kernel
theorem dX3_agree_44 : decode cX3_agree 44 = .ok (.if_icmp .ne 34, 3) := by decide +kernel
theorem dX3_agree_47 : decode cX3_agree 47 = .ok (.aload_n 0, 1) := by decide +kernel
theorem dX3_agree_48 : decode cX3_agree 48 = .ok (.getfield 46, 3) := by decide +kernel
theorem dX3_agree_51 : decode cX3_agree 51 = .ok (.bipush 10, 2) := by decide +kernel
theorem dX3_agree_53 : decode cX3_agree 53 = .ok (.iload_n 1, 1) := by decide +kernel
theorem dX3_agree_54 : decode cX3_agree 54 = .ok (.imul, 1) := by decide +kernel
theorem dX3_agree_55 : decode cX3_agree 55 = .ok (.iload_n 3, 1) := by decide +kernel
theorem dX3_agree_56 : decode cX3_agree 56 = .ok (.iadd, 1) := by decide +kernel
theorem dX3_agree_57 : decode cX3_agree 57 = .ok (.iaload, 1) := by decide +kernel
theorem dX3_agree_58 : decode cX3_agree 58 = .ok (.aload_n 0, 1) := by decide +kernel
theorem dX3_agree_59 : decode cX3_agree 59 = .ok (.getfield 46, 3) := by decide +kernel
theorem dX3_agree_62 : decode cX3_agree 62 = .ok (.bipush 10, 2) := by decide +kernel
theorem dX3_agree_64 : decode cX3_agree 64 = .ok (.iload_n 2, 1) := by decide +kernel
theorem dX3_agree_65 : decode cX3_agree 65 = .ok (.imul, 1) := by decide +kernel
theorem dX3_agree_66 : decode cX3_agree 66 = .ok (.iload_n 3, 1) := by decide +kernel
theorem dX3_agree_67 : decode cX3_agree 67 = .ok (.iadd, 1) := by decide +kernel
theorem dX3_agree_68 : decode cX3_agree 68 = .ok (.iaload, 1) := by decide +kernel
theorem dX3_agree_69 : decode cX3_agree 69 = .ok (.if_icmp .ne 9, 3) := by decide +kernel
theorem dX3_agree_72 : decode cX3_agree 72 = .ok (.iinc 3 1, 3) := by decide +kernel
theorem dX3_agree_75 : decode cX3_agree 75 = .ok (.goto (-73), 3) := by decide +kernel
theorem dX3_agree_78 : decode cX3_agree 78 = .ok (.iload_n 3, 1) := by decide +kernel
theorem dX3_agree_79 : decode cX3_agree 79 = .ok (.ireturn, 1) := by decide +kernel
theorem dX3_lastTerm_0 : decode cX3_lastTerm 0 = .ok (.aload_n 0, 1) := by decide +kernel
theorem dX3_lastTerm_1 : decode cX3_lastTerm 1 = .ok (.getfield 37, 3) := by decide +kernel
theorem dX3_lastTerm_4 : decode cX3_lastTerm 4 = .ok (.iload_n 1, 1) := by decide +kernel
theorem dX3_lastTerm_5 : decode cX3_lastTerm 5 = .ok (.iaload, 1) := by decide +kernel
theorem dX3_lastTerm_6 : decode cX3_lastTerm 6 = .ok (.ifCond .ne 7, 3) := by decide +kernel
theorem dX3_lastTerm_9 : decode cX3_lastTerm 9 = .ok (.iconst (-1), 1) := by decide +kernel
theorem dX3_lastTerm_10 : decode cX3_lastTerm 10 = .ok (.goto 21, 3) := by decide +kernel
theorem dX3_lastTerm_13 : decode cX3_lastTerm 13 = .ok (.aload_n 0, 1) := by decide +kernel
theorem dX3_lastTerm_14 : decode cX3_lastTerm 14 = .ok (.getfield 43, 3) := by decide +kernel
theorem dX3_lastTerm_17 : decode cX3_lastTerm 17 = .ok (.bipush 10, 2) := by decide +kernel
theorem dX3_lastTerm_19 : decode cX3_lastTerm 19 = .ok (.iload_n 1, 1) := by decide +kernel
theorem dX3_lastTerm_20 : decode cX3_lastTerm 20 = .ok (.imul, 1) := by decide +kernel
theorem dX3_lastTerm_21 : decode cX3_lastTerm 21 = .ok (.aload_n 0, 1) := by decide +kernel
theorem dX3_lastTerm_22 : decode cX3_lastTerm 22 = .ok (.getfield 37, 3) := by decide +kernel
theorem dX3_lastTerm_25 : decode cX3_lastTerm 25 = .ok (.iload_n 1, 1) := by decide +kernel
theorem dX3_lastTerm_26 : decode cX3_lastTerm 26 = .ok (.iaload, 1) := by decide +kernel
theorem dX3_lastTerm_27 : decode cX3_lastTerm 27 = .ok (.iadd, 1) := by decide +kernel
theorem dX3_lastTerm_28 : decode cX3_lastTerm 28 = .ok (.iconst 1, 1) := by decide +kernel
theorem dX3_lastTerm_29 : decode cX3_lastTerm 29 = .ok (.isub, 1) := by decide +kernel
theorem dX3_lastTerm_30 : decode cX3_lastTerm 30 = .ok (.iaload, 1) := by decide +kernel
theorem dX3_lastTerm_31 : decode cX3_lastTerm 31 = .ok (.ireturn, 1) := by decide +kernel
theorem dX3_isAsNew_0 : decode cX3_isAsNew 0 = .ok (.aload_n 0, 1) := by decide +kernel
theorem dX3_isAsNew_1 : decode cX3_isAsNew 1 = .ok (.iload_n 1, 1) := by decide +kernel
theorem dX3_isAsNew_2 : decode cX3_isAsNew 2 = .ok (.invokevirtual 75, 3) := by decide +kernel
theorem dX3_isAsNew_5 : decode cX3_isAsNew 5 = .ok (.aload_n 0, 1) := by decide +kernel
theorem dX3_isAsNew_6 : decode cX3_isAsNew 6 = .ok (.iload_n 2, 1) := by decide +kernel
theorem dX3_isAsNew_7 : decode cX3_isAsNew 7 = .ok (.invokevirtual 75, 3) := by decide +kernel
theorem dX3_isAsNew_10 : decode cX3_isAsNew 10 = .ok (.if_icmp .eq 24, 3) := by decide +kernel
theorem dX3_isAsNew_13 : decode cX3_isAsNew 13 = .ok (.aload_n 0, 1) := by decide +kernel
theorem dX3_isAsNew_14 : decode cX3_isAsNew 14 = .ok (.iload_n 1, 1) := by decide +kernel
theorem dX3_isAsNew_15 : decode cX3_isAsNew 15 = .ok (.invokevirtual 75, 3) := by decide +kernel
theorem dX3_isAsNew_18 : decode cX3_isAsNew 18 = .ok (.aload_n 0, 1) := by decide +kernel
theorem dX3_isAsNew_19 : decode cX3_isAsNew 19 = .ok (.iload_n 2, 1) := by decide +kernel
theorem dX3_isAsNew_20 : decode cX3_isAsNew 20 = .ok (.invokevirtual 75, 3) := by decide +kernel
theorem dX3_isAsNew_23 : decode cX3_isAsNew 23 = .ok (.if_icmp .le 7, 3) := by decide +kernel
theorem dX3_isAsNew_26 : decode cX3_isAsNew 26 = .ok (.iconst 1, 1) := by decide +kernel
theorem dX3_isAsNew_27 : decode cX3_isAsNew 27 = .ok (.goto 27, 3) := by decide +kernel
theorem dX3_isAsNew_30 : decode cX3_isAsNew 30 = .ok (.iconst 0, 1) := by decide +kernel
theorem dX3_isAsNew_31 : decode cX3_isAsNew 31 = .ok (.goto 23, 3) := by decide +kernel
theorem dX3_isAsNew_34 : decode cX3_isAsNew 34 = .ok (.aload_n 0, 1) := by decide +kernel
theorem dX3_isAsNew_35 : decode cX3_isAsNew 35 = .ok (.getfield 37, 3) := by decide +kernel
theorem dX3_isAsNew_38 : decode cX3_isAsNew 38 = .ok (.iload_n 1, 1) := by decide +kernel
theorem dX3_isAsNew_39 : decode cX3_isAsNew 39 = .ok (.iaload, 1) := by decide +kernel
theorem dX3_isAsNew_40 : decode cX3_isAsNew 40 = .ok (.aload_n 0, 1) := by decide +kernel
theorem dX3_isAsNew_41 : decode cX3_isAsNew 41 = .ok (.getfield 37, 3) := by decide +kernel
theorem dX3_isAsNew_44 : decode cX3_isAsNew 44 = .ok (.iload_n 2, 1) := by decide +kernel
theorem dX3_isAsNew_45 : decode cX3_isAsNew 45 = .ok (.iaload, 1) := by decide +kernel
theorem dX3_isAsNew_46 : decode cX3_isAsNew 46 = .ok (.if_icmp .lt 7, 3) := by decide +kernel
theorem dX3_isAsNew_49 : decode cX3_isAsNew 49 = .ok (.iconst 1, 1) := by decide +kernel
theorem dX3_isAsNew_50 : decode cX3_isAsNew 50 = .ok (.goto 4, 3) := by decide +kernel
theorem dX3_isAsNew_53 : decode cX3_isAsNew 53 = .ok (.iconst 0, 1) := by decide +kernel
theorem dX3_isAsNew_54 : decode cX3_isAsNew 54 = .ok (.ireturn, 1) := by decide +kernel
theorem dX3_add_0 : decode cX3_add 0 = .ok (.aload_n 0, 1) := by decide +kernel
theorem dX3_add_1 : decode cX3_add 1 = .ok (.getfield 43, 3) := by decide +kernel
theorem dX3_add_4 : decode cX3_add 4 = .ok (.bipush 10, 2) := by decide +kernel
theorem dX3_add_6 : decode cX3_add 6 = .ok (.iload_n 1, 1) := by decide +kernel
theorem dX3_add_7 : decode cX3_add 7 = .ok (.imul, 1) := by decide +kernel
theorem dX3_add_8 : decode cX3_add 8 = .ok (.aload_n 0, 1) := by decide +kernel
theorem dX3_add_9 : decode cX3_add 9 = .ok (.getfield 37, 3) := by decide +kernel
theorem dX3_add_12 : decode cX3_add 12 = .ok (.iload_n 1, 1) := by decide +kernel
theorem dX3_add_13 : decode cX3_add 13 = .ok (.iaload, 1) := by decide +kernel
theorem dX3_add_14 : decode cX3_add 14 = .ok (.iadd, 1) := by decide +kernel
theorem dX3_add_15 : decode cX3_add 15 = .ok (.iload_n 2, 1) := by decide +kernel
theorem dX3_add_16 : decode cX3_add 16 = .ok (.iastore, 1) := by decide +kernel
theorem dX3_add_17 : decode cX3_add 17 = .ok (.aload_n 0, 1) := by decide +kernel
theorem dX3_add_18 : decode cX3_add 18 = .ok (.getfield 46, 3) := by decide +kernel
theorem dX3_add_21 : decode cX3_add 21 = .ok (.bipush 10, 2) := by decide +kernel
theorem dX3_add_23 : decode cX3_add 23 = .ok (.iload_n 1, 1) := by decide +kernel
theorem dX3_add_24 : decode cX3_add 24 = .ok (.imul, 1) := by decide +kernel
theorem dX3_add_25 : decode cX3_add 25 = .ok (.aload_n 0, 1) := by decide +kernel
theorem dX3_add_26 : decode cX3_add 26 = .ok (.getfield 37, 3) := by decide +kernel
theorem dX3_add_29 : decode cX3_add 29 = .ok (.iload_n 1, 1) := by decide +kernel
theorem dX3_add_30 : decode cX3_add 30 = .ok (.iaload, 1) := by decide +kernel
theorem dX3_add_31 : decode cX3_add 31 = .ok (.iadd, 1) := by decide +kernel
theorem dX3_add_32 : decode cX3_add 32 = .ok (.iload_n 3, 1) := by decide +kernel
theorem dX3_add_33 : decode cX3_add 33 = .ok (.iastore, 1) := by decide +kernel
theorem dX3_add_34 : decode cX3_add 34 = .ok (.aload_n 0, 1) := by decide +kernel
theorem dX3_add_35 : decode cX3_add 35 = .ok (.getfield 37, 3) := by decide +kernel
theorem dX3_add_38 : decode cX3_add 38 = .ok (.iload_n 1, 1) := by decide +kernel
theorem dX3_add_39 : decode cX3_add 39 = .ok (.dup2, 1) := by decide +kernel
theorem dX3_add_40 : decode cX3_add 40 = .ok (.iaload, 1) := by decide +kernel
theorem dX3_add_41 : decode cX3_add 41 = .ok (.iconst 1, 1) := by decide +kernel
theorem dX3_add_42 : decode cX3_add 42 = .ok (.iadd, 1) := by decide +kernel
theorem dX3_add_43 : decode cX3_add 43 = .ok (.iastore, 1) := by decide +kernel
theorem dX3_add_44 : decode cX3_add 44 = .ok (.return_, 1) := by decide +kernel
theorem dX3_hearOf_0 : decode cX3_hearOf 0 = .ok (.iload_n 2, 1) := by decide +kernel
theorem dX3_hearOf_1 : decode cX3_hearOf 1 = .ok (.aload_n 0, 1) := by decide +kernel
theorem dX3_hearOf_2 : decode cX3_hearOf 2 = .ok (.getfield 22, 3) := by decide +kernel
theorem dX3_hearOf_5 : decode cX3_hearOf 5 = .ok (.iload_n 1, 1) := by decide +kernel
theorem dX3_hearOf_6 : decode cX3_hearOf 6 = .ok (.iaload, 1) := by decide +kernel
theorem dX3_hearOf_7 : decode cX3_hearOf 7 = .ok (.if_icmp .gt 4, 3) := by decide +kernel
theorem dX3_hearOf_10 : decode cX3_hearOf 10 = .ok (.return_, 1) := by decide +kernel
theorem dX3_hearOf_11 : decode cX3_hearOf 11 = .ok (.aload_n 0, 1) := by decide +kernel
theorem dX3_hearOf_12 : decode cX3_hearOf 12 = .ok (.getfield 22, 3) := by decide +kernel
theorem dX3_hearOf_15 : decode cX3_hearOf 15 = .ok (.iload_n 1, 1) := by decide +kernel
theorem dX3_hearOf_16 : decode cX3_hearOf 16 = .ok (.iload_n 2, 1) := by decide +kernel
theorem dX3_hearOf_17 : decode cX3_hearOf 17 = .ok (.iastore, 1) := by decide +kernel
theorem dX3_hearOf_18 : decode cX3_hearOf 18 = .ok (.aload_n 0, 1) := by decide +kernel
theorem dX3_hearOf_19 : decode cX3_hearOf 19 = .ok (.getfield 25, 3) := by decide +kernel
theorem dX3_hearOf_22 : decode cX3_hearOf 22 = .ok (.iload_n 1, 1) := by decide +kernel
theorem dX3_hearOf_23 : decode cX3_hearOf 23 = .ok (.iconst (-1), 1) := by decide +kernel
theorem dX3_hearOf_24 : decode cX3_hearOf 24 = .ok (.iastore, 1) := by decide +kernel
theorem dX3_hearOf_25 : decode cX3_hearOf 25 = .ok (.aload_n 0, 1) := by decide +kernel
theorem dX3_hearOf_26 : decode cX3_hearOf 26 = .ok (.getfield 28, 3) := by decide +kernel
theorem dX3_hearOf_29 : decode cX3_hearOf 29 = .ok (.iload_n 1, 1) := by decide +kernel
theorem dX3_hearOf_30 : decode cX3_hearOf 30 = .ok (.iconst 0, 1) := by decide +kernel
theorem dX3_hearOf_31 : decode cX3_hearOf 31 = .ok (.iastore, 1) := by decide +kernel
theorem dX3_hearOf_32 : decode cX3_hearOf 32 = .ok (.return_, 1) := by decide +kernel
theorem dX3_stand_0 : decode cX3_stand 0 = .ok (.aload_n 0, 1) := by decide +kernel
theorem dX3_stand_1 : decode cX3_stand 1 = .ok (.dup, 1) := by decide +kernel
theorem dX3_stand_2 : decode cX3_stand 2 = .ok (.getfield 56, 3) := by decide +kernel
theorem dX3_stand_5 : decode cX3_stand 5 = .ok (.iconst 1, 1) := by decide +kernel
theorem dX3_stand_6 : decode cX3_stand 6 = .ok (.iadd, 1) := by decide +kernel
theorem dX3_stand_7 : decode cX3_stand 7 = .ok (.putfield 56, 3) := by decide +kernel
theorem dX3_stand_10 : decode cX3_stand 10 = .ok (.aload_n 0, 1) := by decide +kernel
theorem dX3_stand_11 : decode cX3_stand 11 = .ok (.getfield 22, 3) := by decide +kernel
theorem dX3_stand_14 : decode cX3_stand 14 = .ok (.iload_n 1, 1) := by decide +kernel
theorem dX3_stand_15 : decode cX3_stand 15 = .ok (.dup2, 1) := by decide +kernel
theorem dX3_stand_16 : decode cX3_stand 16 = .ok (.iaload, 1) := by decide +kernel
theorem dX3_stand_17 : decode cX3_stand 17 = .ok (.iconst 1, 1) := by decide +kernel
theorem dX3_stand_18 : decode cX3_stand 18 = .ok (.iadd, 1) := by decide +kernel
theorem dX3_stand_19 : decode cX3_stand 19 = .ok (.iastore, 1) := by decide +kernel
theorem dX3_stand_20 : decode cX3_stand 20 = .ok (.aload_n 0, 1) := by decide +kernel
theorem dX3_stand_21 : decode cX3_stand 21 = .ok (.getfield 28, 3) := by decide +kernel
theorem dX3_stand_24 : decode cX3_stand 24 = .ok (.iload_n 1, 1) := by decide +kernel
theorem dX3_stand_25 : decode cX3_stand 25 = .ok (.iconst 1, 1) := by decide +kernel
theorem dX3_stand_26 : decode cX3_stand 26 = .ok (.iastore, 1) := by decide +kernel
theorem dX3_stand_27 : decode cX3_stand 27 = .ok (.aload_n 0, 1) := by decide +kernel
theorem dX3_stand_28 : decode cX3_stand 28 = .ok (.getfield 25, 3) := by decide +kernel
theorem dX3_stand_31 : decode cX3_stand 31 = .ok (.iload_n 1, 1) := by decide +kernel
theorem dX3_stand_32 : decode cX3_stand 32 = .ok (.iload_n 1, 1) := by decide +kernel
theorem dX3_stand_33 : decode cX3_stand 33 = .ok (.iastore, 1) := by decide +kernel
theorem dX3_stand_34 : decode cX3_stand 34 = .ok (.aload_n 0, 1) := by decide +kernel
theorem dX3_stand_35 : decode cX3_stand 35 = .ok (.getfield 19, 3) := by decide +kernel
theorem dX3_stand_38 : decode cX3_stand 38 = .ok (.iload_n 1, 1) := by decide +kernel
theorem dX3_stand_39 : decode cX3_stand 39 = .ok (.aload_n 0, 1) := by decide +kernel
theorem dX3_stand_40 : decode cX3_stand 40 = .ok (.getfield 15, 3) := by decide +kernel
theorem dX3_stand_43 : decode cX3_stand 43 = .ok (.iload_n 1, 1) := by decide +kernel
theorem dX3_stand_44 : decode cX3_stand 44 = .ok (.iaload, 1) := by decide +kernel
theorem dX3_stand_45 : decode cX3_stand 45 = .ok (.iastore, 1) := by decide +kernel
theorem dX3_stand_46 : decode cX3_stand 46 = .ok (.iconst 1, 1) := by decide +kernel
theorem dX3_stand_47 : decode cX3_stand 47 = .ok (.istore_n 2, 1) := by decide +kernel
theorem dX3_stand_48 : decode cX3_stand 48 = .ok (.iconst 0, 1) := by decide +kernel
theorem dX3_stand_49 : decode cX3_stand 49 = .ok (.istore_n 3, 1) := by decide +kernel
theorem dX3_stand_50 : decode cX3_stand 50 = .ok (.iload_n 3, 1) := by decide +kernel
theorem dX3_stand_51 : decode cX3_stand 51 = .ok (.aload_n 0, 1) := by decide +kernel
theorem dX3_stand_52 : decode cX3_stand 52 = .ok (.getfield 9, 3) := by decide +kernel
theorem dX3_stand_55 : decode cX3_stand 55 = .ok (.if_icmp .ge 113, 3) := by decide +kernel
theorem dX3_stand_58 : decode cX3_stand 58 = .ok (.aload_n 0, 1) := by decide +kernel
theorem dX3_stand_59 : decode cX3_stand 59 = .ok (.iload_n 1, 1) := by decide +kernel
theorem dX3_stand_60 : decode cX3_stand 60 = .ok (.iload_n 3, 1) := by decide +kernel
theorem dX3_stand_61 : decode cX3_stand 61 = .ok (.invokevirtual 79, 3) := by decide +kernel
theorem dX3_stand_64 : decode cX3_stand 64 = .ok (.ifCond .ne 6, 3) := by decide +kernel
theorem dX3_stand_67 : decode cX3_stand 67 = .ok (.goto 95, 3) := by decide +kernel
theorem dX3_stand_70 : decode cX3_stand 70 = .ok (.aload_n 0, 1) := by decide +kernel
theorem dX3_stand_71 : decode cX3_stand 71 = .ok (.getfield 22, 3) := by decide +kernel
theorem dX3_stand_74 : decode cX3_stand 74 = .ok (.iload_n 3, 1) := by decide +kernel
theorem dX3_stand_75 : decode cX3_stand 75 = .ok (.iaload, 1) := by decide +kernel
theorem dX3_stand_76 : decode cX3_stand 76 = .ok (.aload_n 0, 1) := by decide +kernel
theorem dX3_stand_77 : decode cX3_stand 77 = .ok (.getfield 22, 3) := by decide +kernel
theorem dX3_stand_80 : decode cX3_stand 80 = .ok (.iload_n 1, 1) := by decide +kernel
theorem dX3_stand_81 : decode cX3_stand 81 = .ok (.iaload, 1) := by decide +kernel
theorem dX3_stand_82 : decode cX3_stand 82 = .ok (.if_icmp .le 15, 3) := by decide +kernel
theorem dX3_stand_85 : decode cX3_stand 85 = .ok (.aload_n 0, 1) := by decide +kernel
theorem dX3_stand_86 : decode cX3_stand 86 = .ok (.iload_n 1, 1) := by decide +kernel
theorem dX3_stand_87 : decode cX3_stand 87 = .ok (.aload_n 0, 1) := by decide +kernel
theorem dX3_stand_88 : decode cX3_stand 88 = .ok (.getfield 22, 3) := by decide +kernel
theorem dX3_stand_91 : decode cX3_stand 91 = .ok (.iload_n 3, 1) := by decide +kernel
theorem dX3_stand_92 : decode cX3_stand 92 = .ok (.iaload, 1) := by decide +kernel
theorem dX3_stand_93 : decode cX3_stand 93 = .ok (.invokevirtual 83, 3) := by decide +kernel
theorem dX3_stand_96 : decode cX3_stand 96 = .ok (.return_, 1) := by decide +kernel
theorem dX3_stand_97 : decode cX3_stand 97 = .ok (.aload_n 0, 1) := by decide +kernel
theorem dX3_stand_98 : decode cX3_stand 98 = .ok (.iload_n 3, 1) := by decide +kernel
theorem dX3_stand_99 : decode cX3_stand 99 = .ok (.aload_n 0, 1) := by decide +kernel
theorem dX3_stand_100 : decode cX3_stand 100 = .ok (.getfield 22, 3) := by decide +kernel
theorem dX3_stand_103 : decode cX3_stand 103 = .ok (.iload_n 1, 1) := by decide +kernel
theorem dX3_stand_104 : decode cX3_stand 104 = .ok (.iaload, 1) := by decide +kernel
theorem dX3_stand_105 : decode cX3_stand 105 = .ok (.invokevirtual 83, 3) := by decide +kernel
theorem dX3_stand_108 : decode cX3_stand 108 = .ok (.aload_n 0, 1) := by decide +kernel
theorem dX3_stand_109 : decode cX3_stand 109 = .ok (.getfield 25, 3) := by decide +kernel
theorem dX3_stand_112 : decode cX3_stand 112 = .ok (.iload_n 3, 1) := by decide +kernel
theorem dX3_stand_113 : decode cX3_stand 113 = .ok (.iaload, 1) := by decide +kernel
theorem dX3_stand_114 : decode cX3_stand 114 = .ok (.iconst (-1), 1) := by decide +kernel
theorem dX3_stand_115 : decode cX3_stand 115 = .ok (.if_icmp .eq 13, 3) := by decide +kernel
theorem dX3_stand_118 : decode cX3_stand 118 = .ok (.aload_n 0, 1) := by decide +kernel
theorem dX3_stand_119 : decode cX3_stand 119 = .ok (.getfield 25, 3) := by decide +kernel
theorem dX3_stand_122 : decode cX3_stand 122 = .ok (.iload_n 3, 1) := by decide +kernel
theorem dX3_stand_123 : decode cX3_stand 123 = .ok (.iaload, 1) := by decide +kernel
theorem dX3_stand_124 : decode cX3_stand 124 = .ok (.iload_n 1, 1) := by decide +kernel
theorem dX3_stand_125 : decode cX3_stand 125 = .ok (.if_icmp .ne 37, 3) := by decide +kernel
theorem dX3_stand_128 : decode cX3_stand 128 = .ok (.aload_n 0, 1) := by decide +kernel
theorem dX3_stand_129 : decode cX3_stand 129 = .ok (.iload_n 1, 1) := by decide +kernel
theorem dX3_stand_130 : decode cX3_stand 130 = .ok (.iload_n 3, 1) := by decide +kernel
theorem dX3_stand_131 : decode cX3_stand 131 = .ok (.invokevirtual 87, 3) := by decide +kernel
theorem dX3_stand_134 : decode cX3_stand 134 = .ok (.ifCond .ne 6, 3) := by decide +kernel
theorem dX3_stand_137 : decode cX3_stand 137 = .ok (.goto 25, 3) := by decide +kernel
theorem dX3_stand_140 : decode cX3_stand 140 = .ok (.aload_n 0, 1) := by decide +kernel
theorem dX3_stand_141 : decode cX3_stand 141 = .ok (.getfield 25, 3) := by decide +kernel
theorem dX3_stand_144 : decode cX3_stand 144 = .ok (.iload_n 3, 1) := by decide +kernel
theorem dX3_stand_145 : decode cX3_stand 145 = .ok (.iload_n 1, 1) := by decide +kernel
theorem dX3_stand_146 : decode cX3_stand 146 = .ok (.iastore, 1) := by decide +kernel
theorem dX3_stand_147 : decode cX3_stand 147 = .ok (.aload_n 0, 1) := by decide +kernel
theorem dX3_stand_148 : decode cX3_stand 148 = .ok (.getfield 19, 3) := by decide +kernel
theorem dX3_stand_151 : decode cX3_stand 151 = .ok (.iload_n 3, 1) := by decide +kernel
theorem dX3_stand_152 : decode cX3_stand 152 = .ok (.aload_n 0, 1) := by decide +kernel
theorem dX3_stand_153 : decode cX3_stand 153 = .ok (.getfield 15, 3) := by decide +kernel
theorem dX3_stand_156 : decode cX3_stand 156 = .ok (.iload_n 3, 1) := by decide +kernel
theorem dX3_stand_157 : decode cX3_stand 157 = .ok (.iaload, 1) := by decide +kernel
theorem dX3_stand_158 : decode cX3_stand 158 = .ok (.iastore, 1) := by decide +kernel
theorem dX3_stand_159 : decode cX3_stand 159 = .ok (.iinc 2 1, 3) := by decide +kernel
theorem dX3_stand_162 : decode cX3_stand 162 = .ok (.iinc 3 1, 3) := by decide +kernel
theorem dX3_stand_165 : decode cX3_stand 165 = .ok (.goto (-115), 3) := by decide +kernel
theorem dX3_stand_168 : decode cX3_stand 168 = .ok (.aload_n 0, 1) := by decide +kernel
theorem dX3_stand_169 : decode cX3_stand 169 = .ok (.iload_n 2, 1) := by decide +kernel
theorem dX3_stand_170 : decode cX3_stand 170 = .ok (.invokevirtual 90, 3) := by decide +kernel
theorem dX3_stand_173 : decode cX3_stand 173 = .ok (.ifCond .ne 4, 3) := by decide +kernel
theorem dX3_stand_176 : decode cX3_stand 176 = .ok (.return_, 1) := by decide +kernel
theorem dX3_stand_177 : decode cX3_stand 177 = .ok (.aload_n 0, 1) := by decide +kernel
theorem dX3_stand_178 : decode cX3_stand 178 = .ok (.getfield 28, 3) := by decide +kernel
theorem dX3_stand_181 : decode cX3_stand 181 = .ok (.iload_n 1, 1) := by decide +kernel
theorem dX3_stand_182 : decode cX3_stand 182 = .ok (.iconst 2, 1) := by decide +kernel
theorem dX3_stand_183 : decode cX3_stand 183 = .ok (.iastore, 1) := by decide +kernel
theorem dX3_stand_184 : decode cX3_stand 184 = .ok (.aload_n 0, 1) := by decide +kernel
theorem dX3_stand_185 : decode cX3_stand 185 = .ok (.dup, 1) := by decide +kernel
theorem dX3_stand_186 : decode cX3_stand 186 = .ok (.getfield 59, 3) := by decide +kernel
theorem dX3_stand_189 : decode cX3_stand 189 = .ok (.iconst 1, 1) := by decide +kernel
theorem dX3_stand_190 : decode cX3_stand 190 = .ok (.iadd, 1) := by decide +kernel
theorem dX3_stand_191 : decode cX3_stand 191 = .ok (.putfield 59, 3) := by decide +kernel
theorem dX3_stand_194 : decode cX3_stand 194 = .ok (.return_, 1) := by decide +kernel
theorem dX3_takeFrom_0 : decode cX3_takeFrom 0 = .ok (.aload_n 0, 1) := by decide +kernel
theorem dX3_takeFrom_1 : decode cX3_takeFrom 1 = .ok (.iload_n 1, 1) := by decide +kernel
theorem dX3_takeFrom_2 : decode cX3_takeFrom 2 = .ok (.aload_n 0, 1) := by decide +kernel
theorem dX3_takeFrom_3 : decode cX3_takeFrom 3 = .ok (.getfield 22, 3) := by decide +kernel
theorem dX3_takeFrom_6 : decode cX3_takeFrom 6 = .ok (.iload_n 2, 1) := by decide +kernel
theorem dX3_takeFrom_7 : decode cX3_takeFrom 7 = .ok (.iaload, 1) := by decide +kernel
theorem dX3_takeFrom_8 : decode cX3_takeFrom 8 = .ok (.invokevirtual 83, 3) := by decide +kernel
theorem dX3_takeFrom_11 : decode cX3_takeFrom 11 = .ok (.aload_n 0, 1) := by decide +kernel
theorem dX3_takeFrom_12 : decode cX3_takeFrom 12 = .ok (.getfield 28, 3) := by decide +kernel
theorem dX3_takeFrom_15 : decode cX3_takeFrom 15 = .ok (.iload_n 1, 1) := by decide +kernel
theorem dX3_takeFrom_16 : decode cX3_takeFrom 16 = .ok (.iconst 0, 1) := by decide +kernel
theorem dX3_takeFrom_17 : decode cX3_takeFrom 17 = .ok (.iastore, 1) := by decide +kernel
theorem dX3_takeFrom_18 : decode cX3_takeFrom 18 = .ok (.aload_n 0, 1) := by decide +kernel
theorem dX3_takeFrom_19 : decode cX3_takeFrom 19 = .ok (.getfield 19, 3) := by decide +kernel
theorem dX3_takeFrom_22 : decode cX3_takeFrom 22 = .ok (.iload_n 1, 1) := by decide +kernel
theorem dX3_takeFrom_23 : decode cX3_takeFrom 23 = .ok (.aload_n 0, 1) := by decide +kernel
theorem dX3_takeFrom_24 : decode cX3_takeFrom 24 = .ok (.getfield 15, 3) := by decide +kernel
theorem dX3_takeFrom_27 : decode cX3_takeFrom 27 = .ok (.iload_n 1, 1) := by decide +kernel
theorem dX3_takeFrom_28 : decode cX3_takeFrom 28 = .ok (.iaload, 1) := by decide +kernel
theorem dX3_takeFrom_29 : decode cX3_takeFrom 29 = .ok (.iastore, 1) := by decide +kernel
theorem dX3_takeFrom_30 : decode cX3_takeFrom 30 = .ok (.aload_n 0, 1) := by decide +kernel
theorem dX3_takeFrom_31 : decode cX3_takeFrom 31 = .ok (.iload_n 2, 1) := by decide +kernel
theorem dX3_takeFrom_32 : decode cX3_takeFrom 32 = .ok (.iload_n 1, 1) := by decide +kernel
theorem dX3_takeFrom_33 : decode cX3_takeFrom 33 = .ok (.invokevirtual 94, 3) := by decide +kernel
theorem dX3_takeFrom_36 : decode cX3_takeFrom 36 = .ok (.istore_n 3, 1) := by decide +kernel
theorem dX3_takeFrom_37 : decode cX3_takeFrom 37 = .ok (.aload_n 0, 1) := by decide +kernel
theorem dX3_takeFrom_38 : decode cX3_takeFrom 38 = .ok (.getfield 37, 3) := by decide +kernel
theorem dX3_takeFrom_41 : decode cX3_takeFrom 41 = .ok (.iload_n 1, 1) := by decide +kernel
theorem dX3_takeFrom_42 : decode cX3_takeFrom 42 = .ok (.iaload, 1) := by decide +kernel
theorem dX3_takeFrom_43 : decode cX3_takeFrom 43 = .ok (.iload_n 3, 1) := by decide +kernel
theorem dX3_takeFrom_44 : decode cX3_takeFrom 44 = .ok (.if_icmp .le 26, 3) := by decide +kernel
theorem dX3_takeFrom_47 : decode cX3_takeFrom 47 = .ok (.aload_n 0, 1) := by decide +kernel
theorem dX3_takeFrom_48 : decode cX3_takeFrom 48 = .ok (.getfield 37, 3) := by decide +kernel
theorem dX3_takeFrom_51 : decode cX3_takeFrom 51 = .ok (.iload_n 1, 1) := by decide +kernel
theorem dX3_takeFrom_52 : decode cX3_takeFrom 52 = .ok (.dup2, 1) := by decide +kernel
theorem dX3_takeFrom_53 : decode cX3_takeFrom 53 = .ok (.iaload, 1) := by decide +kernel
theorem dX3_takeFrom_54 : decode cX3_takeFrom 54 = .ok (.iconst 1, 1) := by decide +kernel
theorem dX3_takeFrom_55 : decode cX3_takeFrom 55 = .ok (.isub, 1) := by decide +kernel
theorem dX3_takeFrom_56 : decode cX3_takeFrom 56 = .ok (.iastore, 1) := by decide +kernel
theorem dX3_takeFrom_57 : decode cX3_takeFrom 57 = .ok (.aload_n 0, 1) := by decide +kernel
theorem dX3_takeFrom_58 : decode cX3_takeFrom 58 = .ok (.dup, 1) := by decide +kernel
theorem dX3_takeFrom_59 : decode cX3_takeFrom 59 = .ok (.getfield 62, 3) := by decide +kernel
theorem dX3_takeFrom_62 : decode cX3_takeFrom 62 = .ok (.iconst 1, 1) := by decide +kernel
theorem dX3_takeFrom_63 : decode cX3_takeFrom 63 = .ok (.iadd, 1) := by decide +kernel
theorem dX3_takeFrom_64 : decode cX3_takeFrom 64 = .ok (.putfield 62, 3) := by decide +kernel
theorem dX3_takeFrom_67 : decode cX3_takeFrom 67 = .ok (.goto 40, 3) := by decide +kernel
theorem dX3_takeFrom_70 : decode cX3_takeFrom 70 = .ok (.aload_n 0, 1) := by decide +kernel
theorem dX3_takeFrom_71 : decode cX3_takeFrom 71 = .ok (.getfield 37, 3) := by decide +kernel
theorem dX3_takeFrom_74 : decode cX3_takeFrom 74 = .ok (.iload_n 2, 1) := by decide +kernel
theorem dX3_takeFrom_75 : decode cX3_takeFrom 75 = .ok (.iaload, 1) := by decide +kernel
theorem dX3_takeFrom_76 : decode cX3_takeFrom 76 = .ok (.iload_n 3, 1) := by decide +kernel
theorem dX3_takeFrom_77 : decode cX3_takeFrom 77 = .ok (.if_icmp .le 30, 3) := by decide +kernel
theorem dX3_takeFrom_80 : decode cX3_takeFrom 80 = .ok (.aload_n 0, 1) := by decide +kernel
theorem dX3_takeFrom_81 : decode cX3_takeFrom 81 = .ok (.iload_n 1, 1) := by decide +kernel
theorem dX3_takeFrom_82 : decode cX3_takeFrom 82 = .ok (.aload_n 0, 1) := by decide +kernel
theorem dX3_takeFrom_83 : decode cX3_takeFrom 83 = .ok (.getfield 43, 3) := by decide +kernel
theorem dX3_takeFrom_86 : decode cX3_takeFrom 86 = .ok (.bipush 10, 2) := by decide +kernel
theorem dX3_takeFrom_88 : decode cX3_takeFrom 88 = .ok (.iload_n 2, 1) := by decide +kernel
theorem dX3_takeFrom_89 : decode cX3_takeFrom 89 = .ok (.imul, 1) := by decide +kernel
theorem dX3_takeFrom_90 : decode cX3_takeFrom 90 = .ok (.iload_n 3, 1) := by decide +kernel
theorem dX3_takeFrom_91 : decode cX3_takeFrom 91 = .ok (.iadd, 1) := by decide +kernel
theorem dX3_takeFrom_92 : decode cX3_takeFrom 92 = .ok (.iaload, 1) := by decide +kernel
theorem dX3_takeFrom_93 : decode cX3_takeFrom 93 = .ok (.aload_n 0, 1) := by decide +kernel
theorem dX3_takeFrom_94 : decode cX3_takeFrom 94 = .ok (.getfield 46, 3) := by decide +kernel
theorem dX3_takeFrom_97 : decode cX3_takeFrom 97 = .ok (.bipush 10, 2) := by decide +kernel
theorem dX3_takeFrom_99 : decode cX3_takeFrom 99 = .ok (.iload_n 2, 1) := by decide +kernel
theorem dX3_takeFrom_100 : decode cX3_takeFrom 100 = .ok (.imul, 1) := by decide +kernel
theorem dX3_takeFrom_101 : decode cX3_takeFrom 101 = .ok (.iload_n 3, 1) := by decide +kernel
theorem dX3_takeFrom_102 : decode cX3_takeFrom 102 = .ok (.iadd, 1) := by decide +kernel
theorem dX3_takeFrom_103 : decode cX3_takeFrom 103 = .ok (.iaload, 1) := by decide +kernel
theorem dX3_takeFrom_104 : decode cX3_takeFrom 104 = .ok (.invokevirtual 98, 3) := by decide +kernel
theorem dX3_takeFrom_107 : decode cX3_takeFrom 107 = .ok (.aload_n 0, 1) := by decide +kernel
theorem dX3_takeFrom_108 : decode cX3_takeFrom 108 = .ok (.getfield 40, 3) := by decide +kernel
theorem dX3_takeFrom_111 : decode cX3_takeFrom 111 = .ok (.iload_n 1, 1) := by decide +kernel
theorem dX3_takeFrom_112 : decode cX3_takeFrom 112 = .ok (.aload_n 0, 1) := by decide +kernel
theorem dX3_takeFrom_113 : decode cX3_takeFrom 113 = .ok (.getfield 40, 3) := by decide +kernel
theorem dX3_takeFrom_116 : decode cX3_takeFrom 116 = .ok (.iload_n 1, 1) := by decide +kernel
theorem dX3_takeFrom_117 : decode cX3_takeFrom 117 = .ok (.iaload, 1) := by decide +kernel
theorem dX3_takeFrom_118 : decode cX3_takeFrom 118 = .ok (.aload_n 0, 1) := by decide +kernel
theorem dX3_takeFrom_119 : decode cX3_takeFrom 119 = .ok (.getfield 40, 3) := by decide +kernel
theorem dX3_takeFrom_122 : decode cX3_takeFrom 122 = .ok (.iload_n 2, 1) := by decide +kernel
theorem dX3_takeFrom_123 : decode cX3_takeFrom 123 = .ok (.iaload, 1) := by decide +kernel
theorem dX3_takeFrom_124 : decode cX3_takeFrom 124 = .ok (.aload_n 0, 1) := by decide +kernel
theorem dX3_takeFrom_125 : decode cX3_takeFrom 125 = .ok (.iload_n 2, 1) := by decide +kernel
theorem dX3_takeFrom_126 : decode cX3_takeFrom 126 = .ok (.iload_n 1, 1) := by decide +kernel
theorem dX3_takeFrom_127 : decode cX3_takeFrom 127 = .ok (.invokevirtual 94, 3) := by decide +kernel
theorem dX3_takeFrom_130 : decode cX3_takeFrom 130 = .ok (.invokestatic 102, 3) := by decide +kernel
theorem dX3_takeFrom_133 : decode cX3_takeFrom 133 = .ok (.invokestatic 107, 3) := by decide +kernel
theorem dX3_takeFrom_136 : decode cX3_takeFrom 136 = .ok (.iastore, 1) := by decide +kernel
theorem dX3_takeFrom_137 : decode cX3_takeFrom 137 = .ok (.return_, 1) := by decide +kernel
theorem dX3_tell_0 : decode cX3_tell 0 = .ok (.iconst 0, 1) := by decide +kernel
theorem dX3_tell_1 : decode cX3_tell 1 = .ok (.istore_n 2, 1) := by decide +kernel
theorem dX3_tell_2 : decode cX3_tell 2 = .ok (.iload_n 2, 1) := by decide +kernel
theorem dX3_tell_3 : decode cX3_tell 3 = .ok (.aload_n 0, 1) := by decide +kernel
theorem dX3_tell_4 : decode cX3_tell 4 = .ok (.getfield 9, 3) := by decide +kernel
theorem dX3_tell_7 : decode cX3_tell 7 = .ok (.if_icmp .ge 54, 3) := by decide +kernel
theorem dX3_tell_10 : decode cX3_tell 10 = .ok (.aload_n 0, 1) := by decide +kernel
theorem dX3_tell_11 : decode cX3_tell 11 = .ok (.iload_n 1, 1) := by decide +kernel
theorem dX3_tell_12 : decode cX3_tell 12 = .ok (.iload_n 2, 1) := by decide +kernel
theorem dX3_tell_13 : decode cX3_tell 13 = .ok (.invokevirtual 79, 3) := by decide +kernel
theorem dX3_tell_16 : decode cX3_tell 16 = .ok (.ifCond .ne 6, 3) := by decide +kernel
theorem dX3_tell_19 : decode cX3_tell 19 = .ok (.goto 36, 3) := by decide +kernel
theorem dX3_tell_22 : decode cX3_tell 22 = .ok (.aload_n 0, 1) := by decide +kernel
theorem dX3_tell_23 : decode cX3_tell 23 = .ok (.getfield 22, 3) := by decide +kernel
theorem dX3_tell_26 : decode cX3_tell 26 = .ok (.iload_n 2, 1) := by decide +kernel
theorem dX3_tell_27 : decode cX3_tell 27 = .ok (.iaload, 1) := by decide +kernel
theorem dX3_tell_28 : decode cX3_tell 28 = .ok (.aload_n 0, 1) := by decide +kernel
theorem dX3_tell_29 : decode cX3_tell 29 = .ok (.getfield 22, 3) := by decide +kernel
theorem dX3_tell_32 : decode cX3_tell 32 = .ok (.iload_n 1, 1) := by decide +kernel
theorem dX3_tell_33 : decode cX3_tell 33 = .ok (.iaload, 1) := by decide +kernel
theorem dX3_tell_34 : decode cX3_tell 34 = .ok (.if_icmp .le 15, 3) := by decide +kernel
theorem dX3_tell_37 : decode cX3_tell 37 = .ok (.aload_n 0, 1) := by decide +kernel
theorem dX3_tell_38 : decode cX3_tell 38 = .ok (.iload_n 1, 1) := by decide +kernel
theorem dX3_tell_39 : decode cX3_tell 39 = .ok (.aload_n 0, 1) := by decide +kernel
theorem dX3_tell_40 : decode cX3_tell 40 = .ok (.getfield 22, 3) := by decide +kernel
theorem dX3_tell_43 : decode cX3_tell 43 = .ok (.iload_n 2, 1) := by decide +kernel
theorem dX3_tell_44 : decode cX3_tell 44 = .ok (.iaload, 1) := by decide +kernel
theorem dX3_tell_45 : decode cX3_tell 45 = .ok (.invokevirtual 83, 3) := by decide +kernel
theorem dX3_tell_48 : decode cX3_tell 48 = .ok (.return_, 1) := by decide +kernel
theorem dX3_tell_49 : decode cX3_tell 49 = .ok (.aload_n 0, 1) := by decide +kernel
theorem dX3_tell_50 : decode cX3_tell 50 = .ok (.iload_n 2, 1) := by decide +kernel
theorem dX3_tell_51 : decode cX3_tell 51 = .ok (.iload_n 1, 1) := by decide +kernel
theorem dX3_tell_52 : decode cX3_tell 52 = .ok (.invokevirtual 110, 3) := by decide +kernel
theorem dX3_tell_55 : decode cX3_tell 55 = .ok (.iinc 2 1, 3) := by decide +kernel
theorem dX3_tell_58 : decode cX3_tell 58 = .ok (.goto (-56), 3) := by decide +kernel
theorem dX3_tell_61 : decode cX3_tell 61 = .ok (.return_, 1) := by decide +kernel
theorem dX3_commit_0 : decode cX3_commit 0 = .ok (.aload_n 0, 1) := by decide +kernel
theorem dX3_commit_1 : decode cX3_commit 1 = .ok (.getfield 37, 3) := by decide +kernel
theorem dX3_commit_4 : decode cX3_commit 4 = .ok (.iload_n 1, 1) := by decide +kernel
theorem dX3_commit_5 : decode cX3_commit 5 = .ok (.iaload, 1) := by decide +kernel
theorem dX3_commit_6 : decode cX3_commit 6 = .ok (.istore_n 2, 1) := by decide +kernel
theorem dX3_commit_7 : decode cX3_commit 7 = .ok (.iload_n 2, 1) := by decide +kernel
theorem dX3_commit_8 : decode cX3_commit 8 = .ok (.aload_n 0, 1) := by decide +kernel
theorem dX3_commit_9 : decode cX3_commit 9 = .ok (.getfield 40, 3) := by decide +kernel
theorem dX3_commit_12 : decode cX3_commit 12 = .ok (.iload_n 1, 1) := by decide +kernel
theorem dX3_commit_13 : decode cX3_commit 13 = .ok (.iaload, 1) := by decide +kernel
theorem dX3_commit_14 : decode cX3_commit 14 = .ok (.if_icmp .le 102, 3) := by decide +kernel
theorem dX3_commit_17 : decode cX3_commit 17 = .ok (.aload_n 0, 1) := by decide +kernel
theorem dX3_commit_18 : decode cX3_commit 18 = .ok (.getfield 43, 3) := by decide +kernel
theorem dX3_commit_21 : decode cX3_commit 21 = .ok (.bipush 10, 2) := by decide +kernel
theorem dX3_commit_23 : decode cX3_commit 23 = .ok (.iload_n 1, 1) := by decide +kernel
theorem dX3_commit_24 : decode cX3_commit 24 = .ok (.imul, 1) := by decide +kernel
theorem dX3_commit_25 : decode cX3_commit 25 = .ok (.iload_n 2, 1) := by decide +kernel
theorem dX3_commit_26 : decode cX3_commit 26 = .ok (.iadd, 1) := by decide +kernel
theorem dX3_commit_27 : decode cX3_commit 27 = .ok (.iconst 1, 1) := by decide +kernel
theorem dX3_commit_28 : decode cX3_commit 28 = .ok (.isub, 1) := by decide +kernel
theorem dX3_commit_29 : decode cX3_commit 29 = .ok (.iaload, 1) := by decide +kernel
theorem dX3_commit_30 : decode cX3_commit 30 = .ok (.aload_n 0, 1) := by decide +kernel
theorem dX3_commit_31 : decode cX3_commit 31 = .ok (.getfield 22, 3) := by decide +kernel
theorem dX3_commit_34 : decode cX3_commit 34 = .ok (.iload_n 1, 1) := by decide +kernel
theorem dX3_commit_35 : decode cX3_commit 35 = .ok (.iaload, 1) := by decide +kernel
theorem dX3_commit_36 : decode cX3_commit 36 = .ok (.if_icmp .eq 6, 3) := by decide +kernel
theorem dX3_commit_39 : decode cX3_commit 39 = .ok (.goto 71, 3) := by decide +kernel
theorem dX3_commit_42 : decode cX3_commit 42 = .ok (.iconst 1, 1) := by decide +kernel
theorem dX3_commit_43 : decode cX3_commit 43 = .ok (.istore_n 3, 1) := by decide +kernel
theorem dX3_commit_44 : decode cX3_commit 44 = .ok (.iconst 0, 1) := by decide +kernel
theorem dX3_commit_45 : decode cX3_commit 45 = .ok (.istore 4, 2) := by decide +kernel
theorem dX3_commit_47 : decode cX3_commit 47 = .ok (.iload 4, 2) := by decide +kernel
theorem dX3_commit_49 : decode cX3_commit 49 = .ok (.aload_n 0, 1) := by decide +kernel
theorem dX3_commit_50 : decode cX3_commit 50 = .ok (.getfield 9, 3) := by decide +kernel
theorem dX3_commit_53 : decode cX3_commit 53 = .ok (.if_icmp .ge 38, 3) := by decide +kernel
theorem dX3_commit_56 : decode cX3_commit 56 = .ok (.iload_n 3, 1) := by decide +kernel
theorem dX3_commit_57 : decode cX3_commit 57 = .ok (.aload_n 0, 1) := by decide +kernel
theorem dX3_commit_58 : decode cX3_commit 58 = .ok (.iload_n 1, 1) := by decide +kernel
theorem dX3_commit_59 : decode cX3_commit 59 = .ok (.iload 4, 2) := by decide +kernel
theorem dX3_commit_61 : decode cX3_commit 61 = .ok (.invokevirtual 79, 3) := by decide +kernel
theorem dX3_commit_64 : decode cX3_commit 64 = .ok (.ifCond .eq 18, 3) := by decide +kernel
theorem dX3_commit_67 : decode cX3_commit 67 = .ok (.aload_n 0, 1) := by decide +kernel
theorem dX3_commit_68 : decode cX3_commit 68 = .ok (.iload_n 1, 1) := by decide +kernel
theorem dX3_commit_69 : decode cX3_commit 69 = .ok (.iload 4, 2) := by decide +kernel
theorem dX3_commit_71 : decode cX3_commit 71 = .ok (.invokevirtual 94, 3) := by decide +kernel
theorem dX3_commit_74 : decode cX3_commit 74 = .ok (.iload_n 2, 1) := by decide +kernel
theorem dX3_commit_75 : decode cX3_commit 75 = .ok (.if_icmp .lt 7, 3) := by decide +kernel
theorem dX3_commit_78 : decode cX3_commit 78 = .ok (.iconst 1, 1) := by decide +kernel
theorem dX3_commit_79 : decode cX3_commit 79 = .ok (.goto 4, 3) := by decide +kernel
theorem dX3_commit_82 : decode cX3_commit 82 = .ok (.iconst 0, 1) := by decide +kernel
theorem dX3_commit_83 : decode cX3_commit 83 = .ok (.iadd, 1) := by decide +kernel
theorem dX3_commit_84 : decode cX3_commit 84 = .ok (.istore_n 3, 1) := by decide +kernel
theorem dX3_commit_85 : decode cX3_commit 85 = .ok (.iinc 4 1, 3) := by decide +kernel
theorem dX3_commit_88 : decode cX3_commit 88 = .ok (.goto (-41), 3) := by decide +kernel
theorem dX3_commit_91 : decode cX3_commit 91 = .ok (.aload_n 0, 1) := by decide +kernel
theorem dX3_commit_92 : decode cX3_commit 92 = .ok (.iload_n 3, 1) := by decide +kernel
theorem dX3_commit_93 : decode cX3_commit 93 = .ok (.invokevirtual 90, 3) := by decide +kernel
theorem dX3_commit_96 : decode cX3_commit 96 = .ok (.ifCond .ne 6, 3) := by decide +kernel
theorem dX3_commit_99 : decode cX3_commit 99 = .ok (.goto 11, 3) := by decide +kernel
theorem dX3_commit_102 : decode cX3_commit 102 = .ok (.aload_n 0, 1) := by decide +kernel
theorem dX3_commit_103 : decode cX3_commit 103 = .ok (.getfield 40, 3) := by decide +kernel
theorem dX3_commit_106 : decode cX3_commit 106 = .ok (.iload_n 1, 1) := by decide +kernel
theorem dX3_commit_107 : decode cX3_commit 107 = .ok (.iload_n 2, 1) := by decide +kernel
theorem dX3_commit_108 : decode cX3_commit 108 = .ok (.iastore, 1) := by decide +kernel
theorem dX3_commit_109 : decode cX3_commit 109 = .ok (.return_, 1) := by decide +kernel
theorem dX3_commit_110 : decode cX3_commit 110 = .ok (.iinc 2 (-1), 3) := by decide +kernel
theorem dX3_commit_113 : decode cX3_commit 113 = .ok (.goto (-106), 3) := by decide +kernel
theorem dX3_commit_116 : decode cX3_commit 116 = .ok (.return_, 1) := by decide +kernel
theorem dX3_pass_0 : decode cX3_pass 0 = .ok (.iconst 0, 1) := by decide +kernel
theorem dX3_pass_1 : decode cX3_pass 1 = .ok (.istore_n 1, 1) := by decide +kernel
theorem dX3_pass_2 : decode cX3_pass 2 = .ok (.iload_n 1, 1) := by decide +kernel
theorem dX3_pass_3 : decode cX3_pass 3 = .ok (.aload_n 0, 1) := by decide +kernel
theorem dX3_pass_4 : decode cX3_pass 4 = .ok (.getfield 9, 3) := by decide +kernel
theorem dX3_pass_7 : decode cX3_pass 7 = .ok (.if_icmp .ge 55, 3) := by decide +kernel
theorem dX3_pass_10 : decode cX3_pass 10 = .ok (.aload_n 0, 1) := by decide +kernel
theorem dX3_pass_11 : decode cX3_pass 11 = .ok (.getfield 34, 3) := by decide +kernel
theorem dX3_pass_14 : decode cX3_pass 14 = .ok (.iload_n 1, 1) := by decide +kernel
theorem dX3_pass_15 : decode cX3_pass 15 = .ok (.iaload, 1) := by decide +kernel
theorem dX3_pass_16 : decode cX3_pass 16 = .ok (.ifCond .eq 40, 3) := by decide +kernel
theorem dX3_pass_19 : decode cX3_pass 19 = .ok (.aload_n 0, 1) := by decide +kernel
theorem dX3_pass_20 : decode cX3_pass 20 = .ok (.getfield 28, 3) := by decide +kernel
theorem dX3_pass_23 : decode cX3_pass 23 = .ok (.iload_n 1, 1) := by decide +kernel
theorem dX3_pass_24 : decode cX3_pass 24 = .ok (.iaload, 1) := by decide +kernel
theorem dX3_pass_25 : decode cX3_pass 25 = .ok (.iconst 2, 1) := by decide +kernel
theorem dX3_pass_26 : decode cX3_pass 26 = .ok (.if_icmp .ne 6, 3) := by decide +kernel
theorem dX3_pass_29 : decode cX3_pass 29 = .ok (.goto 27, 3) := by decide +kernel
theorem dX3_pass_32 : decode cX3_pass 32 = .ok (.aload_n 0, 1) := by decide +kernel
theorem dX3_pass_33 : decode cX3_pass 33 = .ok (.getfield 19, 3) := by decide +kernel
theorem dX3_pass_36 : decode cX3_pass 36 = .ok (.iload_n 1, 1) := by decide +kernel
theorem dX3_pass_37 : decode cX3_pass 37 = .ok (.dup2, 1) := by decide +kernel
theorem dX3_pass_38 : decode cX3_pass 38 = .ok (.iaload, 1) := by decide +kernel
theorem dX3_pass_39 : decode cX3_pass 39 = .ok (.iconst 1, 1) := by decide +kernel
theorem dX3_pass_40 : decode cX3_pass 40 = .ok (.isub, 1) := by decide +kernel
theorem dX3_pass_41 : decode cX3_pass 41 = .ok (.iastore, 1) := by decide +kernel
theorem dX3_pass_42 : decode cX3_pass 42 = .ok (.aload_n 0, 1) := by decide +kernel
theorem dX3_pass_43 : decode cX3_pass 43 = .ok (.getfield 19, 3) := by decide +kernel
theorem dX3_pass_46 : decode cX3_pass 46 = .ok (.iload_n 1, 1) := by decide +kernel
theorem dX3_pass_47 : decode cX3_pass 47 = .ok (.iaload, 1) := by decide +kernel
theorem dX3_pass_48 : decode cX3_pass 48 = .ok (.ifCond .ne 8, 3) := by decide +kernel
theorem dX3_pass_51 : decode cX3_pass 51 = .ok (.aload_n 0, 1) := by decide +kernel
theorem dX3_pass_52 : decode cX3_pass 52 = .ok (.iload_n 1, 1) := by decide +kernel
theorem dX3_pass_53 : decode cX3_pass 53 = .ok (.invokevirtual 113, 3) := by decide +kernel
theorem dX3_pass_56 : decode cX3_pass 56 = .ok (.iinc 1 1, 3) := by decide +kernel
theorem dX3_pass_59 : decode cX3_pass 59 = .ok (.goto (-57), 3) := by decide +kernel
theorem dX3_pass_62 : decode cX3_pass 62 = .ok (.iconst 0, 1) := by decide +kernel
theorem dX3_pass_63 : decode cX3_pass 63 = .ok (.istore_n 1, 1) := by decide +kernel
theorem dX3_pass_64 : decode cX3_pass 64 = .ok (.iload_n 1, 1) := by decide +kernel
theorem dX3_pass_65 : decode cX3_pass 65 = .ok (.aload_n 0, 1) := by decide +kernel
theorem dX3_pass_66 : decode cX3_pass 66 = .ok (.getfield 9, 3) := by decide +kernel
theorem dX3_pass_69 : decode cX3_pass 69 = .ok (.if_icmp .ge 23, 3) := by decide +kernel
theorem dX3_pass_72 : decode cX3_pass 72 = .ok (.aload_n 0, 1) := by decide +kernel
theorem dX3_pass_73 : decode cX3_pass 73 = .ok (.iload_n 1, 1) := by decide +kernel
theorem dX3_pass_74 : decode cX3_pass 74 = .ok (.iconst 2, 1) := by decide +kernel
theorem dX3_pass_75 : decode cX3_pass 75 = .ok (.invokevirtual 116, 3) := by decide +kernel
theorem dX3_pass_78 : decode cX3_pass 78 = .ok (.ifCond .eq 8, 3) := by decide +kernel
theorem dX3_pass_81 : decode cX3_pass 81 = .ok (.aload_n 0, 1) := by decide +kernel
theorem dX3_pass_82 : decode cX3_pass 82 = .ok (.iload_n 1, 1) := by decide +kernel
theorem dX3_pass_83 : decode cX3_pass 83 = .ok (.invokevirtual 119, 3) := by decide +kernel
theorem dX3_pass_86 : decode cX3_pass 86 = .ok (.iinc 1 1, 3) := by decide +kernel
theorem dX3_pass_89 : decode cX3_pass 89 = .ok (.goto (-25), 3) := by decide +kernel
theorem dX3_pass_92 : decode cX3_pass 92 = .ok (.iconst 0, 1) := by decide +kernel
theorem dX3_pass_93 : decode cX3_pass 93 = .ok (.istore_n 1, 1) := by decide +kernel
theorem dX3_pass_94 : decode cX3_pass 94 = .ok (.iload_n 1, 1) := by decide +kernel
theorem dX3_pass_95 : decode cX3_pass 95 = .ok (.aload_n 0, 1) := by decide +kernel
theorem dX3_pass_96 : decode cX3_pass 96 = .ok (.getfield 9, 3) := by decide +kernel
theorem dX3_pass_99 : decode cX3_pass 99 = .ok (.if_icmp .ge 23, 3) := by decide +kernel
theorem dX3_pass_102 : decode cX3_pass 102 = .ok (.aload_n 0, 1) := by decide +kernel
theorem dX3_pass_103 : decode cX3_pass 103 = .ok (.iload_n 1, 1) := by decide +kernel
theorem dX3_pass_104 : decode cX3_pass 104 = .ok (.iconst 2, 1) := by decide +kernel
theorem dX3_pass_105 : decode cX3_pass 105 = .ok (.invokevirtual 116, 3) := by decide +kernel
theorem dX3_pass_108 : decode cX3_pass 108 = .ok (.ifCond .eq 8, 3) := by decide +kernel
theorem dX3_pass_111 : decode cX3_pass 111 = .ok (.aload_n 0, 1) := by decide +kernel
theorem dX3_pass_112 : decode cX3_pass 112 = .ok (.iload_n 1, 1) := by decide +kernel
theorem dX3_pass_113 : decode cX3_pass 113 = .ok (.invokevirtual 122, 3) := by decide +kernel
theorem dX3_pass_116 : decode cX3_pass 116 = .ok (.iinc 1 1, 3) := by decide +kernel
theorem dX3_pass_119 : decode cX3_pass 119 = .ok (.goto (-25), 3) := by decide +kernel
theorem dX3_pass_122 : decode cX3_pass 122 = .ok (.aload_n 0, 1) := by decide +kernel
theorem dX3_pass_123 : decode cX3_pass 123 = .ok (.dup, 1) := by decide +kernel
theorem dX3_pass_124 : decode cX3_pass 124 = .ok (.getfield 53, 3) := by decide +kernel
theorem dX3_pass_127 : decode cX3_pass 127 = .ok (.iconst 1, 1) := by decide +kernel
theorem dX3_pass_128 : decode cX3_pass 128 = .ok (.iadd, 1) := by decide +kernel
theorem dX3_pass_129 : decode cX3_pass 129 = .ok (.putfield 53, 3) := by decide +kernel
theorem dX3_pass_132 : decode cX3_pass 132 = .ok (.return_, 1) := by decide +kernel
theorem dX3_passOn_0 : decode cX3_passOn 0 = .ok (.iconst 0, 1) := by decide +kernel
theorem dX3_passOn_1 : decode cX3_passOn 1 = .ok (.istore_n 2, 1) := by decide +kernel
theorem dX3_passOn_2 : decode cX3_passOn 2 = .ok (.iload_n 2, 1) := by decide +kernel
theorem dX3_passOn_3 : decode cX3_passOn 3 = .ok (.iload_n 1, 1) := by decide +kernel
theorem dX3_passOn_4 : decode cX3_passOn 4 = .ok (.if_icmp .ge 13, 3) := by decide +kernel
theorem dX3_passOn_7 : decode cX3_passOn 7 = .ok (.aload_n 0, 1) := by decide +kernel
theorem dX3_passOn_8 : decode cX3_passOn 8 = .ok (.invokevirtual 125, 3) := by decide +kernel
theorem dX3_passOn_11 : decode cX3_passOn 11 = .ok (.iinc 2 1, 3) := by decide +kernel
theorem dX3_passOn_14 : decode cX3_passOn 14 = .ok (.goto (-12), 3) := by decide +kernel
theorem dX3_passOn_17 : decode cX3_passOn 17 = .ok (.return_, 1) := by decide +kernel
theorem dX3_counted_0 : decode cX3_counted 0 = .ok (.iconst 0, 1) := by decide +kernel
theorem dX3_counted_1 : decode cX3_counted 1 = .ok (.istore_n 2, 1) := by decide +kernel
theorem dX3_counted_2 : decode cX3_counted 2 = .ok (.iconst 0, 1) := by decide +kernel
theorem dX3_counted_3 : decode cX3_counted 3 = .ok (.istore_n 3, 1) := by decide +kernel
theorem dX3_counted_4 : decode cX3_counted 4 = .ok (.bipush 10, 2) := by decide +kernel
theorem dX3_counted_6 : decode cX3_counted 6 = .ok (.istore 4, 2) := by decide +kernel
theorem dX3_counted_8 : decode cX3_counted 8 = .ok (.iconst 0, 1) := by decide +kernel
theorem dX3_counted_9 : decode cX3_counted 9 = .ok (.istore 5, 2) := by decide +kernel
theorem dX3_counted_11 : decode cX3_counted 11 = .ok (.iconst 0, 1) := by decide +kernel
theorem dX3_counted_12 : decode cX3_counted 12 = .ok (.istore 6, 2) := by decide +kernel
theorem dX3_counted_14 : decode cX3_counted 14 = .ok (.iconst 0, 1) := by decide +kernel
theorem dX3_counted_15 : decode cX3_counted 15 = .ok (.istore 7, 2) := by decide +kernel
theorem dX3_counted_17 : decode cX3_counted 17 = .ok (.iload 7, 2) := by decide +kernel
theorem dX3_counted_19 : decode cX3_counted 19 = .ok (.aload_n 0, 1) := by decide +kernel
theorem dX3_counted_20 : decode cX3_counted 20 = .ok (.getfield 9, 3) := by decide +kernel
theorem dX3_counted_23 : decode cX3_counted 23 = .ok (.if_icmp .ge 79, 3) := by decide +kernel
theorem dX3_counted_26 : decode cX3_counted 26 = .ok (.iload_n 2, 1) := by decide +kernel
theorem dX3_counted_27 : decode cX3_counted 27 = .ok (.aload_n 0, 1) := by decide +kernel
theorem dX3_counted_28 : decode cX3_counted 28 = .ok (.getfield 34, 3) := by decide +kernel
theorem dX3_counted_31 : decode cX3_counted 31 = .ok (.iload 7, 2) := by decide +kernel
theorem dX3_counted_33 : decode cX3_counted 33 = .ok (.iaload, 1) := by decide +kernel
theorem dX3_counted_34 : decode cX3_counted 34 = .ok (.iadd, 1) := by decide +kernel
theorem dX3_counted_35 : decode cX3_counted 35 = .ok (.istore_n 2, 1) := by decide +kernel
theorem dX3_counted_36 : decode cX3_counted 36 = .ok (.iload 6, 2) := by decide +kernel
theorem dX3_counted_38 : decode cX3_counted 38 = .ok (.aload_n 0, 1) := by decide +kernel
theorem dX3_counted_39 : decode cX3_counted 39 = .ok (.iload 7, 2) := by decide +kernel
theorem dX3_counted_41 : decode cX3_counted 41 = .ok (.iconst 2, 1) := by decide +kernel
theorem dX3_counted_42 : decode cX3_counted 42 = .ok (.invokevirtual 116, 3) := by decide +kernel
theorem dX3_counted_45 : decode cX3_counted 45 = .ok (.ifCond .eq 7, 3) := by decide +kernel
theorem dX3_counted_48 : decode cX3_counted 48 = .ok (.iconst 1, 1) := by decide +kernel
theorem dX3_counted_49 : decode cX3_counted 49 = .ok (.goto 4, 3) := by decide +kernel
theorem dX3_counted_52 : decode cX3_counted 52 = .ok (.iconst 0, 1) := by decide +kernel
theorem dX3_counted_53 : decode cX3_counted 53 = .ok (.iadd, 1) := by decide +kernel
theorem dX3_counted_54 : decode cX3_counted 54 = .ok (.istore 6, 2) := by decide +kernel
theorem dX3_counted_56 : decode cX3_counted 56 = .ok (.iload 5, 2) := by decide +kernel
theorem dX3_counted_58 : decode cX3_counted 58 = .ok (.aload_n 0, 1) := by decide +kernel
theorem dX3_counted_59 : decode cX3_counted 59 = .ok (.getfield 22, 3) := by decide +kernel
theorem dX3_counted_62 : decode cX3_counted 62 = .ok (.iload 7, 2) := by decide +kernel
theorem dX3_counted_64 : decode cX3_counted 64 = .ok (.iaload, 1) := by decide +kernel
theorem dX3_counted_65 : decode cX3_counted 65 = .ok (.invokestatic 107, 3) := by decide +kernel
theorem dX3_counted_68 : decode cX3_counted 68 = .ok (.istore 5, 2) := by decide +kernel
theorem dX3_counted_70 : decode cX3_counted 70 = .ok (.iload_n 3, 1) := by decide +kernel
theorem dX3_counted_71 : decode cX3_counted 71 = .ok (.aload_n 0, 1) := by decide +kernel
theorem dX3_counted_72 : decode cX3_counted 72 = .ok (.getfield 40, 3) := by decide +kernel
theorem dX3_counted_75 : decode cX3_counted 75 = .ok (.iload 7, 2) := by decide +kernel
theorem dX3_counted_77 : decode cX3_counted 77 = .ok (.iaload, 1) := by decide +kernel
theorem dX3_counted_78 : decode cX3_counted 78 = .ok (.invokestatic 107, 3) := by decide +kernel
theorem dX3_counted_81 : decode cX3_counted 81 = .ok (.istore_n 3, 1) := by decide +kernel
theorem dX3_counted_82 : decode cX3_counted 82 = .ok (.iload 4, 2) := by decide +kernel
theorem dX3_counted_84 : decode cX3_counted 84 = .ok (.aload_n 0, 1) := by decide +kernel
theorem dX3_counted_85 : decode cX3_counted 85 = .ok (.getfield 40, 3) := by decide +kernel
theorem dX3_counted_88 : decode cX3_counted 88 = .ok (.iload 7, 2) := by decide +kernel
theorem dX3_counted_90 : decode cX3_counted 90 = .ok (.iaload, 1) := by decide +kernel
theorem dX3_counted_91 : decode cX3_counted 91 = .ok (.invokestatic 102, 3) := by decide +kernel
theorem dX3_counted_94 : decode cX3_counted 94 = .ok (.istore 4, 2) := by decide +kernel
theorem dX3_counted_96 : decode cX3_counted 96 = .ok (.iinc 7 1, 3) := by decide +kernel
theorem dX3_counted_99 : decode cX3_counted 99 = .ok (.goto (-82), 3) := by decide +kernel
theorem dX3_counted_102 : decode cX3_counted 102 = .ok (.iload_n 1, 1) := by decide +kernel
theorem dX3_counted_103 : decode cX3_counted 103 = .ok (.tableswitch 84 0 8 #[49, 54, 59, 61, 64, 67, 72, 77, 82], 49) := by decide +kernel
theorem dX3_counted_152 : decode cX3_counted 152 = .ok (.aload_n 0, 1) := by decide +kernel
theorem dX3_counted_153 : decode cX3_counted 153 = .ok (.getfield 53, 3) := by decide +kernel
theorem dX3_counted_156 : decode cX3_counted 156 = .ok (.ireturn, 1) := by decide +kernel
theorem dX3_counted_157 : decode cX3_counted 157 = .ok (.aload_n 0, 1) := by decide +kernel
theorem dX3_counted_158 : decode cX3_counted 158 = .ok (.getfield 9, 3) := by decide +kernel
theorem dX3_counted_161 : decode cX3_counted 161 = .ok (.ireturn, 1) := by decide +kernel
theorem dX3_counted_162 : decode cX3_counted 162 = .ok (.iload_n 2, 1) := by decide +kernel
theorem dX3_counted_163 : decode cX3_counted 163 = .ok (.ireturn, 1) := by decide +kernel
theorem dX3_counted_164 : decode cX3_counted 164 = .ok (.iload 6, 2) := by decide +kernel
theorem dX3_counted_166 : decode cX3_counted 166 = .ok (.ireturn, 1) := by decide +kernel
theorem dX3_counted_167 : decode cX3_counted 167 = .ok (.iload 5, 2) := by decide +kernel
theorem dX3_counted_169 : decode cX3_counted 169 = .ok (.ireturn, 1) := by decide +kernel
theorem dX3_counted_170 : decode cX3_counted 170 = .ok (.aload_n 0, 1) := by decide +kernel
theorem dX3_counted_171 : decode cX3_counted 171 = .ok (.getfield 56, 3) := by decide +kernel
theorem dX3_counted_174 : decode cX3_counted 174 = .ok (.ireturn, 1) := by decide +kernel
theorem dX3_counted_175 : decode cX3_counted 175 = .ok (.aload_n 0, 1) := by decide +kernel
theorem dX3_counted_176 : decode cX3_counted 176 = .ok (.getfield 59, 3) := by decide +kernel
theorem dX3_counted_179 : decode cX3_counted 179 = .ok (.ireturn, 1) := by decide +kernel
theorem dX3_counted_180 : decode cX3_counted 180 = .ok (.aload_n 0, 1) := by decide +kernel
theorem dX3_counted_181 : decode cX3_counted 181 = .ok (.getfield 62, 3) := by decide +kernel
theorem dX3_counted_184 : decode cX3_counted 184 = .ok (.ireturn, 1) := by decide +kernel
theorem dX3_counted_185 : decode cX3_counted 185 = .ok (.iload_n 3, 1) := by decide +kernel
theorem dX3_counted_186 : decode cX3_counted 186 = .ok (.ireturn, 1) := by decide +kernel
theorem dX3_counted_187 : decode cX3_counted 187 = .ok (.iload 4, 2) := by decide +kernel
theorem dX3_counted_189 : decode cX3_counted 189 = .ok (.ireturn, 1) := by decide +kernel
theorem dX3_isLed_0 : decode cX3_isLed 0 = .ok (.iconst 0, 1) := by decide +kernel
theorem dX3_isLed_1 : decode cX3_isLed 1 = .ok (.istore_n 1, 1) := by decide +kernel
theorem dX3_isLed_2 : decode cX3_isLed 2 = .ok (.iload_n 1, 1) := by decide +kernel
theorem dX3_isLed_3 : decode cX3_isLed 3 = .ok (.aload_n 0, 1) := by decide +kernel
theorem dX3_isLed_4 : decode cX3_isLed 4 = .ok (.getfield 9, 3) := by decide +kernel
theorem dX3_isLed_7 : decode cX3_isLed 7 = .ok (.if_icmp .ge 66, 3) := by decide +kernel
theorem dX3_isLed_10 : decode cX3_isLed 10 = .ok (.aload_n 0, 1) := by decide +kernel
theorem dX3_isLed_11 : decode cX3_isLed 11 = .ok (.iload_n 1, 1) := by decide +kernel
theorem dX3_isLed_12 : decode cX3_isLed 12 = .ok (.iconst 2, 1) := by decide +kernel
theorem dX3_isLed_13 : decode cX3_isLed 13 = .ok (.invokevirtual 116, 3) := by decide +kernel
theorem dX3_isLed_16 : decode cX3_isLed 16 = .ok (.ifCond .ne 6, 3) := by decide +kernel
theorem dX3_isLed_19 : decode cX3_isLed 19 = .ok (.goto 48, 3) := by decide +kernel
theorem dX3_isLed_22 : decode cX3_isLed 22 = .ok (.iconst 1, 1) := by decide +kernel
theorem dX3_isLed_23 : decode cX3_isLed 23 = .ok (.istore_n 2, 1) := by decide +kernel
theorem dX3_isLed_24 : decode cX3_isLed 24 = .ok (.iconst 0, 1) := by decide +kernel
theorem dX3_isLed_25 : decode cX3_isLed 25 = .ok (.istore_n 3, 1) := by decide +kernel
theorem dX3_isLed_26 : decode cX3_isLed 26 = .ok (.iload_n 3, 1) := by decide +kernel
theorem dX3_isLed_27 : decode cX3_isLed 27 = .ok (.aload_n 0, 1) := by decide +kernel
theorem dX3_isLed_28 : decode cX3_isLed 28 = .ok (.getfield 9, 3) := by decide +kernel
theorem dX3_isLed_31 : decode cX3_isLed 31 = .ok (.if_icmp .ge 26, 3) := by decide +kernel
theorem dX3_isLed_34 : decode cX3_isLed 34 = .ok (.iload_n 2, 1) := by decide +kernel
theorem dX3_isLed_35 : decode cX3_isLed 35 = .ok (.aload_n 0, 1) := by decide +kernel
theorem dX3_isLed_36 : decode cX3_isLed 36 = .ok (.iload_n 1, 1) := by decide +kernel
theorem dX3_isLed_37 : decode cX3_isLed 37 = .ok (.iload_n 3, 1) := by decide +kernel
theorem dX3_isLed_38 : decode cX3_isLed 38 = .ok (.invokevirtual 79, 3) := by decide +kernel
theorem dX3_isLed_41 : decode cX3_isLed 41 = .ok (.ifCond .eq 7, 3) := by decide +kernel
theorem dX3_isLed_44 : decode cX3_isLed 44 = .ok (.iconst 1, 1) := by decide +kernel
theorem dX3_isLed_45 : decode cX3_isLed 45 = .ok (.goto 4, 3) := by decide +kernel
theorem dX3_isLed_48 : decode cX3_isLed 48 = .ok (.iconst 0, 1) := by decide +kernel
theorem dX3_isLed_49 : decode cX3_isLed 49 = .ok (.iadd, 1) := by decide +kernel
theorem dX3_isLed_50 : decode cX3_isLed 50 = .ok (.istore_n 2, 1) := by decide +kernel
theorem dX3_isLed_51 : decode cX3_isLed 51 = .ok (.iinc 3 1, 3) := by decide +kernel
theorem dX3_isLed_54 : decode cX3_isLed 54 = .ok (.goto (-28), 3) := by decide +kernel
theorem dX3_isLed_57 : decode cX3_isLed 57 = .ok (.aload_n 0, 1) := by decide +kernel
theorem dX3_isLed_58 : decode cX3_isLed 58 = .ok (.iload_n 2, 1) := by decide +kernel
theorem dX3_isLed_59 : decode cX3_isLed 59 = .ok (.invokevirtual 90, 3) := by decide +kernel
theorem dX3_isLed_62 : decode cX3_isLed 62 = .ok (.ifCond .eq 5, 3) := by decide +kernel
theorem dX3_isLed_65 : decode cX3_isLed 65 = .ok (.iconst 1, 1) := by decide +kernel
theorem dX3_isLed_66 : decode cX3_isLed 66 = .ok (.ireturn, 1) := by decide +kernel
theorem dX3_isLed_67 : decode cX3_isLed 67 = .ok (.iinc 1 1, 3) := by decide +kernel
theorem dX3_isLed_70 : decode cX3_isLed 70 = .ok (.goto (-68), 3) := by decide +kernel
theorem dX3_isLed_73 : decode cX3_isLed 73 = .ok (.iconst 0, 1) := by decide +kernel
theorem dX3_isLed_74 : decode cX3_isLed 74 = .ok (.ireturn, 1) := by decide +kernel
end
section
theorem dX2_init_0 : decode cX2_init 0 = .ok (.aload_n 0, 1) := by decide +kernel
theorem dX2_init_1 : decode cX2_init 1 = .ok (.invokespecial 1, 3) := by decide +kernel
theorem dX2_init_4 : decode cX2_init 4 = .ok (.aload_n 0, 1) := by decide +kernel
theorem dX2_init_5 : decode cX2_init 5 = .ok (.new 7, 3) := by decide +kernel
theorem dX2_init_8 : decode cX2_init 8 = .ok (.dup, 1) := by decide +kernel
theorem dX2_init_9 : decode cX2_init 9 = .ok (.invokespecial 9, 3) := by decide +kernel
theorem dX2_init_12 : decode cX2_init 12 = .ok (.putfield 10, 3) := by decide +kernel
theorem dX2_init_15 : decode cX2_init 15 = .ok (.aload_n 0, 1) := by decide +kernel
theorem dX2_init_16 : decode cX2_init 16 = .ok (.new 7, 3) := by decide +kernel
theorem dX2_init_19 : decode cX2_init 19 = .ok (.dup, 1) := by decide +kernel
theorem dX2_init_20 : decode cX2_init 20 = .ok (.invokespecial 9, 3) := by decide +kernel
theorem dX2_init_23 : decode cX2_init 23 = .ok (.putfield 16, 3) := by decide +kernel
theorem dX2_init_26 : decode cX2_init 26 = .ok (.aload_n 0, 1) := by decide +kernel
theorem dX2_init_27 : decode cX2_init 27 = .ok (.getfield 10, 3) := by decide +kernel
theorem dX2_init_30 : decode cX2_init 30 = .ok (.iconst 5, 1) := by decide +kernel
theorem dX2_init_31 : decode cX2_init 31 = .ok (.invokevirtual 19, 3) := by decide +kernel
theorem dX2_init_34 : decode cX2_init 34 = .ok (.return_, 1) := by decide +kernel
theorem dX2_fleet_0 : decode cX2_fleet 0 = .ok (.iload_n 1, 1) := by decide +kernel
theorem dX2_fleet_1 : decode cX2_fleet 1 = .ok (.iconst 3, 1) := by decide +kernel
theorem dX2_fleet_2 : decode cX2_fleet 2 = .ok (.if_icmp .lt 9, 3) := by decide +kernel
theorem dX2_fleet_5 : decode cX2_fleet 5 = .ok (.iload_n 1, 1) := by decide +kernel
theorem dX2_fleet_6 : decode cX2_fleet 6 = .ok (.bipush 7, 2) := by decide +kernel
theorem dX2_fleet_8 : decode cX2_fleet 8 = .ok (.if_icmp .le 13, 3) := by decide +kernel
theorem dX2_fleet_11 : decode cX2_fleet 11 = .ok (.new 23, 3) := by decide +kernel
theorem dX2_fleet_14 : decode cX2_fleet 14 = .ok (.dup, 1) := by decide +kernel
theorem dX2_fleet_15 : decode cX2_fleet 15 = .ok (.ldc 25, 2) := by decide +kernel
theorem dX2_fleet_17 : decode cX2_fleet 17 = .ok (.invokespecial 27, 3) := by decide +kernel
theorem dX2_fleet_20 : decode cX2_fleet 20 = .ok (.athrow, 1) := by decide +kernel
theorem dX2_fleet_21 : decode cX2_fleet 21 = .ok (.aload_n 0, 1) := by decide +kernel
theorem dX2_fleet_22 : decode cX2_fleet 22 = .ok (.getfield 10, 3) := by decide +kernel
theorem dX2_fleet_25 : decode cX2_fleet 25 = .ok (.iload_n 1, 1) := by decide +kernel
theorem dX2_fleet_26 : decode cX2_fleet 26 = .ok (.invokevirtual 19, 3) := by decide +kernel
theorem dX2_fleet_29 : decode cX2_fleet 29 = .ok (.iload_n 1, 1) := by decide +kernel
theorem dX2_fleet_30 : decode cX2_fleet 30 = .ok (.iconst 2, 1) := by decide +kernel
theorem dX2_fleet_31 : decode cX2_fleet 31 = .ok (.idiv, 1) := by decide +kernel
theorem dX2_fleet_32 : decode cX2_fleet 32 = .ok (.iconst 1, 1) := by decide +kernel
theorem dX2_fleet_33 : decode cX2_fleet 33 = .ok (.iadd, 1) := by decide +kernel
theorem dX2_fleet_34 : decode cX2_fleet 34 = .ok (.ireturn, 1) := by decide +kernel
theorem dX2_setPatience_0 : decode cX2_setPatience 0 = .ok (.aload_n 0, 1) := by decide +kernel
theorem dX2_setPatience_1 : decode cX2_setPatience 1 = .ok (.iload_n 1, 1) := by decide +kernel
theorem dX2_setPatience_2 : decode cX2_setPatience 2 = .ok (.invokevirtual 30, 3) := by decide +kernel
theorem dX2_setPatience_5 : decode cX2_setPatience 5 = .ok (.iload_n 2, 1) := by decide +kernel
theorem dX2_setPatience_6 : decode cX2_setPatience 6 = .ok (.iconst 2, 1) := by decide +kernel
theorem dX2_setPatience_7 : decode cX2_setPatience 7 = .ok (.if_icmp .lt 9, 3) := by decide +kernel
theorem dX2_setPatience_10 : decode cX2_setPatience 10 = .ok (.iload_n 2, 1) := by decide +kernel
theorem dX2_setPatience_11 : decode cX2_setPatience 11 = .ok (.bipush 9, 2) := by decide +kernel
theorem dX2_setPatience_13 : decode cX2_setPatience 13 = .ok (.if_icmp .le 13, 3) := by decide +kernel
theorem dX2_setPatience_16 : decode cX2_setPatience 16 = .ok (.new 23, 3) := by decide +kernel
theorem dX2_setPatience_19 : decode cX2_setPatience 19 = .ok (.dup, 1) := by decide +kernel
theorem dX2_setPatience_20 : decode cX2_setPatience 20 = .ok (.ldc 33, 2) := by decide +kernel
theorem dX2_setPatience_22 : decode cX2_setPatience 22 = .ok (.invokespecial 27, 3) := by decide +kernel
theorem dX2_setPatience_25 : decode cX2_setPatience 25 = .ok (.athrow, 1) := by decide +kernel
theorem dX2_setPatience_26 : decode cX2_setPatience 26 = .ok (.aload_n 0, 1) := by decide +kernel
theorem dX2_setPatience_27 : decode cX2_setPatience 27 = .ok (.getfield 10, 3) := by decide +kernel
theorem dX2_setPatience_30 : decode cX2_setPatience 30 = .ok (.getfield 35, 3) := by decide +kernel
theorem dX2_setPatience_33 : decode cX2_setPatience 33 = .ok (.iload_n 1, 1) := by decide +kernel
theorem dX2_setPatience_34 : decode cX2_setPatience 34 = .ok (.iaload, 1) := by decide +kernel
theorem dX2_setPatience_35 : decode cX2_setPatience 35 = .ok (.istore_n 3, 1) := by decide +kernel
theorem dX2_setPatience_36 : decode cX2_setPatience 36 = .ok (.aload_n 0, 1) := by decide +kernel
theorem dX2_setPatience_37 : decode cX2_setPatience 37 = .ok (.getfield 10, 3) := by decide +kernel
theorem dX2_setPatience_40 : decode cX2_setPatience 40 = .ok (.getfield 35, 3) := by decide +kernel
theorem dX2_setPatience_43 : decode cX2_setPatience 43 = .ok (.iload_n 1, 1) := by decide +kernel
theorem dX2_setPatience_44 : decode cX2_setPatience 44 = .ok (.iload_n 2, 1) := by decide +kernel
theorem dX2_setPatience_45 : decode cX2_setPatience 45 = .ok (.iastore, 1) := by decide +kernel
theorem dX2_setPatience_46 : decode cX2_setPatience 46 = .ok (.iload_n 3, 1) := by decide +kernel
theorem dX2_setPatience_47 : decode cX2_setPatience 47 = .ok (.ireturn, 1) := by decide +kernel
theorem dX2_go_0 : decode cX2_go 0 = .ok (.aload_n 0, 1) := by decide +kernel
theorem dX2_go_1 : decode cX2_go 1 = .ok (.iload_n 1, 1) := by decide +kernel
theorem dX2_go_2 : decode cX2_go 2 = .ok (.invokevirtual 30, 3) := by decide +kernel
theorem dX2_go_5 : decode cX2_go 5 = .ok (.aload_n 0, 1) := by decide +kernel
theorem dX2_go_6 : decode cX2_go 6 = .ok (.iload_n 2, 1) := by decide +kernel
theorem dX2_go_7 : decode cX2_go 7 = .ok (.iconst 3, 1) := by decide +kernel
theorem dX2_go_8 : decode cX2_go 8 = .ok (.invokevirtual 39, 3) := by decide +kernel
theorem dX2_go_11 : decode cX2_go 11 = .ok (.aload_n 0, 1) := by decide +kernel
theorem dX2_go_12 : decode cX2_go 12 = .ok (.getfield 10, 3) := by decide +kernel
theorem dX2_go_15 : decode cX2_go 15 = .ok (.getfield 43, 3) := by decide +kernel
theorem dX2_go_18 : decode cX2_go 18 = .ok (.iload_n 1, 1) := by decide +kernel
theorem dX2_go_19 : decode cX2_go 19 = .ok (.iaload, 1) := by decide +kernel
theorem dX2_go_20 : decode cX2_go 20 = .ok (.istore_n 3, 1) := by decide +kernel
theorem dX2_go_21 : decode cX2_go 21 = .ok (.aload_n 0, 1) := by decide +kernel
theorem dX2_go_22 : decode cX2_go 22 = .ok (.getfield 10, 3) := by decide +kernel
theorem dX2_go_25 : decode cX2_go 25 = .ok (.getfield 43, 3) := by decide +kernel
theorem dX2_go_28 : decode cX2_go 28 = .ok (.iload_n 1, 1) := by decide +kernel
theorem dX2_go_29 : decode cX2_go 29 = .ok (.iload_n 2, 1) := by decide +kernel
theorem dX2_go_30 : decode cX2_go 30 = .ok (.iastore, 1) := by decide +kernel
theorem dX2_go_31 : decode cX2_go 31 = .ok (.iload_n 3, 1) := by decide +kernel
theorem dX2_go_32 : decode cX2_go 32 = .ok (.ireturn, 1) := by decide +kernel
theorem dX2_sink_0 : decode cX2_sink 0 = .ok (.aload_n 0, 1) := by decide +kernel
theorem dX2_sink_1 : decode cX2_sink 1 = .ok (.iload_n 1, 1) := by decide +kernel
theorem dX2_sink_2 : decode cX2_sink 2 = .ok (.invokevirtual 30, 3) := by decide +kernel
theorem dX2_sink_5 : decode cX2_sink 5 = .ok (.aload_n 0, 1) := by decide +kernel
theorem dX2_sink_6 : decode cX2_sink 6 = .ok (.getfield 10, 3) := by decide +kernel
theorem dX2_sink_9 : decode cX2_sink 9 = .ok (.getfield 46, 3) := by decide +kernel
theorem dX2_sink_12 : decode cX2_sink 12 = .ok (.iload_n 1, 1) := by decide +kernel
theorem dX2_sink_13 : decode cX2_sink 13 = .ok (.baload, 1) := by decide +kernel
theorem dX2_sink_14 : decode cX2_sink 14 = .ok (.ifCond .eq 16, 3) := by decide +kernel
theorem dX2_sink_17 : decode cX2_sink 17 = .ok (.aload_n 0, 1) := by decide +kernel
theorem dX2_sink_18 : decode cX2_sink 18 = .ok (.getfield 10, 3) := by decide +kernel
theorem dX2_sink_21 : decode cX2_sink 21 = .ok (.getfield 46, 3) := by decide +kernel
theorem dX2_sink_24 : decode cX2_sink 24 = .ok (.iload_n 1, 1) := by decide +kernel
theorem dX2_sink_25 : decode cX2_sink 25 = .ok (.iconst 0, 1) := by decide +kernel
theorem dX2_sink_26 : decode cX2_sink 26 = .ok (.bastore, 1) := by decide +kernel
theorem dX2_sink_27 : decode cX2_sink 27 = .ok (.goto 11, 3) := by decide +kernel
theorem dX2_sink_30 : decode cX2_sink 30 = .ok (.aload_n 0, 1) := by decide +kernel
theorem dX2_sink_31 : decode cX2_sink 31 = .ok (.getfield 10, 3) := by decide +kernel
theorem dX2_sink_34 : decode cX2_sink 34 = .ok (.iload_n 1, 1) := by decide +kernel
theorem dX2_sink_35 : decode cX2_sink 35 = .ok (.invokevirtual 50, 3) := by decide +kernel
theorem dX2_sink_38 : decode cX2_sink 38 = .ok (.aload_n 0, 1) := by decide +kernel
theorem dX2_sink_39 : decode cX2_sink 39 = .ok (.getfield 10, 3) := by decide +kernel
theorem dX2_sink_42 : decode cX2_sink 42 = .ok (.getfield 46, 3) := by decide +kernel
theorem dX2_sink_45 : decode cX2_sink 45 = .ok (.iload_n 1, 1) := by decide +kernel
theorem dX2_sink_46 : decode cX2_sink 46 = .ok (.baload, 1) := by decide +kernel
theorem dX2_sink_47 : decode cX2_sink 47 = .ok (.ireturn, 1) := by decide +kernel
theorem dX2_write_0 : decode cX2_write 0 = .ok (.aload_n 0, 1) := by decide +kernel
theorem dX2_write_1 : decode cX2_write 1 = .ok (.iload_n 1, 1) := by decide +kernel
theorem dX2_write_2 : decode cX2_write 2 = .ok (.invokevirtual 30, 3) := by decide +kernel
theorem dX2_write_5 : decode cX2_write 5 = .ok (.iload_n 2, 1) := by decide +kernel
theorem dX2_write_6 : decode cX2_write 6 = .ok (.ifCond .lt 9, 3) := by decide +kernel
theorem dX2_write_9 : decode cX2_write 9 = .ok (.iload_n 2, 1) := by decide +kernel
theorem dX2_write_10 : decode cX2_write 10 = .ok (.bipush 99, 2) := by decide +kernel
theorem dX2_write_12 : decode cX2_write 12 = .ok (.if_icmp .le 13, 3) := by decide +kernel
theorem dX2_write_15 : decode cX2_write 15 = .ok (.new 23, 3) := by decide +kernel
theorem dX2_write_18 : decode cX2_write 18 = .ok (.dup, 1) := by decide +kernel
theorem dX2_write_19 : decode cX2_write 19 = .ok (.ldc 53, 2) := by decide +kernel
theorem dX2_write_21 : decode cX2_write 21 = .ok (.invokespecial 27, 3) := by decide +kernel
theorem dX2_write_24 : decode cX2_write 24 = .ok (.athrow, 1) := by decide +kernel
theorem dX2_write_25 : decode cX2_write 25 = .ok (.aload_n 0, 1) := by decide +kernel
theorem dX2_write_26 : decode cX2_write 26 = .ok (.getfield 10, 3) := by decide +kernel
theorem dX2_write_29 : decode cX2_write 29 = .ok (.iload_n 1, 1) := by decide +kernel
theorem dX2_write_30 : decode cX2_write 30 = .ok (.invokevirtual 55, 3) := by decide +kernel
theorem dX2_write_33 : decode cX2_write 33 = .ok (.ifCond .ne 13, 3) := by decide +kernel
theorem dX2_write_36 : decode cX2_write 36 = .ok (.new 59, 3) := by decide +kernel
theorem dX2_write_39 : decode cX2_write 39 = .ok (.dup, 1) := by decide +kernel
theorem dX2_write_40 : decode cX2_write 40 = .ok (.ldc 61, 2) := by decide +kernel
theorem dX2_write_42 : decode cX2_write 42 = .ok (.invokespecial 63, 3) := by decide +kernel
theorem dX2_write_45 : decode cX2_write 45 = .ok (.athrow, 1) := by decide +kernel
theorem dX2_write_46 : decode cX2_write 46 = .ok (.aload_n 0, 1) := by decide +kernel
theorem dX2_write_47 : decode cX2_write 47 = .ok (.getfield 10, 3) := by decide +kernel
theorem dX2_write_50 : decode cX2_write 50 = .ok (.getfield 64, 3) := by decide +kernel
theorem dX2_write_53 : decode cX2_write 53 = .ok (.getfield 68, 3) := by decide +kernel
theorem dX2_write_56 : decode cX2_write 56 = .ok (.iload_n 1, 1) := by decide +kernel
theorem dX2_write_57 : decode cX2_write 57 = .ok (.iaload, 1) := by decide +kernel
theorem dX2_write_58 : decode cX2_write 58 = .ok (.bipush 10, 2) := by decide +kernel
theorem dX2_write_60 : decode cX2_write 60 = .ok (.if_icmp .lt 13, 3) := by decide +kernel
theorem dX2_write_63 : decode cX2_write 63 = .ok (.new 59, 3) := by decide +kernel
theorem dX2_write_66 : decode cX2_write 66 = .ok (.dup, 1) := by decide +kernel
theorem dX2_write_67 : decode cX2_write 67 = .ok (.ldc 73, 2) := by decide +kernel
theorem dX2_write_69 : decode cX2_write 69 = .ok (.invokespecial 63, 3) := by decide +kernel
theorem dX2_write_72 : decode cX2_write 72 = .ok (.athrow, 1) := by decide +kernel
theorem dX2_write_73 : decode cX2_write 73 = .ok (.aload_n 0, 1) := by decide +kernel
theorem dX2_write_74 : decode cX2_write 74 = .ok (.getfield 10, 3) := by decide +kernel
theorem dX2_write_77 : decode cX2_write 77 = .ok (.getfield 64, 3) := by decide +kernel
theorem dX2_write_80 : decode cX2_write 80 = .ok (.iload_n 1, 1) := by decide +kernel
theorem dX2_write_81 : decode cX2_write 81 = .ok (.aload_n 0, 1) := by decide +kernel
theorem dX2_write_82 : decode cX2_write 82 = .ok (.getfield 10, 3) := by decide +kernel
theorem dX2_write_85 : decode cX2_write 85 = .ok (.getfield 75, 3) := by decide +kernel
theorem dX2_write_88 : decode cX2_write 88 = .ok (.iload_n 1, 1) := by decide +kernel
theorem dX2_write_89 : decode cX2_write 89 = .ok (.iaload, 1) := by decide +kernel
theorem dX2_write_90 : decode cX2_write 90 = .ok (.iload_n 2, 1) := by decide +kernel
theorem dX2_write_91 : decode cX2_write 91 = .ok (.invokevirtual 78, 3) := by decide +kernel
theorem dX2_write_94 : decode cX2_write 94 = .ok (.aload_n 0, 1) := by decide +kernel
theorem dX2_write_95 : decode cX2_write 95 = .ok (.getfield 10, 3) := by decide +kernel
theorem dX2_write_98 : decode cX2_write 98 = .ok (.getfield 64, 3) := by decide +kernel
theorem dX2_write_101 : decode cX2_write 101 = .ok (.getfield 68, 3) := by decide +kernel
theorem dX2_write_104 : decode cX2_write 104 = .ok (.iload_n 1, 1) := by decide +kernel
theorem dX2_write_105 : decode cX2_write 105 = .ok (.iaload, 1) := by decide +kernel
theorem dX2_write_106 : decode cX2_write 106 = .ok (.iconst 1, 1) := by decide +kernel
theorem dX2_write_107 : decode cX2_write 107 = .ok (.isub, 1) := by decide +kernel
theorem dX2_write_108 : decode cX2_write 108 = .ok (.ireturn, 1) := by decide +kernel
theorem dX2_pass_0 : decode cX2_pass 0 = .ok (.aload_n 0, 1) := by decide +kernel
theorem dX2_pass_1 : decode cX2_pass 1 = .ok (.iload_n 1, 1) := by decide +kernel
theorem dX2_pass_2 : decode cX2_pass 2 = .ok (.bipush 50, 2) := by decide +kernel
theorem dX2_pass_4 : decode cX2_pass 4 = .ok (.invokevirtual 82, 3) := by decide +kernel
theorem dX2_pass_7 : decode cX2_pass 7 = .ok (.aload_n 0, 1) := by decide +kernel
theorem dX2_pass_8 : decode cX2_pass 8 = .ok (.getfield 10, 3) := by decide +kernel
theorem dX2_pass_11 : decode cX2_pass 11 = .ok (.getfield 85, 3) := by decide +kernel
theorem dX2_pass_14 : decode cX2_pass 14 = .ok (.istore_n 2, 1) := by decide +kernel
theorem dX2_pass_15 : decode cX2_pass 15 = .ok (.aload_n 0, 1) := by decide +kernel
theorem dX2_pass_16 : decode cX2_pass 16 = .ok (.getfield 10, 3) := by decide +kernel
theorem dX2_pass_19 : decode cX2_pass 19 = .ok (.iload_n 1, 1) := by decide +kernel
theorem dX2_pass_20 : decode cX2_pass 20 = .ok (.invokevirtual 89, 3) := by decide +kernel
theorem dX2_pass_23 : decode cX2_pass 23 = .ok (.aload_n 0, 1) := by decide +kernel
theorem dX2_pass_24 : decode cX2_pass 24 = .ok (.getfield 10, 3) := by decide +kernel
theorem dX2_pass_27 : decode cX2_pass 27 = .ok (.getfield 85, 3) := by decide +kernel
theorem dX2_pass_30 : decode cX2_pass 30 = .ok (.iload_n 2, 1) := by decide +kernel
theorem dX2_pass_31 : decode cX2_pass 31 = .ok (.isub, 1) := by decide +kernel
theorem dX2_pass_32 : decode cX2_pass 32 = .ok (.ireturn, 1) := by decide +kernel
theorem dX2_told_0 : decode cX2_told 0 = .ok (.aload_n 0, 1) := by decide +kernel
theorem dX2_told_1 : decode cX2_told 1 = .ok (.iload_n 1, 1) := by decide +kernel
theorem dX2_told_2 : decode cX2_told 2 = .ok (.invokevirtual 30, 3) := by decide +kernel
theorem dX2_told_5 : decode cX2_told 5 = .ok (.aload_n 0, 1) := by decide +kernel
theorem dX2_told_6 : decode cX2_told 6 = .ok (.iload_n 2, 1) := by decide +kernel
theorem dX2_told_7 : decode cX2_told 7 = .ok (.bipush 10, 2) := by decide +kernel
theorem dX2_told_9 : decode cX2_told 9 = .ok (.invokevirtual 39, 3) := by decide +kernel
theorem dX2_told_12 : decode cX2_told 12 = .ok (.aload_n 0, 1) := by decide +kernel
theorem dX2_told_13 : decode cX2_told 13 = .ok (.getfield 10, 3) := by decide +kernel
theorem dX2_told_16 : decode cX2_told 16 = .ok (.iload_n 1, 1) := by decide +kernel
theorem dX2_told_17 : decode cX2_told 17 = .ok (.iload_n 2, 1) := by decide +kernel
theorem dX2_told_18 : decode cX2_told 18 = .ok (.invokevirtual 92, 3) := by decide +kernel
theorem dX2_told_21 : decode cX2_told 21 = .ok (.ireturn, 1) := by decide +kernel
theorem dX2_entry_0 : decode cX2_entry 0 = .ok (.aload_n 0, 1) := by decide +kernel
theorem dX2_entry_1 : decode cX2_entry 1 = .ok (.iload_n 1, 1) := by decide +kernel
theorem dX2_entry_2 : decode cX2_entry 2 = .ok (.invokevirtual 30, 3) := by decide +kernel
theorem dX2_entry_5 : decode cX2_entry 5 = .ok (.aload_n 0, 1) := by decide +kernel
theorem dX2_entry_6 : decode cX2_entry 6 = .ok (.iload_n 2, 1) := by decide +kernel
theorem dX2_entry_7 : decode cX2_entry 7 = .ok (.aload_n 0, 1) := by decide +kernel
theorem dX2_entry_8 : decode cX2_entry 8 = .ok (.getfield 10, 3) := by decide +kernel
theorem dX2_entry_11 : decode cX2_entry 11 = .ok (.getfield 64, 3) := by decide +kernel
theorem dX2_entry_14 : decode cX2_entry 14 = .ok (.getfield 68, 3) := by decide +kernel
theorem dX2_entry_17 : decode cX2_entry 17 = .ok (.iload_n 1, 1) := by decide +kernel
theorem dX2_entry_18 : decode cX2_entry 18 = .ok (.iaload, 1) := by decide +kernel
theorem dX2_entry_19 : decode cX2_entry 19 = .ok (.invokevirtual 39, 3) := by decide +kernel
theorem dX2_entry_22 : decode cX2_entry 22 = .ok (.aload_n 0, 1) := by decide +kernel
theorem dX2_entry_23 : decode cX2_entry 23 = .ok (.iload_n 3, 1) := by decide +kernel
theorem dX2_entry_24 : decode cX2_entry 24 = .ok (.iconst 3, 1) := by decide +kernel
theorem dX2_entry_25 : decode cX2_entry 25 = .ok (.invokevirtual 39, 3) := by decide +kernel
theorem dX2_entry_28 : decode cX2_entry 28 = .ok (.aload_n 0, 1) := by decide +kernel
theorem dX2_entry_29 : decode cX2_entry 29 = .ok (.getfield 10, 3) := by decide +kernel
theorem dX2_entry_32 : decode cX2_entry 32 = .ok (.iload_n 1, 1) := by decide +kernel
theorem dX2_entry_33 : decode cX2_entry 33 = .ok (.iload_n 2, 1) := by decide +kernel
theorem dX2_entry_34 : decode cX2_entry 34 = .ok (.iload_n 3, 1) := by decide +kernel
theorem dX2_entry_35 : decode cX2_entry 35 = .ok (.invokevirtual 96, 3) := by decide +kernel
theorem dX2_entry_38 : decode cX2_entry 38 = .ok (.ireturn, 1) := by decide +kernel
theorem dX2_agree_0 : decode cX2_agree 0 = .ok (.aload_n 0, 1) := by decide +kernel
theorem dX2_agree_1 : decode cX2_agree 1 = .ok (.iload_n 1, 1) := by decide +kernel
theorem dX2_agree_2 : decode cX2_agree 2 = .ok (.invokevirtual 30, 3) := by decide +kernel
theorem dX2_agree_5 : decode cX2_agree 5 = .ok (.aload_n 0, 1) := by decide +kernel
theorem dX2_agree_6 : decode cX2_agree 6 = .ok (.iload_n 2, 1) := by decide +kernel
theorem dX2_agree_7 : decode cX2_agree 7 = .ok (.invokevirtual 30, 3) := by decide +kernel
theorem dX2_agree_10 : decode cX2_agree 10 = .ok (.aload_n 0, 1) := by decide +kernel
theorem dX2_agree_11 : decode cX2_agree 11 = .ok (.getfield 10, 3) := by decide +kernel
theorem dX2_agree_14 : decode cX2_agree 14 = .ok (.getfield 64, 3) := by decide +kernel
theorem dX2_agree_17 : decode cX2_agree 17 = .ok (.iload_n 1, 1) := by decide +kernel
theorem dX2_agree_18 : decode cX2_agree 18 = .ok (.iload_n 2, 1) := by decide +kernel
theorem dX2_agree_19 : decode cX2_agree 19 = .ok (.invokevirtual 100, 3) := by decide +kernel
theorem dX2_agree_22 : decode cX2_agree 22 = .ok (.ireturn, 1) := by decide +kernel
theorem dX2_newer_0 : decode cX2_newer 0 = .ok (.aload_n 0, 1) := by decide +kernel
theorem dX2_newer_1 : decode cX2_newer 1 = .ok (.iload_n 1, 1) := by decide +kernel
theorem dX2_newer_2 : decode cX2_newer 2 = .ok (.invokevirtual 30, 3) := by decide +kernel
theorem dX2_newer_5 : decode cX2_newer 5 = .ok (.aload_n 0, 1) := by decide +kernel
theorem dX2_newer_6 : decode cX2_newer 6 = .ok (.iload_n 2, 1) := by decide +kernel
theorem dX2_newer_7 : decode cX2_newer 7 = .ok (.invokevirtual 30, 3) := by decide +kernel
theorem dX2_newer_10 : decode cX2_newer 10 = .ok (.aload_n 0, 1) := by decide +kernel
theorem dX2_newer_11 : decode cX2_newer 11 = .ok (.getfield 10, 3) := by decide +kernel
theorem dX2_newer_14 : decode cX2_newer 14 = .ok (.getfield 64, 3) := by decide +kernel
theorem dX2_newer_17 : decode cX2_newer 17 = .ok (.iload_n 1, 1) := by decide +kernel
theorem dX2_newer_18 : decode cX2_newer 18 = .ok (.iload_n 2, 1) := by decide +kernel
theorem dX2_newer_19 : decode cX2_newer 19 = .ok (.invokevirtual 103, 3) := by decide +kernel
theorem dX2_newer_22 : decode cX2_newer 22 = .ok (.ireturn, 1) := by decide +kernel
theorem dX2_leader_0 : decode cX2_leader 0 = .ok (.iconst (-1), 1) := by decide +kernel
theorem dX2_leader_1 : decode cX2_leader 1 = .ok (.istore_n 1, 1) := by decide +kernel
theorem dX2_leader_2 : decode cX2_leader 2 = .ok (.iconst 0, 1) := by decide +kernel
theorem dX2_leader_3 : decode cX2_leader 3 = .ok (.istore_n 2, 1) := by decide +kernel
theorem dX2_leader_4 : decode cX2_leader 4 = .ok (.iload_n 2, 1) := by decide +kernel
theorem dX2_leader_5 : decode cX2_leader 5 = .ok (.aload_n 0, 1) := by decide +kernel
theorem dX2_leader_6 : decode cX2_leader 6 = .ok (.getfield 10, 3) := by decide +kernel
theorem dX2_leader_9 : decode cX2_leader 9 = .ok (.getfield 107, 3) := by decide +kernel
theorem dX2_leader_12 : decode cX2_leader 12 = .ok (.if_icmp .ge 48, 3) := by decide +kernel
theorem dX2_leader_15 : decode cX2_leader 15 = .ok (.aload_n 0, 1) := by decide +kernel
theorem dX2_leader_16 : decode cX2_leader 16 = .ok (.getfield 10, 3) := by decide +kernel
theorem dX2_leader_19 : decode cX2_leader 19 = .ok (.iload_n 2, 1) := by decide +kernel
theorem dX2_leader_20 : decode cX2_leader 20 = .ok (.invokevirtual 55, 3) := by decide +kernel
theorem dX2_leader_23 : decode cX2_leader 23 = .ok (.ifCond .eq 31, 3) := by decide +kernel
theorem dX2_leader_26 : decode cX2_leader 26 = .ok (.iload_n 1, 1) := by decide +kernel
theorem dX2_leader_27 : decode cX2_leader 27 = .ok (.iconst (-1), 1) := by decide +kernel
theorem dX2_leader_28 : decode cX2_leader 28 = .ok (.if_icmp .eq 24, 3) := by decide +kernel
theorem dX2_leader_31 : decode cX2_leader 31 = .ok (.aload_n 0, 1) := by decide +kernel
theorem dX2_leader_32 : decode cX2_leader 32 = .ok (.getfield 10, 3) := by decide +kernel
theorem dX2_leader_35 : decode cX2_leader 35 = .ok (.getfield 75, 3) := by decide +kernel
theorem dX2_leader_38 : decode cX2_leader 38 = .ok (.iload_n 2, 1) := by decide +kernel
theorem dX2_leader_39 : decode cX2_leader 39 = .ok (.iaload, 1) := by decide +kernel
theorem dX2_leader_40 : decode cX2_leader 40 = .ok (.aload_n 0, 1) := by decide +kernel
theorem dX2_leader_41 : decode cX2_leader 41 = .ok (.getfield 10, 3) := by decide +kernel
theorem dX2_leader_44 : decode cX2_leader 44 = .ok (.getfield 75, 3) := by decide +kernel
theorem dX2_leader_47 : decode cX2_leader 47 = .ok (.iload_n 1, 1) := by decide +kernel
theorem dX2_leader_48 : decode cX2_leader 48 = .ok (.iaload, 1) := by decide +kernel
theorem dX2_leader_49 : decode cX2_leader 49 = .ok (.if_icmp .le 5, 3) := by decide +kernel
theorem dX2_leader_52 : decode cX2_leader 52 = .ok (.iload_n 2, 1) := by decide +kernel
theorem dX2_leader_53 : decode cX2_leader 53 = .ok (.istore_n 1, 1) := by decide +kernel
theorem dX2_leader_54 : decode cX2_leader 54 = .ok (.iinc 2 1, 3) := by decide +kernel
theorem dX2_leader_57 : decode cX2_leader 57 = .ok (.goto (-53), 3) := by decide +kernel
theorem dX2_leader_60 : decode cX2_leader 60 = .ok (.iload_n 1, 1) := by decide +kernel
theorem dX2_leader_61 : decode cX2_leader 61 = .ok (.ireturn, 1) := by decide +kernel
theorem dX2_count_0 : decode cX2_count 0 = .ok (.aload_n 0, 1) := by decide +kernel
theorem dX2_count_1 : decode cX2_count 1 = .ok (.iload_n 1, 1) := by decide +kernel
theorem dX2_count_2 : decode cX2_count 2 = .ok (.bipush 10, 2) := by decide +kernel
theorem dX2_count_4 : decode cX2_count 4 = .ok (.invokevirtual 39, 3) := by decide +kernel
theorem dX2_count_7 : decode cX2_count 7 = .ok (.aload_n 0, 1) := by decide +kernel
theorem dX2_count_8 : decode cX2_count 8 = .ok (.getfield 10, 3) := by decide +kernel
theorem dX2_count_11 : decode cX2_count 11 = .ok (.iload_n 1, 1) := by decide +kernel
theorem dX2_count_12 : decode cX2_count 12 = .ok (.invokevirtual 110, 3) := by decide +kernel
theorem dX2_count_15 : decode cX2_count 15 = .ok (.ireturn, 1) := by decide +kernel
theorem dX2_harbour_0 : decode cX2_harbour 0 = .ok (.aload_n 0, 1) := by decide +kernel
theorem dX2_harbour_1 : decode cX2_harbour 1 = .ok (.iload_n 1, 1) := by decide +kernel
theorem dX2_harbour_2 : decode cX2_harbour 2 = .ok (.iconst 3, 1) := by decide +kernel
theorem dX2_harbour_3 : decode cX2_harbour 3 = .ok (.invokevirtual 39, 3) := by decide +kernel
theorem dX2_harbour_6 : decode cX2_harbour 6 = .ok (.aload_n 0, 1) := by decide +kernel
theorem dX2_harbour_7 : decode cX2_harbour 7 = .ok (.iload_n 2, 1) := by decide +kernel
theorem dX2_harbour_8 : decode cX2_harbour 8 = .ok (.iconst 3, 1) := by decide +kernel
theorem dX2_harbour_9 : decode cX2_harbour 9 = .ok (.invokevirtual 39, 3) := by decide +kernel
theorem dX2_harbour_12 : decode cX2_harbour 12 = .ok (.iload_n 2, 1) := by decide +kernel
theorem dX2_harbour_13 : decode cX2_harbour 13 = .ok (.iconst 2, 1) := by decide +kernel
theorem dX2_harbour_14 : decode cX2_harbour 14 = .ok (.if_icmp .ne 12, 3) := by decide +kernel
theorem dX2_harbour_17 : decode cX2_harbour 17 = .ok (.aload_n 0, 1) := by decide +kernel
theorem dX2_harbour_18 : decode cX2_harbour 18 = .ok (.getfield 10, 3) := by decide +kernel
theorem dX2_harbour_21 : decode cX2_harbour 21 = .ok (.iload_n 1, 1) := by decide +kernel
theorem dX2_harbour_22 : decode cX2_harbour 22 = .ok (.invokevirtual 114, 3) := by decide +kernel
theorem dX2_harbour_25 : decode cX2_harbour 25 = .ok (.ireturn, 1) := by decide +kernel
theorem dX2_harbour_26 : decode cX2_harbour 26 = .ok (.aload_n 0, 1) := by decide +kernel
theorem dX2_harbour_27 : decode cX2_harbour 27 = .ok (.getfield 10, 3) := by decide +kernel
theorem dX2_harbour_30 : decode cX2_harbour 30 = .ok (.iload_n 1, 1) := by decide +kernel
theorem dX2_harbour_31 : decode cX2_harbour 31 = .ok (.invokevirtual 117, 3) := by decide +kernel
theorem dX2_harbour_34 : decode cX2_harbour 34 = .ok (.istore_n 3, 1) := by decide +kernel
theorem dX2_harbour_35 : decode cX2_harbour 35 = .ok (.iload_n 2, 1) := by decide +kernel
theorem dX2_harbour_36 : decode cX2_harbour 36 = .ok (.iconst 1, 1) := by decide +kernel
theorem dX2_harbour_37 : decode cX2_harbour 37 = .ok (.if_icmp .ne 20, 3) := by decide +kernel
theorem dX2_harbour_40 : decode cX2_harbour 40 = .ok (.aload_n 0, 1) := by decide +kernel
theorem dX2_harbour_41 : decode cX2_harbour 41 = .ok (.getfield 10, 3) := by decide +kernel
theorem dX2_harbour_44 : decode cX2_harbour 44 = .ok (.iload_n 3, 1) := by decide +kernel
theorem dX2_harbour_45 : decode cX2_harbour 45 = .ok (.invokevirtual 120, 3) := by decide +kernel
theorem dX2_harbour_48 : decode cX2_harbour 48 = .ok (.ifCond .eq 7, 3) := by decide +kernel
theorem dX2_harbour_51 : decode cX2_harbour 51 = .ok (.iconst 1, 1) := by decide +kernel
theorem dX2_harbour_52 : decode cX2_harbour 52 = .ok (.goto 4, 3) := by decide +kernel
theorem dX2_harbour_55 : decode cX2_harbour 55 = .ok (.iconst 0, 1) := by decide +kernel
theorem dX2_harbour_56 : decode cX2_harbour 56 = .ok (.ireturn, 1) := by decide +kernel
theorem dX2_harbour_57 : decode cX2_harbour 57 = .ok (.iload_n 3, 1) := by decide +kernel
theorem dX2_harbour_58 : decode cX2_harbour 58 = .ok (.ireturn, 1) := by decide +kernel
theorem dX2_until_0 : decode cX2_until 0 = .ok (.aload_n 0, 1) := by decide +kernel
theorem dX2_until_1 : decode cX2_until 1 = .ok (.getfield 16, 3) := by decide +kernel
theorem dX2_until_4 : decode cX2_until 4 = .ok (.aload_n 0, 1) := by decide +kernel
theorem dX2_until_5 : decode cX2_until 5 = .ok (.getfield 10, 3) := by decide +kernel
theorem dX2_until_8 : decode cX2_until 8 = .ok (.invokevirtual 123, 3) := by decide +kernel
theorem dX2_until_11 : decode cX2_until 11 = .ok (.iconst 0, 1) := by decide +kernel
theorem dX2_until_12 : decode cX2_until 12 = .ok (.istore_n 1, 1) := by decide +kernel
theorem dX2_until_13 : decode cX2_until 13 = .ok (.iload_n 1, 1) := by decide +kernel
theorem dX2_until_14 : decode cX2_until 14 = .ok (.bipush 60, 2) := by decide +kernel
theorem dX2_until_16 : decode cX2_until 16 = .ok (.if_icmp .gt 29, 3) := by decide +kernel
theorem dX2_until_19 : decode cX2_until 19 = .ok (.aload_n 0, 1) := by decide +kernel
theorem dX2_until_20 : decode cX2_until 20 = .ok (.getfield 16, 3) := by decide +kernel
theorem dX2_until_23 : decode cX2_until 23 = .ok (.invokevirtual 127, 3) := by decide +kernel
theorem dX2_until_26 : decode cX2_until 26 = .ok (.ifCond .eq 5, 3) := by decide +kernel
theorem dX2_until_29 : decode cX2_until 29 = .ok (.iload_n 1, 1) := by decide +kernel
theorem dX2_until_30 : decode cX2_until 30 = .ok (.ireturn, 1) := by decide +kernel
theorem dX2_until_31 : decode cX2_until 31 = .ok (.aload_n 0, 1) := by decide +kernel
theorem dX2_until_32 : decode cX2_until 32 = .ok (.getfield 16, 3) := by decide +kernel
theorem dX2_until_35 : decode cX2_until 35 = .ok (.iconst 1, 1) := by decide +kernel
theorem dX2_until_36 : decode cX2_until 36 = .ok (.invokevirtual 89, 3) := by decide +kernel
theorem dX2_until_39 : decode cX2_until 39 = .ok (.iinc 1 1, 3) := by decide +kernel
theorem dX2_until_42 : decode cX2_until 42 = .ok (.goto (-29), 3) := by decide +kernel
theorem dX2_until_45 : decode cX2_until 45 = .ok (.iconst (-1), 1) := by decide +kernel
theorem dX2_until_46 : decode cX2_until 46 = .ok (.ireturn, 1) := by decide +kernel
theorem dX2_foresee_0 : decode cX2_foresee 0 = .ok (.aload_n 0, 1) := by decide +kernel
theorem dX2_foresee_1 : decode cX2_foresee 1 = .ok (.iload_n 1, 1) := by decide +kernel
theorem dX2_foresee_2 : decode cX2_foresee 2 = .ok (.bipush 50, 2) := by decide +kernel
theorem dX2_foresee_4 : decode cX2_foresee 4 = .ok (.invokevirtual 82, 3) := by decide +kernel
theorem dX2_foresee_7 : decode cX2_foresee 7 = .ok (.iload_n 2, 1) := by decide +kernel
theorem dX2_foresee_8 : decode cX2_foresee 8 = .ok (.iconst 3, 1) := by decide +kernel
theorem dX2_foresee_9 : decode cX2_foresee 9 = .ok (.if_icmp .lt 9, 3) := by decide +kernel
theorem dX2_foresee_12 : decode cX2_foresee 12 = .ok (.iload_n 2, 1) := by decide +kernel
theorem dX2_foresee_13 : decode cX2_foresee 13 = .ok (.bipush 10, 2) := by decide +kernel
theorem dX2_foresee_15 : decode cX2_foresee 15 = .ok (.if_icmp .lt 13, 3) := by decide +kernel
theorem dX2_foresee_18 : decode cX2_foresee 18 = .ok (.new 131, 3) := by decide +kernel
theorem dX2_foresee_21 : decode cX2_foresee 21 = .ok (.dup, 1) := by decide +kernel
theorem dX2_foresee_22 : decode cX2_foresee 22 = .ok (.ldc 133, 2) := by decide +kernel
theorem dX2_foresee_24 : decode cX2_foresee 24 = .ok (.invokespecial 135, 3) := by decide +kernel
theorem dX2_foresee_27 : decode cX2_foresee 27 = .ok (.athrow, 1) := by decide +kernel
theorem dX2_foresee_28 : decode cX2_foresee 28 = .ok (.aload_n 0, 1) := by decide +kernel
theorem dX2_foresee_29 : decode cX2_foresee 29 = .ok (.getfield 16, 3) := by decide +kernel
theorem dX2_foresee_32 : decode cX2_foresee 32 = .ok (.aload_n 0, 1) := by decide +kernel
theorem dX2_foresee_33 : decode cX2_foresee 33 = .ok (.getfield 10, 3) := by decide +kernel
theorem dX2_foresee_36 : decode cX2_foresee 36 = .ok (.invokevirtual 123, 3) := by decide +kernel
theorem dX2_foresee_39 : decode cX2_foresee 39 = .ok (.aload_n 0, 1) := by decide +kernel
theorem dX2_foresee_40 : decode cX2_foresee 40 = .ok (.getfield 16, 3) := by decide +kernel
theorem dX2_foresee_43 : decode cX2_foresee 43 = .ok (.iload_n 1, 1) := by decide +kernel
theorem dX2_foresee_44 : decode cX2_foresee 44 = .ok (.invokevirtual 89, 3) := by decide +kernel
theorem dX2_foresee_47 : decode cX2_foresee 47 = .ok (.aload_n 0, 1) := by decide +kernel
theorem dX2_foresee_48 : decode cX2_foresee 48 = .ok (.getfield 16, 3) := by decide +kernel
theorem dX2_foresee_51 : decode cX2_foresee 51 = .ok (.iload_n 2, 1) := by decide +kernel
theorem dX2_foresee_52 : decode cX2_foresee 52 = .ok (.invokevirtual 110, 3) := by decide +kernel
theorem dX2_foresee_55 : decode cX2_foresee 55 = .ok (.ireturn, 1) := by decide +kernel
theorem dX2_advise_0 : decode cX2_advise 0 = .ok (.aload_n 0, 1) := by decide +kernel
theorem dX2_advise_1 : decode cX2_advise 1 = .ok (.iload_n 1, 1) := by decide +kernel
theorem dX2_advise_2 : decode cX2_advise 2 = .ok (.invokevirtual 30, 3) := by decide +kernel
theorem dX2_advise_5 : decode cX2_advise 5 = .ok (.aload_n 0, 1) := by decide +kernel
theorem dX2_advise_6 : decode cX2_advise 6 = .ok (.iload_n 2, 1) := by decide +kernel
theorem dX2_advise_7 : decode cX2_advise 7 = .ok (.bipush 20, 2) := by decide +kernel
theorem dX2_advise_9 : decode cX2_advise 9 = .ok (.invokevirtual 82, 3) := by decide +kernel
theorem dX2_advise_12 : decode cX2_advise 12 = .ok (.aload_n 0, 1) := by decide +kernel
theorem dX2_advise_13 : decode cX2_advise 13 = .ok (.getfield 10, 3) := by decide +kernel
theorem dX2_advise_16 : decode cX2_advise 16 = .ok (.getfield 46, 3) := by decide +kernel
theorem dX2_advise_19 : decode cX2_advise 19 = .ok (.iload_n 1, 1) := by decide +kernel
theorem dX2_advise_20 : decode cX2_advise 20 = .ok (.baload, 1) := by decide +kernel
theorem dX2_advise_21 : decode cX2_advise 21 = .ok (.ifCond .ne 13, 3) := by decide +kernel
theorem dX2_advise_24 : decode cX2_advise 24 = .ok (.new 59, 3) := by decide +kernel
theorem dX2_advise_27 : decode cX2_advise 27 = .ok (.dup, 1) := by decide +kernel
theorem dX2_advise_28 : decode cX2_advise 28 = .ok (.ldc 136, 2) := by decide +kernel
theorem dX2_advise_30 : decode cX2_advise 30 = .ok (.invokespecial 63, 3) := by decide +kernel
theorem dX2_advise_33 : decode cX2_advise 33 = .ok (.athrow, 1) := by decide +kernel
theorem dX2_advise_34 : decode cX2_advise 34 = .ok (.iconst 0, 1) := by decide +kernel
theorem dX2_advise_35 : decode cX2_advise 35 = .ok (.istore_n 3, 1) := by decide +kernel
theorem dX2_advise_36 : decode cX2_advise 36 = .ok (.iconst (-1), 1) := by decide +kernel
theorem dX2_advise_37 : decode cX2_advise 37 = .ok (.istore 4, 2) := by decide +kernel
theorem dX2_advise_39 : decode cX2_advise 39 = .ok (.iconst 0, 1) := by decide +kernel
theorem dX2_advise_40 : decode cX2_advise 40 = .ok (.istore 5, 2) := by decide +kernel
theorem dX2_advise_42 : decode cX2_advise 42 = .ok (.iload 5, 2) := by decide +kernel
theorem dX2_advise_44 : decode cX2_advise 44 = .ok (.iconst 3, 1) := by decide +kernel
theorem dX2_advise_45 : decode cX2_advise 45 = .ok (.if_icmp .ge 62, 3) := by decide +kernel
theorem dX2_advise_48 : decode cX2_advise 48 = .ok (.aload_n 0, 1) := by decide +kernel
theorem dX2_advise_49 : decode cX2_advise 49 = .ok (.getfield 16, 3) := by decide +kernel
theorem dX2_advise_52 : decode cX2_advise 52 = .ok (.aload_n 0, 1) := by decide +kernel
theorem dX2_advise_53 : decode cX2_advise 53 = .ok (.getfield 10, 3) := by decide +kernel
theorem dX2_advise_56 : decode cX2_advise 56 = .ok (.invokevirtual 123, 3) := by decide +kernel
theorem dX2_advise_59 : decode cX2_advise 59 = .ok (.aload_n 0, 1) := by decide +kernel
theorem dX2_advise_60 : decode cX2_advise 60 = .ok (.getfield 16, 3) := by decide +kernel
theorem dX2_advise_63 : decode cX2_advise 63 = .ok (.getfield 43, 3) := by decide +kernel
theorem dX2_advise_66 : decode cX2_advise 66 = .ok (.iload_n 1, 1) := by decide +kernel
theorem dX2_advise_67 : decode cX2_advise 67 = .ok (.iload 5, 2) := by decide +kernel
theorem dX2_advise_69 : decode cX2_advise 69 = .ok (.iastore, 1) := by decide +kernel
theorem dX2_advise_70 : decode cX2_advise 70 = .ok (.aload_n 0, 1) := by decide +kernel
theorem dX2_advise_71 : decode cX2_advise 71 = .ok (.getfield 16, 3) := by decide +kernel
theorem dX2_advise_74 : decode cX2_advise 74 = .ok (.iload_n 2, 1) := by decide +kernel
theorem dX2_advise_75 : decode cX2_advise 75 = .ok (.invokevirtual 89, 3) := by decide +kernel
theorem dX2_advise_78 : decode cX2_advise 78 = .ok (.aload_n 0, 1) := by decide +kernel
theorem dX2_advise_79 : decode cX2_advise 79 = .ok (.getfield 16, 3) := by decide +kernel
theorem dX2_advise_82 : decode cX2_advise 82 = .ok (.invokevirtual 138, 3) := by decide +kernel
theorem dX2_advise_85 : decode cX2_advise 85 = .ok (.istore 6, 2) := by decide +kernel
theorem dX2_advise_87 : decode cX2_advise 87 = .ok (.iload 6, 2) := by decide +kernel
theorem dX2_advise_89 : decode cX2_advise 89 = .ok (.iload 4, 2) := by decide +kernel
theorem dX2_advise_91 : decode cX2_advise 91 = .ok (.if_icmp .le 10, 3) := by decide +kernel
theorem dX2_advise_94 : decode cX2_advise 94 = .ok (.iload 5, 2) := by decide +kernel
theorem dX2_advise_96 : decode cX2_advise 96 = .ok (.istore_n 3, 1) := by decide +kernel
theorem dX2_advise_97 : decode cX2_advise 97 = .ok (.iload 6, 2) := by decide +kernel
theorem dX2_advise_99 : decode cX2_advise 99 = .ok (.istore 4, 2) := by decide +kernel
theorem dX2_advise_101 : decode cX2_advise 101 = .ok (.iinc 5 1, 3) := by decide +kernel
theorem dX2_advise_104 : decode cX2_advise 104 = .ok (.goto (-62), 3) := by decide +kernel
theorem dX2_advise_107 : decode cX2_advise 107 = .ok (.iload_n 3, 1) := by decide +kernel
theorem dX2_advise_108 : decode cX2_advise 108 = .ok (.ireturn, 1) := by decide +kernel
theorem dX2_mean_0 : decode cX2_mean 0 = .ok (.iconst 0, 1) := by decide +kernel
theorem dX2_mean_1 : decode cX2_mean 1 = .ok (.istore_n 1, 1) := by decide +kernel
theorem dX2_mean_2 : decode cX2_mean 2 = .ok (.iconst 0, 1) := by decide +kernel
theorem dX2_mean_3 : decode cX2_mean 3 = .ok (.istore_n 2, 1) := by decide +kernel
theorem dX2_mean_4 : decode cX2_mean 4 = .ok (.iload_n 2, 1) := by decide +kernel
theorem dX2_mean_5 : decode cX2_mean 5 = .ok (.aload_n 0, 1) := by decide +kernel
theorem dX2_mean_6 : decode cX2_mean 6 = .ok (.getfield 10, 3) := by decide +kernel
theorem dX2_mean_9 : decode cX2_mean 9 = .ok (.getfield 107, 3) := by decide +kernel
theorem dX2_mean_12 : decode cX2_mean 12 = .ok (.if_icmp .ge 24, 3) := by decide +kernel
theorem dX2_mean_15 : decode cX2_mean 15 = .ok (.iload_n 1, 1) := by decide +kernel
theorem dX2_mean_16 : decode cX2_mean 16 = .ok (.aload_n 0, 1) := by decide +kernel
theorem dX2_mean_17 : decode cX2_mean 17 = .ok (.getfield 10, 3) := by decide +kernel
theorem dX2_mean_20 : decode cX2_mean 20 = .ok (.getfield 64, 3) := by decide +kernel
theorem dX2_mean_23 : decode cX2_mean 23 = .ok (.getfield 142, 3) := by decide +kernel
theorem dX2_mean_26 : decode cX2_mean 26 = .ok (.iload_n 2, 1) := by decide +kernel
theorem dX2_mean_27 : decode cX2_mean 27 = .ok (.iaload, 1) := by decide +kernel
theorem dX2_mean_28 : decode cX2_mean 28 = .ok (.iadd, 1) := by decide +kernel
theorem dX2_mean_29 : decode cX2_mean 29 = .ok (.istore_n 1, 1) := by decide +kernel
theorem dX2_mean_30 : decode cX2_mean 30 = .ok (.iinc 2 1, 3) := by decide +kernel
theorem dX2_mean_33 : decode cX2_mean 33 = .ok (.goto (-29), 3) := by decide +kernel
theorem dX2_mean_36 : decode cX2_mean 36 = .ok (.aload_n 0, 1) := by decide +kernel
theorem dX2_mean_37 : decode cX2_mean 37 = .ok (.getfield 10, 3) := by decide +kernel
theorem dX2_mean_40 : decode cX2_mean 40 = .ok (.getfield 107, 3) := by decide +kernel
theorem dX2_mean_43 : decode cX2_mean 43 = .ok (.ifCond .le 17, 3) := by decide +kernel
theorem dX2_mean_46 : decode cX2_mean 46 = .ok (.iload_n 1, 1) := by decide +kernel
theorem dX2_mean_47 : decode cX2_mean 47 = .ok (.i2d, 1) := by decide +kernel
theorem dX2_mean_48 : decode cX2_mean 48 = .ok (.aload_n 0, 1) := by decide +kernel
theorem dX2_mean_49 : decode cX2_mean 49 = .ok (.getfield 10, 3) := by decide +kernel
theorem dX2_mean_52 : decode cX2_mean 52 = .ok (.getfield 107, 3) := by decide +kernel
theorem dX2_mean_55 : decode cX2_mean 55 = .ok (.i2d, 1) := by decide +kernel
theorem dX2_mean_56 : decode cX2_mean 56 = .ok (.ddiv, 1) := by decide +kernel
theorem dX2_mean_57 : decode cX2_mean 57 = .ok (.goto 4, 3) := by decide +kernel
theorem dX2_mean_60 : decode cX2_mean 60 = .ok (.dconst 0, 1) := by decide +kernel
theorem dX2_mean_61 : decode cX2_mean 61 = .ok (.dreturn, 1) := by decide +kernel
theorem dX2_digest_0 : decode cX2_digest 0 = .ok (.ldc2_w 145, 3) := by decide +kernel
theorem dX2_digest_3 : decode cX2_digest 3 = .ok (.lstore_n 1, 1) := by decide +kernel
theorem dX2_digest_4 : decode cX2_digest 4 = .ok (.iconst 0, 1) := by decide +kernel
theorem dX2_digest_5 : decode cX2_digest 5 = .ok (.istore_n 3, 1) := by decide +kernel
theorem dX2_digest_6 : decode cX2_digest 6 = .ok (.iload_n 3, 1) := by decide +kernel
theorem dX2_digest_7 : decode cX2_digest 7 = .ok (.bipush 10, 2) := by decide +kernel
theorem dX2_digest_9 : decode cX2_digest 9 = .ok (.if_icmp .ge 25, 3) := by decide +kernel
theorem dX2_digest_12 : decode cX2_digest 12 = .ok (.lload_n 1, 1) := by decide +kernel
theorem dX2_digest_13 : decode cX2_digest 13 = .ok (.ldc2_w 147, 3) := by decide +kernel
theorem dX2_digest_16 : decode cX2_digest 16 = .ok (.lmul, 1) := by decide +kernel
theorem dX2_digest_17 : decode cX2_digest 17 = .ok (.aload_n 0, 1) := by decide +kernel
theorem dX2_digest_18 : decode cX2_digest 18 = .ok (.getfield 10, 3) := by decide +kernel
theorem dX2_digest_21 : decode cX2_digest 21 = .ok (.iload_n 3, 1) := by decide +kernel
theorem dX2_digest_22 : decode cX2_digest 22 = .ok (.invokevirtual 110, 3) := by decide +kernel
theorem dX2_digest_25 : decode cX2_digest 25 = .ok (.i2l, 1) := by decide +kernel
theorem dX2_digest_26 : decode cX2_digest 26 = .ok (.ladd, 1) := by decide +kernel
theorem dX2_digest_27 : decode cX2_digest 27 = .ok (.lstore_n 1, 1) := by decide +kernel
theorem dX2_digest_28 : decode cX2_digest 28 = .ok (.iinc 3 1, 3) := by decide +kernel
theorem dX2_digest_31 : decode cX2_digest 31 = .ok (.goto (-25), 3) := by decide +kernel
theorem dX2_digest_34 : decode cX2_digest 34 = .ok (.iconst 0, 1) := by decide +kernel
theorem dX2_digest_35 : decode cX2_digest 35 = .ok (.istore_n 3, 1) := by decide +kernel
theorem dX2_digest_36 : decode cX2_digest 36 = .ok (.iload_n 3, 1) := by decide +kernel
theorem dX2_digest_37 : decode cX2_digest 37 = .ok (.aload_n 0, 1) := by decide +kernel
theorem dX2_digest_38 : decode cX2_digest 38 = .ok (.getfield 10, 3) := by decide +kernel
theorem dX2_digest_41 : decode cX2_digest 41 = .ok (.getfield 107, 3) := by decide +kernel
theorem dX2_digest_44 : decode cX2_digest 44 = .ok (.if_icmp .ge 16, 3) := by decide +kernel
theorem dX2_digest_47 : decode cX2_digest 47 = .ok (.aload_n 0, 1) := by decide +kernel
theorem dX2_digest_48 : decode cX2_digest 48 = .ok (.lload_n 1, 1) := by decide +kernel
theorem dX2_digest_49 : decode cX2_digest 49 = .ok (.iload_n 3, 1) := by decide +kernel
theorem dX2_digest_50 : decode cX2_digest 50 = .ok (.invokevirtual 149, 3) := by decide +kernel
theorem dX2_digest_53 : decode cX2_digest 53 = .ok (.lstore_n 1, 1) := by decide +kernel
theorem dX2_digest_54 : decode cX2_digest 54 = .ok (.iinc 3 1, 3) := by decide +kernel
theorem dX2_digest_57 : decode cX2_digest 57 = .ok (.goto (-21), 3) := by decide +kernel
theorem dX2_digest_60 : decode cX2_digest 60 = .ok (.lload_n 1, 1) := by decide +kernel
theorem dX2_digest_61 : decode cX2_digest 61 = .ok (.lreturn, 1) := by decide +kernel
theorem dX2_digestOfBoat_0 : decode cX2_digestOfBoat 0 = .ok (.lload_n 1, 1) := by decide +kernel
theorem dX2_digestOfBoat_1 : decode cX2_digestOfBoat 1 = .ok (.lstore 4, 2) := by decide +kernel
theorem dX2_digestOfBoat_3 : decode cX2_digestOfBoat 3 = .ok (.iconst 0, 1) := by decide +kernel
theorem dX2_digestOfBoat_4 : decode cX2_digestOfBoat 4 = .ok (.istore 6, 2) := by decide +kernel
theorem dX2_digestOfBoat_6 : decode cX2_digestOfBoat 6 = .ok (.iload 6, 2) := by decide +kernel
theorem dX2_digestOfBoat_8 : decode cX2_digestOfBoat 8 = .ok (.bipush 10, 2) := by decide +kernel
theorem dX2_digestOfBoat_10 : decode cX2_digestOfBoat 10 = .ok (.if_icmp .ge 29, 3) := by decide +kernel
theorem dX2_digestOfBoat_13 : decode cX2_digestOfBoat 13 = .ok (.lload 4, 2) := by decide +kernel
theorem dX2_digestOfBoat_15 : decode cX2_digestOfBoat 15 = .ok (.ldc2_w 147, 3) := by decide +kernel
theorem dX2_digestOfBoat_18 : decode cX2_digestOfBoat 18 = .ok (.lmul, 1) := by decide +kernel
theorem dX2_digestOfBoat_19 : decode cX2_digestOfBoat 19 = .ok (.aload_n 0, 1) := by decide +kernel
theorem dX2_digestOfBoat_20 : decode cX2_digestOfBoat 20 = .ok (.getfield 10, 3) := by decide +kernel
theorem dX2_digestOfBoat_23 : decode cX2_digestOfBoat 23 = .ok (.iload_n 3, 1) := by decide +kernel
theorem dX2_digestOfBoat_24 : decode cX2_digestOfBoat 24 = .ok (.iload 6, 2) := by decide +kernel
theorem dX2_digestOfBoat_26 : decode cX2_digestOfBoat 26 = .ok (.invokevirtual 92, 3) := by decide +kernel
theorem dX2_digestOfBoat_29 : decode cX2_digestOfBoat 29 = .ok (.i2l, 1) := by decide +kernel
theorem dX2_digestOfBoat_30 : decode cX2_digestOfBoat 30 = .ok (.ladd, 1) := by decide +kernel
theorem dX2_digestOfBoat_31 : decode cX2_digestOfBoat 31 = .ok (.lstore 4, 2) := by decide +kernel
theorem dX2_digestOfBoat_33 : decode cX2_digestOfBoat 33 = .ok (.iinc 6 1, 3) := by decide +kernel
theorem dX2_digestOfBoat_36 : decode cX2_digestOfBoat 36 = .ok (.goto (-30), 3) := by decide +kernel
theorem dX2_digestOfBoat_39 : decode cX2_digestOfBoat 39 = .ok (.iconst 0, 1) := by decide +kernel
theorem dX2_digestOfBoat_40 : decode cX2_digestOfBoat 40 = .ok (.istore 6, 2) := by decide +kernel
theorem dX2_digestOfBoat_42 : decode cX2_digestOfBoat 42 = .ok (.iload 6, 2) := by decide +kernel
theorem dX2_digestOfBoat_44 : decode cX2_digestOfBoat 44 = .ok (.aload_n 0, 1) := by decide +kernel
theorem dX2_digestOfBoat_45 : decode cX2_digestOfBoat 45 = .ok (.getfield 10, 3) := by decide +kernel
theorem dX2_digestOfBoat_48 : decode cX2_digestOfBoat 48 = .ok (.getfield 64, 3) := by decide +kernel
theorem dX2_digestOfBoat_51 : decode cX2_digestOfBoat 51 = .ok (.getfield 68, 3) := by decide +kernel
theorem dX2_digestOfBoat_54 : decode cX2_digestOfBoat 54 = .ok (.iload_n 3, 1) := by decide +kernel
theorem dX2_digestOfBoat_55 : decode cX2_digestOfBoat 55 = .ok (.iaload, 1) := by decide +kernel
theorem dX2_digestOfBoat_56 : decode cX2_digestOfBoat 56 = .ok (.if_icmp .ge 46, 3) := by decide +kernel
theorem dX2_digestOfBoat_59 : decode cX2_digestOfBoat 59 = .ok (.iconst 0, 1) := by decide +kernel
theorem dX2_digestOfBoat_60 : decode cX2_digestOfBoat 60 = .ok (.istore 7, 2) := by decide +kernel
theorem dX2_digestOfBoat_62 : decode cX2_digestOfBoat 62 = .ok (.iload 7, 2) := by decide +kernel
theorem dX2_digestOfBoat_64 : decode cX2_digestOfBoat 64 = .ok (.iconst 3, 1) := by decide +kernel
theorem dX2_digestOfBoat_65 : decode cX2_digestOfBoat 65 = .ok (.if_icmp .ge 31, 3) := by decide +kernel
theorem dX2_digestOfBoat_68 : decode cX2_digestOfBoat 68 = .ok (.lload 4, 2) := by decide +kernel
theorem dX2_digestOfBoat_70 : decode cX2_digestOfBoat 70 = .ok (.ldc2_w 147, 3) := by decide +kernel
theorem dX2_digestOfBoat_73 : decode cX2_digestOfBoat 73 = .ok (.lmul, 1) := by decide +kernel
theorem dX2_digestOfBoat_74 : decode cX2_digestOfBoat 74 = .ok (.aload_n 0, 1) := by decide +kernel
theorem dX2_digestOfBoat_75 : decode cX2_digestOfBoat 75 = .ok (.getfield 10, 3) := by decide +kernel
theorem dX2_digestOfBoat_78 : decode cX2_digestOfBoat 78 = .ok (.iload_n 3, 1) := by decide +kernel
theorem dX2_digestOfBoat_79 : decode cX2_digestOfBoat 79 = .ok (.iload 6, 2) := by decide +kernel
theorem dX2_digestOfBoat_81 : decode cX2_digestOfBoat 81 = .ok (.iload 7, 2) := by decide +kernel
theorem dX2_digestOfBoat_83 : decode cX2_digestOfBoat 83 = .ok (.invokevirtual 96, 3) := by decide +kernel
theorem dX2_digestOfBoat_86 : decode cX2_digestOfBoat 86 = .ok (.i2l, 1) := by decide +kernel
theorem dX2_digestOfBoat_87 : decode cX2_digestOfBoat 87 = .ok (.ladd, 1) := by decide +kernel
theorem dX2_digestOfBoat_88 : decode cX2_digestOfBoat 88 = .ok (.lstore 4, 2) := by decide +kernel
theorem dX2_digestOfBoat_90 : decode cX2_digestOfBoat 90 = .ok (.iinc 7 1, 3) := by decide +kernel
theorem dX2_digestOfBoat_93 : decode cX2_digestOfBoat 93 = .ok (.goto (-31), 3) := by decide +kernel
theorem dX2_digestOfBoat_96 : decode cX2_digestOfBoat 96 = .ok (.iinc 6 1, 3) := by decide +kernel
theorem dX2_digestOfBoat_99 : decode cX2_digestOfBoat 99 = .ok (.goto (-57), 3) := by decide +kernel
theorem dX2_digestOfBoat_102 : decode cX2_digestOfBoat 102 = .ok (.lload 4, 2) := by decide +kernel
theorem dX2_digestOfBoat_104 : decode cX2_digestOfBoat 104 = .ok (.lreturn, 1) := by decide +kernel
theorem dX2_needBoat_0 : decode cX2_needBoat 0 = .ok (.iload_n 1, 1) := by decide +kernel
theorem dX2_needBoat_1 : decode cX2_needBoat 1 = .ok (.ifCond .lt 14, 3) := by decide +kernel
theorem dX2_needBoat_4 : decode cX2_needBoat 4 = .ok (.iload_n 1, 1) := by decide +kernel
theorem dX2_needBoat_5 : decode cX2_needBoat 5 = .ok (.aload_n 0, 1) := by decide +kernel
theorem dX2_needBoat_6 : decode cX2_needBoat 6 = .ok (.getfield 10, 3) := by decide +kernel
theorem dX2_needBoat_9 : decode cX2_needBoat 9 = .ok (.getfield 107, 3) := by decide +kernel
theorem dX2_needBoat_12 : decode cX2_needBoat 12 = .ok (.if_icmp .lt 13, 3) := by decide +kernel
theorem dX2_needBoat_15 : decode cX2_needBoat 15 = .ok (.new 131, 3) := by decide +kernel
theorem dX2_needBoat_18 : decode cX2_needBoat 18 = .ok (.dup, 1) := by decide +kernel
theorem dX2_needBoat_19 : decode cX2_needBoat 19 = .ok (.ldc 153, 2) := by decide +kernel
theorem dX2_needBoat_21 : decode cX2_needBoat 21 = .ok (.invokespecial 135, 3) := by decide +kernel
theorem dX2_needBoat_24 : decode cX2_needBoat 24 = .ok (.athrow, 1) := by decide +kernel
theorem dX2_needBoat_25 : decode cX2_needBoat 25 = .ok (.return_, 1) := by decide +kernel
theorem dX2_needBelow_0 : decode cX2_needBelow 0 = .ok (.iload_n 1, 1) := by decide +kernel
theorem dX2_needBelow_1 : decode cX2_needBelow 1 = .ok (.ifCond .lt 8, 3) := by decide +kernel
theorem dX2_needBelow_4 : decode cX2_needBelow 4 = .ok (.iload_n 1, 1) := by decide +kernel
theorem dX2_needBelow_5 : decode cX2_needBelow 5 = .ok (.iload_n 2, 1) := by decide +kernel
theorem dX2_needBelow_6 : decode cX2_needBelow 6 = .ok (.if_icmp .lt 13, 3) := by decide +kernel
theorem dX2_needBelow_9 : decode cX2_needBelow 9 = .ok (.new 131, 3) := by decide +kernel
theorem dX2_needBelow_12 : decode cX2_needBelow 12 = .ok (.dup, 1) := by decide +kernel
theorem dX2_needBelow_13 : decode cX2_needBelow 13 = .ok (.ldc 155, 2) := by decide +kernel
theorem dX2_needBelow_15 : decode cX2_needBelow 15 = .ok (.invokespecial 135, 3) := by decide +kernel
theorem dX2_needBelow_18 : decode cX2_needBelow 18 = .ok (.athrow, 1) := by decide +kernel
theorem dX2_needBelow_19 : decode cX2_needBelow 19 = .ok (.return_, 1) := by decide +kernel
theorem dX2_needHours_0 : decode cX2_needHours 0 = .ok (.iload_n 1, 1) := by decide +kernel
theorem dX2_needHours_1 : decode cX2_needHours 1 = .ok (.iconst 1, 1) := by decide +kernel
theorem dX2_needHours_2 : decode cX2_needHours 2 = .ok (.if_icmp .lt 8, 3) := by decide +kernel
theorem dX2_needHours_5 : decode cX2_needHours 5 = .ok (.iload_n 1, 1) := by decide +kernel
theorem dX2_needHours_6 : decode cX2_needHours 6 = .ok (.iload_n 2, 1) := by decide +kernel
theorem dX2_needHours_7 : decode cX2_needHours 7 = .ok (.if_icmp .le 13, 3) := by decide +kernel
theorem dX2_needHours_10 : decode cX2_needHours 10 = .ok (.new 23, 3) := by decide +kernel
theorem dX2_needHours_13 : decode cX2_needHours 13 = .ok (.dup, 1) := by decide +kernel
theorem dX2_needHours_14 : decode cX2_needHours 14 = .ok (.ldc 157, 2) := by decide +kernel
theorem dX2_needHours_16 : decode cX2_needHours 16 = .ok (.invokespecial 27, 3) := by decide +kernel
theorem dX2_needHours_19 : decode cX2_needHours 19 = .ok (.athrow, 1) := by decide +kernel
theorem dX2_needHours_20 : decode cX2_needHours 20 = .ok (.return_, 1) := by decide +kernel
end
section
theorem dX4_init_0 : decode cX4_init 0 = .ok (.aload_n 0, 1) := by decide +kernel
theorem dX4_init_1 : decode cX4_init 1 = .ok (.invokespecial 1, 3) := by decide +kernel
theorem dX4_init_4 : decode cX4_init 4 = .ok (.aload_n 0, 1) := by decide +kernel
theorem dX4_init_5 : decode cX4_init 5 = .ok (.new 7, 3) := by decide +kernel
theorem dX4_init_8 : decode cX4_init 8 = .ok (.dup, 1) := by decide +kernel
theorem dX4_init_9 : decode cX4_init 9 = .ok (.invokespecial 9, 3) := by decide +kernel
theorem dX4_init_12 : decode cX4_init 12 = .ok (.putfield 10, 3) := by decide +kernel
theorem dX4_init_15 : decode cX4_init 15 = .ok (.aload_n 0, 1) := by decide +kernel
theorem dX4_init_16 : decode cX4_init 16 = .ok (.new 7, 3) := by decide +kernel
theorem dX4_init_19 : decode cX4_init 19 = .ok (.dup, 1) := by decide +kernel
theorem dX4_init_20 : decode cX4_init 20 = .ok (.invokespecial 9, 3) := by decide +kernel
theorem dX4_init_23 : decode cX4_init 23 = .ok (.putfield 16, 3) := by decide +kernel
theorem dX4_init_26 : decode cX4_init 26 = .ok (.return_, 1) := by decide +kernel
theorem dX4_thrown_0 : decode cX4_thrown 0 = .ok (.aload_n 0, 1) := by decide +kernel
theorem dX4_thrown_1 : decode cX4_thrown 1 = .ok (.getfield 19, 3) := by decide +kernel
theorem dX4_thrown_4 : decode cX4_thrown 4 = .ok (.ireturn, 1) := by decide +kernel
theorem dX4_no_0 : decode cX4_no 0 = .ok (.aload_n 0, 1) := by decide +kernel
theorem dX4_no_1 : decode cX4_no 1 = .ok (.iload_n 1, 1) := by decide +kernel
theorem dX4_no_2 : decode cX4_no 2 = .ok (.putfield 19, 3) := by decide +kernel
theorem dX4_no_5 : decode cX4_no 5 = .ok (.iconst 0, 1) := by decide +kernel
theorem dX4_no_6 : decode cX4_no 6 = .ok (.ireturn, 1) := by decide +kernel
theorem dX4_isIn_0 : decode cX4_isIn 0 = .ok (.iload_n 0, 1) := by decide +kernel
theorem dX4_isIn_1 : decode cX4_isIn 1 = .ok (.iload_n 1, 1) := by decide +kernel
theorem dX4_isIn_2 : decode cX4_isIn 2 = .ok (.if_icmp .lt 12, 3) := by decide +kernel
theorem dX4_isIn_5 : decode cX4_isIn 5 = .ok (.iload_n 0, 1) := by decide +kernel
theorem dX4_isIn_6 : decode cX4_isIn 6 = .ok (.iload_n 2, 1) := by decide +kernel
theorem dX4_isIn_7 : decode cX4_isIn 7 = .ok (.if_icmp .gt 7, 3) := by decide +kernel
theorem dX4_isIn_10 : decode cX4_isIn 10 = .ok (.iconst 1, 1) := by decide +kernel
theorem dX4_isIn_11 : decode cX4_isIn 11 = .ok (.goto 4, 3) := by decide +kernel
theorem dX4_isIn_14 : decode cX4_isIn 14 = .ok (.iconst 0, 1) := by decide +kernel
theorem dX4_isIn_15 : decode cX4_isIn 15 = .ok (.ireturn, 1) := by decide +kernel
theorem dX4_isBoat_0 : decode cX4_isBoat 0 = .ok (.iload_n 1, 1) := by decide +kernel
theorem dX4_isBoat_1 : decode cX4_isBoat 1 = .ok (.iconst 0, 1) := by decide +kernel
theorem dX4_isBoat_2 : decode cX4_isBoat 2 = .ok (.aload_n 0, 1) := by decide +kernel
theorem dX4_isBoat_3 : decode cX4_isBoat 3 = .ok (.getfield 10, 3) := by decide +kernel
theorem dX4_isBoat_6 : decode cX4_isBoat 6 = .ok (.getfield 23, 3) := by decide +kernel
theorem dX4_isBoat_9 : decode cX4_isBoat 9 = .ok (.iconst 1, 1) := by decide +kernel
theorem dX4_isBoat_10 : decode cX4_isBoat 10 = .ok (.isub, 1) := by decide +kernel
theorem dX4_isBoat_11 : decode cX4_isBoat 11 = .ok (.invokestatic 26, 3) := by decide +kernel
theorem dX4_isBoat_14 : decode cX4_isBoat 14 = .ok (.ireturn, 1) := by decide +kernel
theorem dX4_fleet_0 : decode cX4_fleet 0 = .ok (.aload_n 0, 1) := by decide +kernel
theorem dX4_fleet_1 : decode cX4_fleet 1 = .ok (.iconst 0, 1) := by decide +kernel
theorem dX4_fleet_2 : decode cX4_fleet 2 = .ok (.putfield 19, 3) := by decide +kernel
theorem dX4_fleet_5 : decode cX4_fleet 5 = .ok (.iload_n 1, 1) := by decide +kernel
theorem dX4_fleet_6 : decode cX4_fleet 6 = .ok (.iconst 3, 1) := by decide +kernel
theorem dX4_fleet_7 : decode cX4_fleet 7 = .ok (.bipush 7, 2) := by decide +kernel
theorem dX4_fleet_9 : decode cX4_fleet 9 = .ok (.invokestatic 26, 3) := by decide +kernel
theorem dX4_fleet_12 : decode cX4_fleet 12 = .ok (.ifCond .ne 9, 3) := by decide +kernel
theorem dX4_fleet_15 : decode cX4_fleet 15 = .ok (.aload_n 0, 1) := by decide +kernel
theorem dX4_fleet_16 : decode cX4_fleet 16 = .ok (.iconst 1, 1) := by decide +kernel
theorem dX4_fleet_17 : decode cX4_fleet 17 = .ok (.invokevirtual 30, 3) := by decide +kernel
theorem dX4_fleet_20 : decode cX4_fleet 20 = .ok (.ireturn, 1) := by decide +kernel
theorem dX4_fleet_21 : decode cX4_fleet 21 = .ok (.aload_n 0, 1) := by decide +kernel
theorem dX4_fleet_22 : decode cX4_fleet 22 = .ok (.getfield 10, 3) := by decide +kernel
theorem dX4_fleet_25 : decode cX4_fleet 25 = .ok (.iload_n 1, 1) := by decide +kernel
theorem dX4_fleet_26 : decode cX4_fleet 26 = .ok (.invokevirtual 34, 3) := by decide +kernel
theorem dX4_fleet_29 : decode cX4_fleet 29 = .ok (.iload_n 1, 1) := by decide +kernel
theorem dX4_fleet_30 : decode cX4_fleet 30 = .ok (.iconst 2, 1) := by decide +kernel
theorem dX4_fleet_31 : decode cX4_fleet 31 = .ok (.idiv, 1) := by decide +kernel
theorem dX4_fleet_32 : decode cX4_fleet 32 = .ok (.iconst 1, 1) := by decide +kernel
theorem dX4_fleet_33 : decode cX4_fleet 33 = .ok (.iadd, 1) := by decide +kernel
theorem dX4_fleet_34 : decode cX4_fleet 34 = .ok (.ireturn, 1) := by decide +kernel
theorem dX4_setPatience_0 : decode cX4_setPatience 0 = .ok (.aload_n 0, 1) := by decide +kernel
theorem dX4_setPatience_1 : decode cX4_setPatience 1 = .ok (.iconst 0, 1) := by decide +kernel
theorem dX4_setPatience_2 : decode cX4_setPatience 2 = .ok (.putfield 19, 3) := by decide +kernel
theorem dX4_setPatience_5 : decode cX4_setPatience 5 = .ok (.aload_n 0, 1) := by decide +kernel
theorem dX4_setPatience_6 : decode cX4_setPatience 6 = .ok (.iload_n 1, 1) := by decide +kernel
theorem dX4_setPatience_7 : decode cX4_setPatience 7 = .ok (.invokevirtual 38, 3) := by decide +kernel
theorem dX4_setPatience_10 : decode cX4_setPatience 10 = .ok (.ifCond .ne 9, 3) := by decide +kernel
theorem dX4_setPatience_13 : decode cX4_setPatience 13 = .ok (.aload_n 0, 1) := by decide +kernel
theorem dX4_setPatience_14 : decode cX4_setPatience 14 = .ok (.iconst 1, 1) := by decide +kernel
theorem dX4_setPatience_15 : decode cX4_setPatience 15 = .ok (.invokevirtual 30, 3) := by decide +kernel
theorem dX4_setPatience_18 : decode cX4_setPatience 18 = .ok (.ireturn, 1) := by decide +kernel
theorem dX4_setPatience_19 : decode cX4_setPatience 19 = .ok (.iload_n 2, 1) := by decide +kernel
theorem dX4_setPatience_20 : decode cX4_setPatience 20 = .ok (.iconst 2, 1) := by decide +kernel
theorem dX4_setPatience_21 : decode cX4_setPatience 21 = .ok (.bipush 9, 2) := by decide +kernel
theorem dX4_setPatience_23 : decode cX4_setPatience 23 = .ok (.invokestatic 26, 3) := by decide +kernel
theorem dX4_setPatience_26 : decode cX4_setPatience 26 = .ok (.ifCond .ne 9, 3) := by decide +kernel
theorem dX4_setPatience_29 : decode cX4_setPatience 29 = .ok (.aload_n 0, 1) := by decide +kernel
theorem dX4_setPatience_30 : decode cX4_setPatience 30 = .ok (.iconst 2, 1) := by decide +kernel
theorem dX4_setPatience_31 : decode cX4_setPatience 31 = .ok (.invokevirtual 30, 3) := by decide +kernel
theorem dX4_setPatience_34 : decode cX4_setPatience 34 = .ok (.ireturn, 1) := by decide +kernel
theorem dX4_setPatience_35 : decode cX4_setPatience 35 = .ok (.aload_n 0, 1) := by decide +kernel
theorem dX4_setPatience_36 : decode cX4_setPatience 36 = .ok (.getfield 10, 3) := by decide +kernel
theorem dX4_setPatience_39 : decode cX4_setPatience 39 = .ok (.getfield 42, 3) := by decide +kernel
theorem dX4_setPatience_42 : decode cX4_setPatience 42 = .ok (.iload_n 1, 1) := by decide +kernel
theorem dX4_setPatience_43 : decode cX4_setPatience 43 = .ok (.iaload, 1) := by decide +kernel
theorem dX4_setPatience_44 : decode cX4_setPatience 44 = .ok (.istore_n 3, 1) := by decide +kernel
theorem dX4_setPatience_45 : decode cX4_setPatience 45 = .ok (.aload_n 0, 1) := by decide +kernel
theorem dX4_setPatience_46 : decode cX4_setPatience 46 = .ok (.getfield 10, 3) := by decide +kernel
theorem dX4_setPatience_49 : decode cX4_setPatience 49 = .ok (.getfield 42, 3) := by decide +kernel
theorem dX4_setPatience_52 : decode cX4_setPatience 52 = .ok (.iload_n 1, 1) := by decide +kernel
theorem dX4_setPatience_53 : decode cX4_setPatience 53 = .ok (.iload_n 2, 1) := by decide +kernel
theorem dX4_setPatience_54 : decode cX4_setPatience 54 = .ok (.iastore, 1) := by decide +kernel
theorem dX4_setPatience_55 : decode cX4_setPatience 55 = .ok (.iload_n 3, 1) := by decide +kernel
theorem dX4_setPatience_56 : decode cX4_setPatience 56 = .ok (.ireturn, 1) := by decide +kernel
theorem dX4_go_0 : decode cX4_go 0 = .ok (.aload_n 0, 1) := by decide +kernel
theorem dX4_go_1 : decode cX4_go 1 = .ok (.iconst 0, 1) := by decide +kernel
theorem dX4_go_2 : decode cX4_go 2 = .ok (.putfield 19, 3) := by decide +kernel
theorem dX4_go_5 : decode cX4_go 5 = .ok (.aload_n 0, 1) := by decide +kernel
theorem dX4_go_6 : decode cX4_go 6 = .ok (.iload_n 1, 1) := by decide +kernel
theorem dX4_go_7 : decode cX4_go 7 = .ok (.invokevirtual 38, 3) := by decide +kernel
theorem dX4_go_10 : decode cX4_go 10 = .ok (.ifCond .eq 12, 3) := by decide +kernel
theorem dX4_go_13 : decode cX4_go 13 = .ok (.iload_n 2, 1) := by decide +kernel
theorem dX4_go_14 : decode cX4_go 14 = .ok (.iconst 0, 1) := by decide +kernel
theorem dX4_go_15 : decode cX4_go 15 = .ok (.iconst 2, 1) := by decide +kernel
theorem dX4_go_16 : decode cX4_go 16 = .ok (.invokestatic 26, 3) := by decide +kernel
theorem dX4_go_19 : decode cX4_go 19 = .ok (.ifCond .ne 9, 3) := by decide +kernel
theorem dX4_go_22 : decode cX4_go 22 = .ok (.aload_n 0, 1) := by decide +kernel
theorem dX4_go_23 : decode cX4_go 23 = .ok (.iconst 1, 1) := by decide +kernel
theorem dX4_go_24 : decode cX4_go 24 = .ok (.invokevirtual 30, 3) := by decide +kernel
theorem dX4_go_27 : decode cX4_go 27 = .ok (.ireturn, 1) := by decide +kernel
theorem dX4_go_28 : decode cX4_go 28 = .ok (.aload_n 0, 1) := by decide +kernel
theorem dX4_go_29 : decode cX4_go 29 = .ok (.getfield 10, 3) := by decide +kernel
theorem dX4_go_32 : decode cX4_go 32 = .ok (.getfield 46, 3) := by decide +kernel
theorem dX4_go_35 : decode cX4_go 35 = .ok (.iload_n 1, 1) := by decide +kernel
theorem dX4_go_36 : decode cX4_go 36 = .ok (.iaload, 1) := by decide +kernel
theorem dX4_go_37 : decode cX4_go 37 = .ok (.istore_n 3, 1) := by decide +kernel
theorem dX4_go_38 : decode cX4_go 38 = .ok (.aload_n 0, 1) := by decide +kernel
theorem dX4_go_39 : decode cX4_go 39 = .ok (.getfield 10, 3) := by decide +kernel
theorem dX4_go_42 : decode cX4_go 42 = .ok (.getfield 46, 3) := by decide +kernel
theorem dX4_go_45 : decode cX4_go 45 = .ok (.iload_n 1, 1) := by decide +kernel
theorem dX4_go_46 : decode cX4_go 46 = .ok (.iload_n 2, 1) := by decide +kernel
theorem dX4_go_47 : decode cX4_go 47 = .ok (.iastore, 1) := by decide +kernel
theorem dX4_go_48 : decode cX4_go 48 = .ok (.iload_n 3, 1) := by decide +kernel
theorem dX4_go_49 : decode cX4_go 49 = .ok (.ireturn, 1) := by decide +kernel
theorem dX4_sink_0 : decode cX4_sink 0 = .ok (.aload_n 0, 1) := by decide +kernel
theorem dX4_sink_1 : decode cX4_sink 1 = .ok (.aload_n 0, 1) := by decide +kernel
theorem dX4_sink_2 : decode cX4_sink 2 = .ok (.iload_n 1, 1) := by decide +kernel
theorem dX4_sink_3 : decode cX4_sink 3 = .ok (.invokevirtual 38, 3) := by decide +kernel
theorem dX4_sink_6 : decode cX4_sink 6 = .ok (.ifCond .eq 7, 3) := by decide +kernel
theorem dX4_sink_9 : decode cX4_sink 9 = .ok (.iconst 0, 1) := by decide +kernel
theorem dX4_sink_10 : decode cX4_sink 10 = .ok (.goto 4, 3) := by decide +kernel
theorem dX4_sink_13 : decode cX4_sink 13 = .ok (.iconst 1, 1) := by decide +kernel
theorem dX4_sink_14 : decode cX4_sink 14 = .ok (.putfield 19, 3) := by decide +kernel
theorem dX4_sink_17 : decode cX4_sink 17 = .ok (.aload_n 0, 1) := by decide +kernel
theorem dX4_sink_18 : decode cX4_sink 18 = .ok (.getfield 19, 3) := by decide +kernel
theorem dX4_sink_21 : decode cX4_sink 21 = .ok (.ifCond .le 5, 3) := by decide +kernel
theorem dX4_sink_24 : decode cX4_sink 24 = .ok (.iconst 0, 1) := by decide +kernel
theorem dX4_sink_25 : decode cX4_sink 25 = .ok (.ireturn, 1) := by decide +kernel
theorem dX4_sink_26 : decode cX4_sink 26 = .ok (.aload_n 0, 1) := by decide +kernel
theorem dX4_sink_27 : decode cX4_sink 27 = .ok (.getfield 10, 3) := by decide +kernel
theorem dX4_sink_30 : decode cX4_sink 30 = .ok (.getfield 49, 3) := by decide +kernel
theorem dX4_sink_33 : decode cX4_sink 33 = .ok (.iload_n 1, 1) := by decide +kernel
theorem dX4_sink_34 : decode cX4_sink 34 = .ok (.iconst 1, 1) := by decide +kernel
theorem dX4_sink_35 : decode cX4_sink 35 = .ok (.aload_n 0, 1) := by decide +kernel
theorem dX4_sink_36 : decode cX4_sink 36 = .ok (.getfield 10, 3) := by decide +kernel
theorem dX4_sink_39 : decode cX4_sink 39 = .ok (.getfield 49, 3) := by decide +kernel
theorem dX4_sink_42 : decode cX4_sink 42 = .ok (.iload_n 1, 1) := by decide +kernel
theorem dX4_sink_43 : decode cX4_sink 43 = .ok (.iaload, 1) := by decide +kernel
theorem dX4_sink_44 : decode cX4_sink 44 = .ok (.isub, 1) := by decide +kernel
theorem dX4_sink_45 : decode cX4_sink 45 = .ok (.iastore, 1) := by decide +kernel
theorem dX4_sink_46 : decode cX4_sink 46 = .ok (.aload_n 0, 1) := by decide +kernel
theorem dX4_sink_47 : decode cX4_sink 47 = .ok (.getfield 10, 3) := by decide +kernel
theorem dX4_sink_50 : decode cX4_sink 50 = .ok (.getfield 49, 3) := by decide +kernel
theorem dX4_sink_53 : decode cX4_sink 53 = .ok (.iload_n 1, 1) := by decide +kernel
theorem dX4_sink_54 : decode cX4_sink 54 = .ok (.iaload, 1) := by decide +kernel
theorem dX4_sink_55 : decode cX4_sink 55 = .ok (.ifCond .ne 5, 3) := by decide +kernel
theorem dX4_sink_58 : decode cX4_sink 58 = .ok (.iconst 0, 1) := by decide +kernel
theorem dX4_sink_59 : decode cX4_sink 59 = .ok (.ireturn, 1) := by decide +kernel
theorem dX4_sink_60 : decode cX4_sink 60 = .ok (.aload_n 0, 1) := by decide +kernel
theorem dX4_sink_61 : decode cX4_sink 61 = .ok (.getfield 10, 3) := by decide +kernel
theorem dX4_sink_64 : decode cX4_sink 64 = .ok (.getfield 52, 3) := by decide +kernel
theorem dX4_sink_67 : decode cX4_sink 67 = .ok (.iload_n 1, 1) := by decide +kernel
theorem dX4_sink_68 : decode cX4_sink 68 = .ok (.iconst 0, 1) := by decide +kernel
theorem dX4_sink_69 : decode cX4_sink 69 = .ok (.iastore, 1) := by decide +kernel
theorem dX4_sink_70 : decode cX4_sink 70 = .ok (.aload_n 0, 1) := by decide +kernel
theorem dX4_sink_71 : decode cX4_sink 71 = .ok (.getfield 10, 3) := by decide +kernel
theorem dX4_sink_74 : decode cX4_sink 74 = .ok (.getfield 55, 3) := by decide +kernel
theorem dX4_sink_77 : decode cX4_sink 77 = .ok (.iload_n 1, 1) := by decide +kernel
theorem dX4_sink_78 : decode cX4_sink 78 = .ok (.aload_n 0, 1) := by decide +kernel
theorem dX4_sink_79 : decode cX4_sink 79 = .ok (.getfield 10, 3) := by decide +kernel
theorem dX4_sink_82 : decode cX4_sink 82 = .ok (.getfield 42, 3) := by decide +kernel
theorem dX4_sink_85 : decode cX4_sink 85 = .ok (.iload_n 1, 1) := by decide +kernel
theorem dX4_sink_86 : decode cX4_sink 86 = .ok (.iaload, 1) := by decide +kernel
theorem dX4_sink_87 : decode cX4_sink 87 = .ok (.iastore, 1) := by decide +kernel
theorem dX4_sink_88 : decode cX4_sink 88 = .ok (.aload_n 0, 1) := by decide +kernel
theorem dX4_sink_89 : decode cX4_sink 89 = .ok (.getfield 10, 3) := by decide +kernel
theorem dX4_sink_92 : decode cX4_sink 92 = .ok (.getfield 58, 3) := by decide +kernel
theorem dX4_sink_95 : decode cX4_sink 95 = .ok (.iload_n 1, 1) := by decide +kernel
theorem dX4_sink_96 : decode cX4_sink 96 = .ok (.iconst 0, 1) := by decide +kernel
theorem dX4_sink_97 : decode cX4_sink 97 = .ok (.iastore, 1) := by decide +kernel
theorem dX4_sink_98 : decode cX4_sink 98 = .ok (.iconst 1, 1) := by decide +kernel
theorem dX4_sink_99 : decode cX4_sink 99 = .ok (.ireturn, 1) := by decide +kernel
theorem dX4_write_0 : decode cX4_write 0 = .ok (.aload_n 0, 1) := by decide +kernel
theorem dX4_write_1 : decode cX4_write 1 = .ok (.iconst 0, 1) := by decide +kernel
theorem dX4_write_2 : decode cX4_write 2 = .ok (.putfield 19, 3) := by decide +kernel
theorem dX4_write_5 : decode cX4_write 5 = .ok (.aload_n 0, 1) := by decide +kernel
theorem dX4_write_6 : decode cX4_write 6 = .ok (.iload_n 1, 1) := by decide +kernel
theorem dX4_write_7 : decode cX4_write 7 = .ok (.invokevirtual 38, 3) := by decide +kernel
theorem dX4_write_10 : decode cX4_write 10 = .ok (.ifCond .ne 9, 3) := by decide +kernel
theorem dX4_write_13 : decode cX4_write 13 = .ok (.aload_n 0, 1) := by decide +kernel
theorem dX4_write_14 : decode cX4_write 14 = .ok (.iconst 1, 1) := by decide +kernel
theorem dX4_write_15 : decode cX4_write 15 = .ok (.invokevirtual 30, 3) := by decide +kernel
theorem dX4_write_18 : decode cX4_write 18 = .ok (.ireturn, 1) := by decide +kernel
theorem dX4_write_19 : decode cX4_write 19 = .ok (.iload_n 2, 1) := by decide +kernel
theorem dX4_write_20 : decode cX4_write 20 = .ok (.iconst 0, 1) := by decide +kernel
theorem dX4_write_21 : decode cX4_write 21 = .ok (.bipush 99, 2) := by decide +kernel
theorem dX4_write_23 : decode cX4_write 23 = .ok (.invokestatic 26, 3) := by decide +kernel
theorem dX4_write_26 : decode cX4_write 26 = .ok (.ifCond .ne 9, 3) := by decide +kernel
theorem dX4_write_29 : decode cX4_write 29 = .ok (.aload_n 0, 1) := by decide +kernel
theorem dX4_write_30 : decode cX4_write 30 = .ok (.iconst 2, 1) := by decide +kernel
theorem dX4_write_31 : decode cX4_write 31 = .ok (.invokevirtual 30, 3) := by decide +kernel
theorem dX4_write_34 : decode cX4_write 34 = .ok (.ireturn, 1) := by decide +kernel
theorem dX4_write_35 : decode cX4_write 35 = .ok (.aload_n 0, 1) := by decide +kernel
theorem dX4_write_36 : decode cX4_write 36 = .ok (.getfield 10, 3) := by decide +kernel
theorem dX4_write_39 : decode cX4_write 39 = .ok (.iload_n 1, 1) := by decide +kernel
theorem dX4_write_40 : decode cX4_write 40 = .ok (.iconst 2, 1) := by decide +kernel
theorem dX4_write_41 : decode cX4_write 41 = .ok (.invokevirtual 61, 3) := by decide +kernel
theorem dX4_write_44 : decode cX4_write 44 = .ok (.ifCond .eq 17, 3) := by decide +kernel
theorem dX4_write_47 : decode cX4_write 47 = .ok (.aload_n 0, 1) := by decide +kernel
theorem dX4_write_48 : decode cX4_write 48 = .ok (.getfield 10, 3) := by decide +kernel
theorem dX4_write_51 : decode cX4_write 51 = .ok (.getfield 65, 3) := by decide +kernel
theorem dX4_write_54 : decode cX4_write 54 = .ok (.iload_n 1, 1) := by decide +kernel
theorem dX4_write_55 : decode cX4_write 55 = .ok (.iaload, 1) := by decide +kernel
theorem dX4_write_56 : decode cX4_write 56 = .ok (.bipush 10, 2) := by decide +kernel
theorem dX4_write_58 : decode cX4_write 58 = .ok (.if_icmp .ne 9, 3) := by decide +kernel
theorem dX4_write_61 : decode cX4_write 61 = .ok (.aload_n 0, 1) := by decide +kernel
theorem dX4_write_62 : decode cX4_write 62 = .ok (.iconst 3, 1) := by decide +kernel
theorem dX4_write_63 : decode cX4_write 63 = .ok (.invokevirtual 30, 3) := by decide +kernel
theorem dX4_write_66 : decode cX4_write 66 = .ok (.ireturn, 1) := by decide +kernel
theorem dX4_write_67 : decode cX4_write 67 = .ok (.aload_n 0, 1) := by decide +kernel
theorem dX4_write_68 : decode cX4_write 68 = .ok (.getfield 10, 3) := by decide +kernel
theorem dX4_write_71 : decode cX4_write 71 = .ok (.iload_n 1, 1) := by decide +kernel
theorem dX4_write_72 : decode cX4_write 72 = .ok (.aload_n 0, 1) := by decide +kernel
theorem dX4_write_73 : decode cX4_write 73 = .ok (.getfield 10, 3) := by decide +kernel
theorem dX4_write_76 : decode cX4_write 76 = .ok (.getfield 68, 3) := by decide +kernel
theorem dX4_write_79 : decode cX4_write 79 = .ok (.iload_n 1, 1) := by decide +kernel
theorem dX4_write_80 : decode cX4_write 80 = .ok (.iaload, 1) := by decide +kernel
theorem dX4_write_81 : decode cX4_write 81 = .ok (.iload_n 2, 1) := by decide +kernel
theorem dX4_write_82 : decode cX4_write 82 = .ok (.invokevirtual 71, 3) := by decide +kernel
theorem dX4_write_85 : decode cX4_write 85 = .ok (.aload_n 0, 1) := by decide +kernel
theorem dX4_write_86 : decode cX4_write 86 = .ok (.getfield 10, 3) := by decide +kernel
theorem dX4_write_89 : decode cX4_write 89 = .ok (.getfield 65, 3) := by decide +kernel
theorem dX4_write_92 : decode cX4_write 92 = .ok (.iload_n 1, 1) := by decide +kernel
theorem dX4_write_93 : decode cX4_write 93 = .ok (.iaload, 1) := by decide +kernel
theorem dX4_write_94 : decode cX4_write 94 = .ok (.iconst 1, 1) := by decide +kernel
theorem dX4_write_95 : decode cX4_write 95 = .ok (.isub, 1) := by decide +kernel
theorem dX4_write_96 : decode cX4_write 96 = .ok (.ireturn, 1) := by decide +kernel
theorem dX4_pass_0 : decode cX4_pass 0 = .ok (.aload_n 0, 1) := by decide +kernel
theorem dX4_pass_1 : decode cX4_pass 1 = .ok (.iconst 0, 1) := by decide +kernel
theorem dX4_pass_2 : decode cX4_pass 2 = .ok (.putfield 19, 3) := by decide +kernel
theorem dX4_pass_5 : decode cX4_pass 5 = .ok (.iload_n 1, 1) := by decide +kernel
theorem dX4_pass_6 : decode cX4_pass 6 = .ok (.iconst 1, 1) := by decide +kernel
theorem dX4_pass_7 : decode cX4_pass 7 = .ok (.bipush 50, 2) := by decide +kernel
theorem dX4_pass_9 : decode cX4_pass 9 = .ok (.invokestatic 26, 3) := by decide +kernel
theorem dX4_pass_12 : decode cX4_pass 12 = .ok (.ifCond .ne 9, 3) := by decide +kernel
theorem dX4_pass_15 : decode cX4_pass 15 = .ok (.aload_n 0, 1) := by decide +kernel
theorem dX4_pass_16 : decode cX4_pass 16 = .ok (.iconst 1, 1) := by decide +kernel
theorem dX4_pass_17 : decode cX4_pass 17 = .ok (.invokevirtual 30, 3) := by decide +kernel
theorem dX4_pass_20 : decode cX4_pass 20 = .ok (.ireturn, 1) := by decide +kernel
theorem dX4_pass_21 : decode cX4_pass 21 = .ok (.aload_n 0, 1) := by decide +kernel
theorem dX4_pass_22 : decode cX4_pass 22 = .ok (.getfield 10, 3) := by decide +kernel
theorem dX4_pass_25 : decode cX4_pass 25 = .ok (.getfield 75, 3) := by decide +kernel
theorem dX4_pass_28 : decode cX4_pass 28 = .ok (.istore_n 2, 1) := by decide +kernel
theorem dX4_pass_29 : decode cX4_pass 29 = .ok (.aload_n 0, 1) := by decide +kernel
theorem dX4_pass_30 : decode cX4_pass 30 = .ok (.getfield 10, 3) := by decide +kernel
theorem dX4_pass_33 : decode cX4_pass 33 = .ok (.iload_n 1, 1) := by decide +kernel
theorem dX4_pass_34 : decode cX4_pass 34 = .ok (.invokevirtual 78, 3) := by decide +kernel
theorem dX4_pass_37 : decode cX4_pass 37 = .ok (.aload_n 0, 1) := by decide +kernel
theorem dX4_pass_38 : decode cX4_pass 38 = .ok (.getfield 10, 3) := by decide +kernel
theorem dX4_pass_41 : decode cX4_pass 41 = .ok (.getfield 75, 3) := by decide +kernel
theorem dX4_pass_44 : decode cX4_pass 44 = .ok (.iload_n 2, 1) := by decide +kernel
theorem dX4_pass_45 : decode cX4_pass 45 = .ok (.isub, 1) := by decide +kernel
theorem dX4_pass_46 : decode cX4_pass 46 = .ok (.ireturn, 1) := by decide +kernel
theorem dX4_boatTold_0 : decode cX4_boatTold 0 = .ok (.iload_n 2, 1) := by decide +kernel
theorem dX4_boatTold_1 : decode cX4_boatTold 1 = .ok (.tableswitch 141 0 8 #[51, 61, 71, 81, 91, 101, 111, 121, 131], 51) := by decide +kernel
theorem dX4_boatTold_52 : decode cX4_boatTold 52 = .ok (.aload_n 0, 1) := by decide +kernel
theorem dX4_boatTold_53 : decode cX4_boatTold 53 = .ok (.getfield 10, 3) := by decide +kernel
theorem dX4_boatTold_56 : decode cX4_boatTold 56 = .ok (.getfield 68, 3) := by decide +kernel
theorem dX4_boatTold_59 : decode cX4_boatTold 59 = .ok (.iload_n 1, 1) := by decide +kernel
theorem dX4_boatTold_60 : decode cX4_boatTold 60 = .ok (.iaload, 1) := by decide +kernel
theorem dX4_boatTold_61 : decode cX4_boatTold 61 = .ok (.ireturn, 1) := by decide +kernel
theorem dX4_boatTold_62 : decode cX4_boatTold 62 = .ok (.aload_n 0, 1) := by decide +kernel
theorem dX4_boatTold_63 : decode cX4_boatTold 63 = .ok (.getfield 10, 3) := by decide +kernel
theorem dX4_boatTold_66 : decode cX4_boatTold 66 = .ok (.getfield 81, 3) := by decide +kernel
theorem dX4_boatTold_69 : decode cX4_boatTold 69 = .ok (.iload_n 1, 1) := by decide +kernel
theorem dX4_boatTold_70 : decode cX4_boatTold 70 = .ok (.iaload, 1) := by decide +kernel
theorem dX4_boatTold_71 : decode cX4_boatTold 71 = .ok (.ireturn, 1) := by decide +kernel
theorem dX4_boatTold_72 : decode cX4_boatTold 72 = .ok (.aload_n 0, 1) := by decide +kernel
theorem dX4_boatTold_73 : decode cX4_boatTold 73 = .ok (.getfield 10, 3) := by decide +kernel
theorem dX4_boatTold_76 : decode cX4_boatTold 76 = .ok (.getfield 52, 3) := by decide +kernel
theorem dX4_boatTold_79 : decode cX4_boatTold 79 = .ok (.iload_n 1, 1) := by decide +kernel
theorem dX4_boatTold_80 : decode cX4_boatTold 80 = .ok (.iaload, 1) := by decide +kernel
theorem dX4_boatTold_81 : decode cX4_boatTold 81 = .ok (.ireturn, 1) := by decide +kernel
theorem dX4_boatTold_82 : decode cX4_boatTold 82 = .ok (.aload_n 0, 1) := by decide +kernel
theorem dX4_boatTold_83 : decode cX4_boatTold 83 = .ok (.getfield 10, 3) := by decide +kernel
theorem dX4_boatTold_86 : decode cX4_boatTold 86 = .ok (.getfield 46, 3) := by decide +kernel
theorem dX4_boatTold_89 : decode cX4_boatTold 89 = .ok (.iload_n 1, 1) := by decide +kernel
theorem dX4_boatTold_90 : decode cX4_boatTold 90 = .ok (.iaload, 1) := by decide +kernel
theorem dX4_boatTold_91 : decode cX4_boatTold 91 = .ok (.ireturn, 1) := by decide +kernel
theorem dX4_boatTold_92 : decode cX4_boatTold 92 = .ok (.aload_n 0, 1) := by decide +kernel
theorem dX4_boatTold_93 : decode cX4_boatTold 93 = .ok (.getfield 10, 3) := by decide +kernel
theorem dX4_boatTold_96 : decode cX4_boatTold 96 = .ok (.getfield 49, 3) := by decide +kernel
theorem dX4_boatTold_99 : decode cX4_boatTold 99 = .ok (.iload_n 1, 1) := by decide +kernel
theorem dX4_boatTold_100 : decode cX4_boatTold 100 = .ok (.iaload, 1) := by decide +kernel
theorem dX4_boatTold_101 : decode cX4_boatTold 101 = .ok (.ireturn, 1) := by decide +kernel
theorem dX4_boatTold_102 : decode cX4_boatTold 102 = .ok (.aload_n 0, 1) := by decide +kernel
theorem dX4_boatTold_103 : decode cX4_boatTold 103 = .ok (.getfield 10, 3) := by decide +kernel
theorem dX4_boatTold_106 : decode cX4_boatTold 106 = .ok (.getfield 42, 3) := by decide +kernel
theorem dX4_boatTold_109 : decode cX4_boatTold 109 = .ok (.iload_n 1, 1) := by decide +kernel
theorem dX4_boatTold_110 : decode cX4_boatTold 110 = .ok (.iaload, 1) := by decide +kernel
theorem dX4_boatTold_111 : decode cX4_boatTold 111 = .ok (.ireturn, 1) := by decide +kernel
theorem dX4_boatTold_112 : decode cX4_boatTold 112 = .ok (.aload_n 0, 1) := by decide +kernel
theorem dX4_boatTold_113 : decode cX4_boatTold 113 = .ok (.getfield 10, 3) := by decide +kernel
theorem dX4_boatTold_116 : decode cX4_boatTold 116 = .ok (.getfield 55, 3) := by decide +kernel
theorem dX4_boatTold_119 : decode cX4_boatTold 119 = .ok (.iload_n 1, 1) := by decide +kernel
theorem dX4_boatTold_120 : decode cX4_boatTold 120 = .ok (.iaload, 1) := by decide +kernel
theorem dX4_boatTold_121 : decode cX4_boatTold 121 = .ok (.ireturn, 1) := by decide +kernel
theorem dX4_boatTold_122 : decode cX4_boatTold 122 = .ok (.aload_n 0, 1) := by decide +kernel
theorem dX4_boatTold_123 : decode cX4_boatTold 123 = .ok (.getfield 10, 3) := by decide +kernel
theorem dX4_boatTold_126 : decode cX4_boatTold 126 = .ok (.getfield 65, 3) := by decide +kernel
theorem dX4_boatTold_129 : decode cX4_boatTold 129 = .ok (.iload_n 1, 1) := by decide +kernel
theorem dX4_boatTold_130 : decode cX4_boatTold 130 = .ok (.iaload, 1) := by decide +kernel
theorem dX4_boatTold_131 : decode cX4_boatTold 131 = .ok (.ireturn, 1) := by decide +kernel
theorem dX4_boatTold_132 : decode cX4_boatTold 132 = .ok (.aload_n 0, 1) := by decide +kernel
theorem dX4_boatTold_133 : decode cX4_boatTold 133 = .ok (.getfield 10, 3) := by decide +kernel
theorem dX4_boatTold_136 : decode cX4_boatTold 136 = .ok (.getfield 58, 3) := by decide +kernel
theorem dX4_boatTold_139 : decode cX4_boatTold 139 = .ok (.iload_n 1, 1) := by decide +kernel
theorem dX4_boatTold_140 : decode cX4_boatTold 140 = .ok (.iaload, 1) := by decide +kernel
theorem dX4_boatTold_141 : decode cX4_boatTold 141 = .ok (.ireturn, 1) := by decide +kernel
theorem dX4_boatTold_142 : decode cX4_boatTold 142 = .ok (.aload_n 0, 1) := by decide +kernel
theorem dX4_boatTold_143 : decode cX4_boatTold 143 = .ok (.getfield 10, 3) := by decide +kernel
theorem dX4_boatTold_146 : decode cX4_boatTold 146 = .ok (.iload_n 1, 1) := by decide +kernel
theorem dX4_boatTold_147 : decode cX4_boatTold 147 = .ok (.invokevirtual 84, 3) := by decide +kernel
theorem dX4_boatTold_150 : decode cX4_boatTold 150 = .ok (.ireturn, 1) := by decide +kernel
theorem dX4_told_0 : decode cX4_told 0 = .ok (.aload_n 0, 1) := by decide +kernel
theorem dX4_told_1 : decode cX4_told 1 = .ok (.iconst 0, 1) := by decide +kernel
theorem dX4_told_2 : decode cX4_told 2 = .ok (.putfield 19, 3) := by decide +kernel
theorem dX4_told_5 : decode cX4_told 5 = .ok (.aload_n 0, 1) := by decide +kernel
theorem dX4_told_6 : decode cX4_told 6 = .ok (.iload_n 1, 1) := by decide +kernel
theorem dX4_told_7 : decode cX4_told 7 = .ok (.invokevirtual 38, 3) := by decide +kernel
theorem dX4_told_10 : decode cX4_told 10 = .ok (.ifCond .eq 22, 3) := by decide +kernel
theorem dX4_told_13 : decode cX4_told 13 = .ok (.iload_n 2, 1) := by decide +kernel
theorem dX4_told_14 : decode cX4_told 14 = .ok (.iconst 0, 1) := by decide +kernel
theorem dX4_told_15 : decode cX4_told 15 = .ok (.bipush 9, 2) := by decide +kernel
theorem dX4_told_17 : decode cX4_told 17 = .ok (.invokestatic 26, 3) := by decide +kernel
theorem dX4_told_20 : decode cX4_told 20 = .ok (.ifCond .eq 12, 3) := by decide +kernel
theorem dX4_told_23 : decode cX4_told 23 = .ok (.aload_n 0, 1) := by decide +kernel
theorem dX4_told_24 : decode cX4_told 24 = .ok (.iload_n 1, 1) := by decide +kernel
theorem dX4_told_25 : decode cX4_told 25 = .ok (.iload_n 2, 1) := by decide +kernel
theorem dX4_told_26 : decode cX4_told 26 = .ok (.invokevirtual 87, 3) := by decide +kernel
theorem dX4_told_29 : decode cX4_told 29 = .ok (.goto 8, 3) := by decide +kernel
theorem dX4_told_32 : decode cX4_told 32 = .ok (.aload_n 0, 1) := by decide +kernel
theorem dX4_told_33 : decode cX4_told 33 = .ok (.iconst 1, 1) := by decide +kernel
theorem dX4_told_34 : decode cX4_told 34 = .ok (.invokevirtual 30, 3) := by decide +kernel
theorem dX4_told_37 : decode cX4_told 37 = .ok (.ireturn, 1) := by decide +kernel
theorem dX4_entryTold_0 : decode cX4_entryTold 0 = .ok (.iload_n 3, 1) := by decide +kernel
theorem dX4_entryTold_1 : decode cX4_entryTold 1 = .ok (.iconst 2, 1) := by decide +kernel
theorem dX4_entryTold_2 : decode cX4_entryTold 2 = .ok (.if_icmp .ge 39, 3) := by decide +kernel
theorem dX4_entryTold_5 : decode cX4_entryTold 5 = .ok (.iload_n 3, 1) := by decide +kernel
theorem dX4_entryTold_6 : decode cX4_entryTold 6 = .ok (.ifCond .ne 20, 3) := by decide +kernel
theorem dX4_entryTold_9 : decode cX4_entryTold 9 = .ok (.aload_n 0, 1) := by decide +kernel
theorem dX4_entryTold_10 : decode cX4_entryTold 10 = .ok (.getfield 10, 3) := by decide +kernel
theorem dX4_entryTold_13 : decode cX4_entryTold 13 = .ok (.getfield 91, 3) := by decide +kernel
theorem dX4_entryTold_16 : decode cX4_entryTold 16 = .ok (.bipush 10, 2) := by decide +kernel
theorem dX4_entryTold_18 : decode cX4_entryTold 18 = .ok (.iload_n 1, 1) := by decide +kernel
theorem dX4_entryTold_19 : decode cX4_entryTold 19 = .ok (.imul, 1) := by decide +kernel
theorem dX4_entryTold_20 : decode cX4_entryTold 20 = .ok (.iload_n 2, 1) := by decide +kernel
theorem dX4_entryTold_21 : decode cX4_entryTold 21 = .ok (.iadd, 1) := by decide +kernel
theorem dX4_entryTold_22 : decode cX4_entryTold 22 = .ok (.iaload, 1) := by decide +kernel
theorem dX4_entryTold_23 : decode cX4_entryTold 23 = .ok (.goto 17, 3) := by decide +kernel
theorem dX4_entryTold_26 : decode cX4_entryTold 26 = .ok (.aload_n 0, 1) := by decide +kernel
theorem dX4_entryTold_27 : decode cX4_entryTold 27 = .ok (.getfield 10, 3) := by decide +kernel
theorem dX4_entryTold_30 : decode cX4_entryTold 30 = .ok (.getfield 94, 3) := by decide +kernel
theorem dX4_entryTold_33 : decode cX4_entryTold 33 = .ok (.bipush 10, 2) := by decide +kernel
theorem dX4_entryTold_35 : decode cX4_entryTold 35 = .ok (.iload_n 1, 1) := by decide +kernel
theorem dX4_entryTold_36 : decode cX4_entryTold 36 = .ok (.imul, 1) := by decide +kernel
theorem dX4_entryTold_37 : decode cX4_entryTold 37 = .ok (.iload_n 2, 1) := by decide +kernel
theorem dX4_entryTold_38 : decode cX4_entryTold 38 = .ok (.iadd, 1) := by decide +kernel
theorem dX4_entryTold_39 : decode cX4_entryTold 39 = .ok (.iaload, 1) := by decide +kernel
theorem dX4_entryTold_40 : decode cX4_entryTold 40 = .ok (.ireturn, 1) := by decide +kernel
theorem dX4_entryTold_41 : decode cX4_entryTold 41 = .ok (.iconst 0, 1) := by decide +kernel
theorem dX4_entryTold_42 : decode cX4_entryTold 42 = .ok (.istore 4, 2) := by decide +kernel
theorem dX4_entryTold_44 : decode cX4_entryTold 44 = .ok (.iconst 0, 1) := by decide +kernel
theorem dX4_entryTold_45 : decode cX4_entryTold 45 = .ok (.istore 5, 2) := by decide +kernel
theorem dX4_entryTold_47 : decode cX4_entryTold 47 = .ok (.iload 5, 2) := by decide +kernel
theorem dX4_entryTold_49 : decode cX4_entryTold 49 = .ok (.aload_n 0, 1) := by decide +kernel
theorem dX4_entryTold_50 : decode cX4_entryTold 50 = .ok (.getfield 10, 3) := by decide +kernel
theorem dX4_entryTold_53 : decode cX4_entryTold 53 = .ok (.getfield 23, 3) := by decide +kernel
theorem dX4_entryTold_56 : decode cX4_entryTold 56 = .ok (.if_icmp .ge 33, 3) := by decide +kernel
theorem dX4_entryTold_59 : decode cX4_entryTold 59 = .ok (.iload 4, 2) := by decide +kernel
theorem dX4_entryTold_61 : decode cX4_entryTold 61 = .ok (.aload_n 0, 1) := by decide +kernel
theorem dX4_entryTold_62 : decode cX4_entryTold 62 = .ok (.getfield 10, 3) := by decide +kernel
theorem dX4_entryTold_65 : decode cX4_entryTold 65 = .ok (.iload_n 1, 1) := by decide +kernel
theorem dX4_entryTold_66 : decode cX4_entryTold 66 = .ok (.iload 5, 2) := by decide +kernel
theorem dX4_entryTold_68 : decode cX4_entryTold 68 = .ok (.invokevirtual 97, 3) := by decide +kernel
theorem dX4_entryTold_71 : decode cX4_entryTold 71 = .ok (.iload_n 2, 1) := by decide +kernel
theorem dX4_entryTold_72 : decode cX4_entryTold 72 = .ok (.if_icmp .le 7, 3) := by decide +kernel
theorem dX4_entryTold_75 : decode cX4_entryTold 75 = .ok (.iconst 1, 1) := by decide +kernel
theorem dX4_entryTold_76 : decode cX4_entryTold 76 = .ok (.goto 4, 3) := by decide +kernel
theorem dX4_entryTold_79 : decode cX4_entryTold 79 = .ok (.iconst 0, 1) := by decide +kernel
theorem dX4_entryTold_80 : decode cX4_entryTold 80 = .ok (.iadd, 1) := by decide +kernel
theorem dX4_entryTold_81 : decode cX4_entryTold 81 = .ok (.istore 4, 2) := by decide +kernel
theorem dX4_entryTold_83 : decode cX4_entryTold 83 = .ok (.iinc 5 1, 3) := by decide +kernel
theorem dX4_entryTold_86 : decode cX4_entryTold 86 = .ok (.goto (-39), 3) := by decide +kernel
theorem dX4_entryTold_89 : decode cX4_entryTold 89 = .ok (.iload 4, 2) := by decide +kernel
theorem dX4_entryTold_91 : decode cX4_entryTold 91 = .ok (.ireturn, 1) := by decide +kernel
theorem dX4_entry_0 : decode cX4_entry 0 = .ok (.aload_n 0, 1) := by decide +kernel
theorem dX4_entry_1 : decode cX4_entry 1 = .ok (.iconst 0, 1) := by decide +kernel
theorem dX4_entry_2 : decode cX4_entry 2 = .ok (.putfield 19, 3) := by decide +kernel
theorem dX4_entry_5 : decode cX4_entry 5 = .ok (.aload_n 0, 1) := by decide +kernel
theorem dX4_entry_6 : decode cX4_entry 6 = .ok (.iload_n 1, 1) := by decide +kernel
theorem dX4_entry_7 : decode cX4_entry 7 = .ok (.invokevirtual 38, 3) := by decide +kernel
theorem dX4_entry_10 : decode cX4_entry 10 = .ok (.ifCond .eq 41, 3) := by decide +kernel
theorem dX4_entry_13 : decode cX4_entry 13 = .ok (.iload_n 2, 1) := by decide +kernel
theorem dX4_entry_14 : decode cX4_entry 14 = .ok (.iconst 0, 1) := by decide +kernel
theorem dX4_entry_15 : decode cX4_entry 15 = .ok (.aload_n 0, 1) := by decide +kernel
theorem dX4_entry_16 : decode cX4_entry 16 = .ok (.getfield 10, 3) := by decide +kernel
theorem dX4_entry_19 : decode cX4_entry 19 = .ok (.getfield 65, 3) := by decide +kernel
theorem dX4_entry_22 : decode cX4_entry 22 = .ok (.iload_n 1, 1) := by decide +kernel
theorem dX4_entry_23 : decode cX4_entry 23 = .ok (.iaload, 1) := by decide +kernel
theorem dX4_entry_24 : decode cX4_entry 24 = .ok (.iconst 1, 1) := by decide +kernel
theorem dX4_entry_25 : decode cX4_entry 25 = .ok (.isub, 1) := by decide +kernel
theorem dX4_entry_26 : decode cX4_entry 26 = .ok (.invokestatic 26, 3) := by decide +kernel
theorem dX4_entry_29 : decode cX4_entry 29 = .ok (.ifCond .eq 22, 3) := by decide +kernel
theorem dX4_entry_32 : decode cX4_entry 32 = .ok (.iload_n 3, 1) := by decide +kernel
theorem dX4_entry_33 : decode cX4_entry 33 = .ok (.iconst 0, 1) := by decide +kernel
theorem dX4_entry_34 : decode cX4_entry 34 = .ok (.iconst 2, 1) := by decide +kernel
theorem dX4_entry_35 : decode cX4_entry 35 = .ok (.invokestatic 26, 3) := by decide +kernel
theorem dX4_entry_38 : decode cX4_entry 38 = .ok (.ifCond .eq 13, 3) := by decide +kernel
theorem dX4_entry_41 : decode cX4_entry 41 = .ok (.aload_n 0, 1) := by decide +kernel
theorem dX4_entry_42 : decode cX4_entry 42 = .ok (.iload_n 1, 1) := by decide +kernel
theorem dX4_entry_43 : decode cX4_entry 43 = .ok (.iload_n 2, 1) := by decide +kernel
theorem dX4_entry_44 : decode cX4_entry 44 = .ok (.iload_n 3, 1) := by decide +kernel
theorem dX4_entry_45 : decode cX4_entry 45 = .ok (.invokevirtual 100, 3) := by decide +kernel
theorem dX4_entry_48 : decode cX4_entry 48 = .ok (.goto 8, 3) := by decide +kernel
theorem dX4_entry_51 : decode cX4_entry 51 = .ok (.aload_n 0, 1) := by decide +kernel
theorem dX4_entry_52 : decode cX4_entry 52 = .ok (.iconst 1, 1) := by decide +kernel
theorem dX4_entry_53 : decode cX4_entry 53 = .ok (.invokevirtual 30, 3) := by decide +kernel
theorem dX4_entry_56 : decode cX4_entry 56 = .ok (.ireturn, 1) := by decide +kernel
theorem dX4_agree_0 : decode cX4_agree 0 = .ok (.aload_n 0, 1) := by decide +kernel
theorem dX4_agree_1 : decode cX4_agree 1 = .ok (.iconst 0, 1) := by decide +kernel
theorem dX4_agree_2 : decode cX4_agree 2 = .ok (.putfield 19, 3) := by decide +kernel
theorem dX4_agree_5 : decode cX4_agree 5 = .ok (.aload_n 0, 1) := by decide +kernel
theorem dX4_agree_6 : decode cX4_agree 6 = .ok (.iload_n 1, 1) := by decide +kernel
theorem dX4_agree_7 : decode cX4_agree 7 = .ok (.invokevirtual 38, 3) := by decide +kernel
theorem dX4_agree_10 : decode cX4_agree 10 = .ok (.ifCond .eq 23, 3) := by decide +kernel
theorem dX4_agree_13 : decode cX4_agree 13 = .ok (.aload_n 0, 1) := by decide +kernel
theorem dX4_agree_14 : decode cX4_agree 14 = .ok (.iload_n 2, 1) := by decide +kernel
theorem dX4_agree_15 : decode cX4_agree 15 = .ok (.invokevirtual 38, 3) := by decide +kernel
theorem dX4_agree_18 : decode cX4_agree 18 = .ok (.ifCond .eq 15, 3) := by decide +kernel
theorem dX4_agree_21 : decode cX4_agree 21 = .ok (.aload_n 0, 1) := by decide +kernel
theorem dX4_agree_22 : decode cX4_agree 22 = .ok (.getfield 10, 3) := by decide +kernel
theorem dX4_agree_25 : decode cX4_agree 25 = .ok (.iload_n 1, 1) := by decide +kernel
theorem dX4_agree_26 : decode cX4_agree 26 = .ok (.iload_n 2, 1) := by decide +kernel
theorem dX4_agree_27 : decode cX4_agree 27 = .ok (.invokevirtual 97, 3) := by decide +kernel
theorem dX4_agree_30 : decode cX4_agree 30 = .ok (.goto 8, 3) := by decide +kernel
theorem dX4_agree_33 : decode cX4_agree 33 = .ok (.aload_n 0, 1) := by decide +kernel
theorem dX4_agree_34 : decode cX4_agree 34 = .ok (.iconst 1, 1) := by decide +kernel
theorem dX4_agree_35 : decode cX4_agree 35 = .ok (.invokevirtual 30, 3) := by decide +kernel
theorem dX4_agree_38 : decode cX4_agree 38 = .ok (.ireturn, 1) := by decide +kernel
theorem dX4_newer_0 : decode cX4_newer 0 = .ok (.aload_n 0, 1) := by decide +kernel
theorem dX4_newer_1 : decode cX4_newer 1 = .ok (.aload_n 0, 1) := by decide +kernel
theorem dX4_newer_2 : decode cX4_newer 2 = .ok (.iload_n 1, 1) := by decide +kernel
theorem dX4_newer_3 : decode cX4_newer 3 = .ok (.invokevirtual 38, 3) := by decide +kernel
theorem dX4_newer_6 : decode cX4_newer 6 = .ok (.ifCond .eq 15, 3) := by decide +kernel
theorem dX4_newer_9 : decode cX4_newer 9 = .ok (.aload_n 0, 1) := by decide +kernel
theorem dX4_newer_10 : decode cX4_newer 10 = .ok (.iload_n 2, 1) := by decide +kernel
theorem dX4_newer_11 : decode cX4_newer 11 = .ok (.invokevirtual 38, 3) := by decide +kernel
theorem dX4_newer_14 : decode cX4_newer 14 = .ok (.ifCond .eq 7, 3) := by decide +kernel
theorem dX4_newer_17 : decode cX4_newer 17 = .ok (.iconst 0, 1) := by decide +kernel
theorem dX4_newer_18 : decode cX4_newer 18 = .ok (.goto 4, 3) := by decide +kernel
theorem dX4_newer_21 : decode cX4_newer 21 = .ok (.iconst 1, 1) := by decide +kernel
theorem dX4_newer_22 : decode cX4_newer 22 = .ok (.putfield 19, 3) := by decide +kernel
theorem dX4_newer_25 : decode cX4_newer 25 = .ok (.aload_n 0, 1) := by decide +kernel
theorem dX4_newer_26 : decode cX4_newer 26 = .ok (.getfield 19, 3) := by decide +kernel
theorem dX4_newer_29 : decode cX4_newer 29 = .ok (.ifCond .ne 19, 3) := by decide +kernel
theorem dX4_newer_32 : decode cX4_newer 32 = .ok (.aload_n 0, 1) := by decide +kernel
theorem dX4_newer_33 : decode cX4_newer 33 = .ok (.getfield 10, 3) := by decide +kernel
theorem dX4_newer_36 : decode cX4_newer 36 = .ok (.iload_n 1, 1) := by decide +kernel
theorem dX4_newer_37 : decode cX4_newer 37 = .ok (.iload_n 2, 1) := by decide +kernel
theorem dX4_newer_38 : decode cX4_newer 38 = .ok (.invokevirtual 104, 3) := by decide +kernel
theorem dX4_newer_41 : decode cX4_newer 41 = .ok (.ifCond .eq 7, 3) := by decide +kernel
theorem dX4_newer_44 : decode cX4_newer 44 = .ok (.iconst 1, 1) := by decide +kernel
theorem dX4_newer_45 : decode cX4_newer 45 = .ok (.goto 4, 3) := by decide +kernel
theorem dX4_newer_48 : decode cX4_newer 48 = .ok (.iconst 0, 1) := by decide +kernel
theorem dX4_newer_49 : decode cX4_newer 49 = .ok (.ireturn, 1) := by decide +kernel
theorem dX4_leader_0 : decode cX4_leader 0 = .ok (.aload_n 0, 1) := by decide +kernel
theorem dX4_leader_1 : decode cX4_leader 1 = .ok (.iconst 0, 1) := by decide +kernel
theorem dX4_leader_2 : decode cX4_leader 2 = .ok (.putfield 19, 3) := by decide +kernel
theorem dX4_leader_5 : decode cX4_leader 5 = .ok (.iconst (-1), 1) := by decide +kernel
theorem dX4_leader_6 : decode cX4_leader 6 = .ok (.istore_n 1, 1) := by decide +kernel
theorem dX4_leader_7 : decode cX4_leader 7 = .ok (.iconst 0, 1) := by decide +kernel
theorem dX4_leader_8 : decode cX4_leader 8 = .ok (.istore_n 2, 1) := by decide +kernel
theorem dX4_leader_9 : decode cX4_leader 9 = .ok (.iload_n 2, 1) := by decide +kernel
theorem dX4_leader_10 : decode cX4_leader 10 = .ok (.aload_n 0, 1) := by decide +kernel
theorem dX4_leader_11 : decode cX4_leader 11 = .ok (.getfield 10, 3) := by decide +kernel
theorem dX4_leader_14 : decode cX4_leader 14 = .ok (.getfield 23, 3) := by decide +kernel
theorem dX4_leader_17 : decode cX4_leader 17 = .ok (.if_icmp .ge 49, 3) := by decide +kernel
theorem dX4_leader_20 : decode cX4_leader 20 = .ok (.aload_n 0, 1) := by decide +kernel
theorem dX4_leader_21 : decode cX4_leader 21 = .ok (.getfield 10, 3) := by decide +kernel
theorem dX4_leader_24 : decode cX4_leader 24 = .ok (.iload_n 2, 1) := by decide +kernel
theorem dX4_leader_25 : decode cX4_leader 25 = .ok (.iconst 2, 1) := by decide +kernel
theorem dX4_leader_26 : decode cX4_leader 26 = .ok (.invokevirtual 61, 3) := by decide +kernel
theorem dX4_leader_29 : decode cX4_leader 29 = .ok (.ifCond .eq 31, 3) := by decide +kernel
theorem dX4_leader_32 : decode cX4_leader 32 = .ok (.iload_n 1, 1) := by decide +kernel
theorem dX4_leader_33 : decode cX4_leader 33 = .ok (.iconst (-1), 1) := by decide +kernel
theorem dX4_leader_34 : decode cX4_leader 34 = .ok (.if_icmp .eq 24, 3) := by decide +kernel
theorem dX4_leader_37 : decode cX4_leader 37 = .ok (.aload_n 0, 1) := by decide +kernel
theorem dX4_leader_38 : decode cX4_leader 38 = .ok (.getfield 10, 3) := by decide +kernel
theorem dX4_leader_41 : decode cX4_leader 41 = .ok (.getfield 68, 3) := by decide +kernel
theorem dX4_leader_44 : decode cX4_leader 44 = .ok (.iload_n 2, 1) := by decide +kernel
theorem dX4_leader_45 : decode cX4_leader 45 = .ok (.iaload, 1) := by decide +kernel
theorem dX4_leader_46 : decode cX4_leader 46 = .ok (.aload_n 0, 1) := by decide +kernel
theorem dX4_leader_47 : decode cX4_leader 47 = .ok (.getfield 10, 3) := by decide +kernel
theorem dX4_leader_50 : decode cX4_leader 50 = .ok (.getfield 68, 3) := by decide +kernel
theorem dX4_leader_53 : decode cX4_leader 53 = .ok (.iload_n 1, 1) := by decide +kernel
theorem dX4_leader_54 : decode cX4_leader 54 = .ok (.iaload, 1) := by decide +kernel
theorem dX4_leader_55 : decode cX4_leader 55 = .ok (.if_icmp .le 5, 3) := by decide +kernel
theorem dX4_leader_58 : decode cX4_leader 58 = .ok (.iload_n 2, 1) := by decide +kernel
theorem dX4_leader_59 : decode cX4_leader 59 = .ok (.istore_n 1, 1) := by decide +kernel
theorem dX4_leader_60 : decode cX4_leader 60 = .ok (.iinc 2 1, 3) := by decide +kernel
theorem dX4_leader_63 : decode cX4_leader 63 = .ok (.goto (-54), 3) := by decide +kernel
theorem dX4_leader_66 : decode cX4_leader 66 = .ok (.iload_n 1, 1) := by decide +kernel
theorem dX4_leader_67 : decode cX4_leader 67 = .ok (.ireturn, 1) := by decide +kernel
theorem dX4_count_0 : decode cX4_count 0 = .ok (.aload_n 0, 1) := by decide +kernel
theorem dX4_count_1 : decode cX4_count 1 = .ok (.iconst 0, 1) := by decide +kernel
theorem dX4_count_2 : decode cX4_count 2 = .ok (.putfield 19, 3) := by decide +kernel
theorem dX4_count_5 : decode cX4_count 5 = .ok (.iload_n 1, 1) := by decide +kernel
theorem dX4_count_6 : decode cX4_count 6 = .ok (.iconst 0, 1) := by decide +kernel
theorem dX4_count_7 : decode cX4_count 7 = .ok (.bipush 9, 2) := by decide +kernel
theorem dX4_count_9 : decode cX4_count 9 = .ok (.invokestatic 26, 3) := by decide +kernel
theorem dX4_count_12 : decode cX4_count 12 = .ok (.ifCond .eq 14, 3) := by decide +kernel
theorem dX4_count_15 : decode cX4_count 15 = .ok (.aload_n 0, 1) := by decide +kernel
theorem dX4_count_16 : decode cX4_count 16 = .ok (.getfield 10, 3) := by decide +kernel
theorem dX4_count_19 : decode cX4_count 19 = .ok (.iload_n 1, 1) := by decide +kernel
theorem dX4_count_20 : decode cX4_count 20 = .ok (.invokevirtual 107, 3) := by decide +kernel
theorem dX4_count_23 : decode cX4_count 23 = .ok (.goto 8, 3) := by decide +kernel
theorem dX4_count_26 : decode cX4_count 26 = .ok (.aload_n 0, 1) := by decide +kernel
theorem dX4_count_27 : decode cX4_count 27 = .ok (.iconst 1, 1) := by decide +kernel
theorem dX4_count_28 : decode cX4_count 28 = .ok (.invokevirtual 30, 3) := by decide +kernel
theorem dX4_count_31 : decode cX4_count 31 = .ok (.ireturn, 1) := by decide +kernel
theorem dX4_harbourTold_0 : decode cX4_harbourTold 0 = .ok (.iconst 0, 1) := by decide +kernel
theorem dX4_harbourTold_1 : decode cX4_harbourTold 1 = .ok (.istore_n 3, 1) := by decide +kernel
theorem dX4_harbourTold_2 : decode cX4_harbourTold 2 = .ok (.iconst (-1), 1) := by decide +kernel
theorem dX4_harbourTold_3 : decode cX4_harbourTold 3 = .ok (.istore 4, 2) := by decide +kernel
theorem dX4_harbourTold_5 : decode cX4_harbourTold 5 = .ok (.iconst 0, 1) := by decide +kernel
theorem dX4_harbourTold_6 : decode cX4_harbourTold 6 = .ok (.istore 5, 2) := by decide +kernel
theorem dX4_harbourTold_8 : decode cX4_harbourTold 8 = .ok (.iload 5, 2) := by decide +kernel
theorem dX4_harbourTold_10 : decode cX4_harbourTold 10 = .ok (.aload_n 0, 1) := by decide +kernel
theorem dX4_harbourTold_11 : decode cX4_harbourTold 11 = .ok (.getfield 10, 3) := by decide +kernel
theorem dX4_harbourTold_14 : decode cX4_harbourTold 14 = .ok (.getfield 23, 3) := by decide +kernel
theorem dX4_harbourTold_17 : decode cX4_harbourTold 17 = .ok (.if_icmp .ge 66, 3) := by decide +kernel
theorem dX4_harbourTold_20 : decode cX4_harbourTold 20 = .ok (.aload_n 0, 1) := by decide +kernel
theorem dX4_harbourTold_21 : decode cX4_harbourTold 21 = .ok (.getfield 10, 3) := by decide +kernel
theorem dX4_harbourTold_24 : decode cX4_harbourTold 24 = .ok (.getfield 49, 3) := by decide +kernel
theorem dX4_harbourTold_27 : decode cX4_harbourTold 27 = .ok (.iload 5, 2) := by decide +kernel
theorem dX4_harbourTold_29 : decode cX4_harbourTold 29 = .ok (.iaload, 1) := by decide +kernel
theorem dX4_harbourTold_30 : decode cX4_harbourTold 30 = .ok (.ifCond .eq 47, 3) := by decide +kernel
theorem dX4_harbourTold_33 : decode cX4_harbourTold 33 = .ok (.aload_n 0, 1) := by decide +kernel
theorem dX4_harbourTold_34 : decode cX4_harbourTold 34 = .ok (.getfield 10, 3) := by decide +kernel
theorem dX4_harbourTold_37 : decode cX4_harbourTold 37 = .ok (.getfield 46, 3) := by decide +kernel
theorem dX4_harbourTold_40 : decode cX4_harbourTold 40 = .ok (.iload 5, 2) := by decide +kernel
theorem dX4_harbourTold_42 : decode cX4_harbourTold 42 = .ok (.iaload, 1) := by decide +kernel
theorem dX4_harbourTold_43 : decode cX4_harbourTold 43 = .ok (.iload_n 1, 1) := by decide +kernel
theorem dX4_harbourTold_44 : decode cX4_harbourTold 44 = .ok (.if_icmp .eq 6, 3) := by decide +kernel
theorem dX4_harbourTold_47 : decode cX4_harbourTold 47 = .ok (.goto 30, 3) := by decide +kernel
theorem dX4_harbourTold_50 : decode cX4_harbourTold 50 = .ok (.iinc 3 1, 3) := by decide +kernel
theorem dX4_harbourTold_53 : decode cX4_harbourTold 53 = .ok (.iload 4, 2) := by decide +kernel
theorem dX4_harbourTold_55 : decode cX4_harbourTold 55 = .ok (.iconst (-1), 1) := by decide +kernel
theorem dX4_harbourTold_56 : decode cX4_harbourTold 56 = .ok (.if_icmp .eq 17, 3) := by decide +kernel
theorem dX4_harbourTold_59 : decode cX4_harbourTold 59 = .ok (.aload_n 0, 1) := by decide +kernel
theorem dX4_harbourTold_60 : decode cX4_harbourTold 60 = .ok (.getfield 10, 3) := by decide +kernel
theorem dX4_harbourTold_63 : decode cX4_harbourTold 63 = .ok (.iload 4, 2) := by decide +kernel
theorem dX4_harbourTold_65 : decode cX4_harbourTold 65 = .ok (.iload 5, 2) := by decide +kernel
theorem dX4_harbourTold_67 : decode cX4_harbourTold 67 = .ok (.invokevirtual 104, 3) := by decide +kernel
theorem dX4_harbourTold_70 : decode cX4_harbourTold 70 = .ok (.ifCond .ne 7, 3) := by decide +kernel
theorem dX4_harbourTold_73 : decode cX4_harbourTold 73 = .ok (.iload 5, 2) := by decide +kernel
theorem dX4_harbourTold_75 : decode cX4_harbourTold 75 = .ok (.istore 4, 2) := by decide +kernel
theorem dX4_harbourTold_77 : decode cX4_harbourTold 77 = .ok (.iinc 5 1, 3) := by decide +kernel
theorem dX4_harbourTold_80 : decode cX4_harbourTold 80 = .ok (.goto (-72), 3) := by decide +kernel
theorem dX4_harbourTold_83 : decode cX4_harbourTold 83 = .ok (.iload_n 2, 1) := by decide +kernel
theorem dX4_harbourTold_84 : decode cX4_harbourTold 84 = .ok (.ifCond .ne 7, 3) := by decide +kernel
theorem dX4_harbourTold_87 : decode cX4_harbourTold 87 = .ok (.iload_n 3, 1) := by decide +kernel
theorem dX4_harbourTold_88 : decode cX4_harbourTold 88 = .ok (.goto 29, 3) := by decide +kernel
theorem dX4_harbourTold_91 : decode cX4_harbourTold 91 = .ok (.iload_n 2, 1) := by decide +kernel
theorem dX4_harbourTold_92 : decode cX4_harbourTold 92 = .ok (.iconst 1, 1) := by decide +kernel
theorem dX4_harbourTold_93 : decode cX4_harbourTold 93 = .ok (.if_icmp .ne 22, 3) := by decide +kernel
theorem dX4_harbourTold_96 : decode cX4_harbourTold 96 = .ok (.aload_n 0, 1) := by decide +kernel
theorem dX4_harbourTold_97 : decode cX4_harbourTold 97 = .ok (.getfield 10, 3) := by decide +kernel
theorem dX4_harbourTold_100 : decode cX4_harbourTold 100 = .ok (.iload_n 3, 1) := by decide +kernel
theorem dX4_harbourTold_101 : decode cX4_harbourTold 101 = .ok (.invokevirtual 110, 3) := by decide +kernel
theorem dX4_harbourTold_104 : decode cX4_harbourTold 104 = .ok (.ifCond .eq 7, 3) := by decide +kernel
theorem dX4_harbourTold_107 : decode cX4_harbourTold 107 = .ok (.iconst 1, 1) := by decide +kernel
theorem dX4_harbourTold_108 : decode cX4_harbourTold 108 = .ok (.goto 9, 3) := by decide +kernel
theorem dX4_harbourTold_111 : decode cX4_harbourTold 111 = .ok (.iconst 0, 1) := by decide +kernel
theorem dX4_harbourTold_112 : decode cX4_harbourTold 112 = .ok (.goto 5, 3) := by decide +kernel
theorem dX4_harbourTold_115 : decode cX4_harbourTold 115 = .ok (.iload 4, 2) := by decide +kernel
theorem dX4_harbourTold_117 : decode cX4_harbourTold 117 = .ok (.ireturn, 1) := by decide +kernel
theorem dX4_harbour_0 : decode cX4_harbour 0 = .ok (.aload_n 0, 1) := by decide +kernel
theorem dX4_harbour_1 : decode cX4_harbour 1 = .ok (.iconst 0, 1) := by decide +kernel
theorem dX4_harbour_2 : decode cX4_harbour 2 = .ok (.putfield 19, 3) := by decide +kernel
theorem dX4_harbour_5 : decode cX4_harbour 5 = .ok (.iload_n 1, 1) := by decide +kernel
theorem dX4_harbour_6 : decode cX4_harbour 6 = .ok (.iconst 0, 1) := by decide +kernel
theorem dX4_harbour_7 : decode cX4_harbour 7 = .ok (.iconst 2, 1) := by decide +kernel
theorem dX4_harbour_8 : decode cX4_harbour 8 = .ok (.invokestatic 26, 3) := by decide +kernel
theorem dX4_harbour_11 : decode cX4_harbour 11 = .ok (.ifCond .eq 21, 3) := by decide +kernel
theorem dX4_harbour_14 : decode cX4_harbour 14 = .ok (.iload_n 2, 1) := by decide +kernel
theorem dX4_harbour_15 : decode cX4_harbour 15 = .ok (.iconst 0, 1) := by decide +kernel
theorem dX4_harbour_16 : decode cX4_harbour 16 = .ok (.iconst 2, 1) := by decide +kernel
theorem dX4_harbour_17 : decode cX4_harbour 17 = .ok (.invokestatic 26, 3) := by decide +kernel
theorem dX4_harbour_20 : decode cX4_harbour 20 = .ok (.ifCond .eq 12, 3) := by decide +kernel
theorem dX4_harbour_23 : decode cX4_harbour 23 = .ok (.aload_n 0, 1) := by decide +kernel
theorem dX4_harbour_24 : decode cX4_harbour 24 = .ok (.iload_n 1, 1) := by decide +kernel
theorem dX4_harbour_25 : decode cX4_harbour 25 = .ok (.iload_n 2, 1) := by decide +kernel
theorem dX4_harbour_26 : decode cX4_harbour 26 = .ok (.invokevirtual 113, 3) := by decide +kernel
theorem dX4_harbour_29 : decode cX4_harbour 29 = .ok (.goto 8, 3) := by decide +kernel
theorem dX4_harbour_32 : decode cX4_harbour 32 = .ok (.aload_n 0, 1) := by decide +kernel
theorem dX4_harbour_33 : decode cX4_harbour 33 = .ok (.iconst 1, 1) := by decide +kernel
theorem dX4_harbour_34 : decode cX4_harbour 34 = .ok (.invokevirtual 30, 3) := by decide +kernel
theorem dX4_harbour_37 : decode cX4_harbour 37 = .ok (.ireturn, 1) := by decide +kernel
theorem dX4_until_0 : decode cX4_until 0 = .ok (.aload_n 0, 1) := by decide +kernel
theorem dX4_until_1 : decode cX4_until 1 = .ok (.iconst 0, 1) := by decide +kernel
theorem dX4_until_2 : decode cX4_until 2 = .ok (.putfield 19, 3) := by decide +kernel
theorem dX4_until_5 : decode cX4_until 5 = .ok (.aload_n 0, 1) := by decide +kernel
theorem dX4_until_6 : decode cX4_until 6 = .ok (.getfield 16, 3) := by decide +kernel
theorem dX4_until_9 : decode cX4_until 9 = .ok (.aload_n 0, 1) := by decide +kernel
theorem dX4_until_10 : decode cX4_until 10 = .ok (.getfield 10, 3) := by decide +kernel
theorem dX4_until_13 : decode cX4_until 13 = .ok (.invokevirtual 116, 3) := by decide +kernel
theorem dX4_until_16 : decode cX4_until 16 = .ok (.iconst 0, 1) := by decide +kernel
theorem dX4_until_17 : decode cX4_until 17 = .ok (.istore_n 1, 1) := by decide +kernel
theorem dX4_until_18 : decode cX4_until 18 = .ok (.iload_n 1, 1) := by decide +kernel
theorem dX4_until_19 : decode cX4_until 19 = .ok (.bipush 60, 2) := by decide +kernel
theorem dX4_until_21 : decode cX4_until 21 = .ok (.if_icmp .gt 28, 3) := by decide +kernel
theorem dX4_until_24 : decode cX4_until 24 = .ok (.aload_n 0, 1) := by decide +kernel
theorem dX4_until_25 : decode cX4_until 25 = .ok (.getfield 16, 3) := by decide +kernel
theorem dX4_until_28 : decode cX4_until 28 = .ok (.invokevirtual 120, 3) := by decide +kernel
theorem dX4_until_31 : decode cX4_until 31 = .ok (.ifCond .eq 5, 3) := by decide +kernel
theorem dX4_until_34 : decode cX4_until 34 = .ok (.iload_n 1, 1) := by decide +kernel
theorem dX4_until_35 : decode cX4_until 35 = .ok (.ireturn, 1) := by decide +kernel
theorem dX4_until_36 : decode cX4_until 36 = .ok (.aload_n 0, 1) := by decide +kernel
theorem dX4_until_37 : decode cX4_until 37 = .ok (.getfield 16, 3) := by decide +kernel
theorem dX4_until_40 : decode cX4_until 40 = .ok (.invokevirtual 124, 3) := by decide +kernel
theorem dX4_until_43 : decode cX4_until 43 = .ok (.iinc 1 1, 3) := by decide +kernel
theorem dX4_until_46 : decode cX4_until 46 = .ok (.goto (-28), 3) := by decide +kernel
theorem dX4_until_49 : decode cX4_until 49 = .ok (.iconst (-1), 1) := by decide +kernel
theorem dX4_until_50 : decode cX4_until 50 = .ok (.ireturn, 1) := by decide +kernel
theorem dX4_foresee_0 : decode cX4_foresee 0 = .ok (.aload_n 0, 1) := by decide +kernel
theorem dX4_foresee_1 : decode cX4_foresee 1 = .ok (.iconst 0, 1) := by decide +kernel
theorem dX4_foresee_2 : decode cX4_foresee 2 = .ok (.putfield 19, 3) := by decide +kernel
theorem dX4_foresee_5 : decode cX4_foresee 5 = .ok (.iload_n 1, 1) := by decide +kernel
theorem dX4_foresee_6 : decode cX4_foresee 6 = .ok (.iconst 1, 1) := by decide +kernel
theorem dX4_foresee_7 : decode cX4_foresee 7 = .ok (.bipush 50, 2) := by decide +kernel
theorem dX4_foresee_9 : decode cX4_foresee 9 = .ok (.invokestatic 26, 3) := by decide +kernel
theorem dX4_foresee_12 : decode cX4_foresee 12 = .ok (.ifCond .ne 9, 3) := by decide +kernel
theorem dX4_foresee_15 : decode cX4_foresee 15 = .ok (.aload_n 0, 1) := by decide +kernel
theorem dX4_foresee_16 : decode cX4_foresee 16 = .ok (.iconst 1, 1) := by decide +kernel
theorem dX4_foresee_17 : decode cX4_foresee 17 = .ok (.invokevirtual 30, 3) := by decide +kernel
theorem dX4_foresee_20 : decode cX4_foresee 20 = .ok (.ireturn, 1) := by decide +kernel
theorem dX4_foresee_21 : decode cX4_foresee 21 = .ok (.iload_n 2, 1) := by decide +kernel
theorem dX4_foresee_22 : decode cX4_foresee 22 = .ok (.iconst 3, 1) := by decide +kernel
theorem dX4_foresee_23 : decode cX4_foresee 23 = .ok (.bipush 9, 2) := by decide +kernel
theorem dX4_foresee_25 : decode cX4_foresee 25 = .ok (.invokestatic 26, 3) := by decide +kernel
theorem dX4_foresee_28 : decode cX4_foresee 28 = .ok (.ifCond .ne 9, 3) := by decide +kernel
theorem dX4_foresee_31 : decode cX4_foresee 31 = .ok (.aload_n 0, 1) := by decide +kernel
theorem dX4_foresee_32 : decode cX4_foresee 32 = .ok (.iconst 2, 1) := by decide +kernel
theorem dX4_foresee_33 : decode cX4_foresee 33 = .ok (.invokevirtual 30, 3) := by decide +kernel
theorem dX4_foresee_36 : decode cX4_foresee 36 = .ok (.ireturn, 1) := by decide +kernel
theorem dX4_foresee_37 : decode cX4_foresee 37 = .ok (.aload_n 0, 1) := by decide +kernel
theorem dX4_foresee_38 : decode cX4_foresee 38 = .ok (.getfield 16, 3) := by decide +kernel
theorem dX4_foresee_41 : decode cX4_foresee 41 = .ok (.aload_n 0, 1) := by decide +kernel
theorem dX4_foresee_42 : decode cX4_foresee 42 = .ok (.getfield 10, 3) := by decide +kernel
theorem dX4_foresee_45 : decode cX4_foresee 45 = .ok (.invokevirtual 116, 3) := by decide +kernel
theorem dX4_foresee_48 : decode cX4_foresee 48 = .ok (.aload_n 0, 1) := by decide +kernel
theorem dX4_foresee_49 : decode cX4_foresee 49 = .ok (.getfield 16, 3) := by decide +kernel
theorem dX4_foresee_52 : decode cX4_foresee 52 = .ok (.iload_n 1, 1) := by decide +kernel
theorem dX4_foresee_53 : decode cX4_foresee 53 = .ok (.invokevirtual 78, 3) := by decide +kernel
theorem dX4_foresee_56 : decode cX4_foresee 56 = .ok (.aload_n 0, 1) := by decide +kernel
theorem dX4_foresee_57 : decode cX4_foresee 57 = .ok (.getfield 16, 3) := by decide +kernel
theorem dX4_foresee_60 : decode cX4_foresee 60 = .ok (.iload_n 2, 1) := by decide +kernel
theorem dX4_foresee_61 : decode cX4_foresee 61 = .ok (.invokevirtual 107, 3) := by decide +kernel
theorem dX4_foresee_64 : decode cX4_foresee 64 = .ok (.ireturn, 1) := by decide +kernel
theorem dX4_advise_0 : decode cX4_advise 0 = .ok (.aload_n 0, 1) := by decide +kernel
theorem dX4_advise_1 : decode cX4_advise 1 = .ok (.iconst 0, 1) := by decide +kernel
theorem dX4_advise_2 : decode cX4_advise 2 = .ok (.putfield 19, 3) := by decide +kernel
theorem dX4_advise_5 : decode cX4_advise 5 = .ok (.aload_n 0, 1) := by decide +kernel
theorem dX4_advise_6 : decode cX4_advise 6 = .ok (.iload_n 1, 1) := by decide +kernel
theorem dX4_advise_7 : decode cX4_advise 7 = .ok (.invokevirtual 38, 3) := by decide +kernel
theorem dX4_advise_10 : decode cX4_advise 10 = .ok (.ifCond .ne 9, 3) := by decide +kernel
theorem dX4_advise_13 : decode cX4_advise 13 = .ok (.aload_n 0, 1) := by decide +kernel
theorem dX4_advise_14 : decode cX4_advise 14 = .ok (.iconst 1, 1) := by decide +kernel
theorem dX4_advise_15 : decode cX4_advise 15 = .ok (.invokevirtual 30, 3) := by decide +kernel
theorem dX4_advise_18 : decode cX4_advise 18 = .ok (.ireturn, 1) := by decide +kernel
theorem dX4_advise_19 : decode cX4_advise 19 = .ok (.iload_n 2, 1) := by decide +kernel
theorem dX4_advise_20 : decode cX4_advise 20 = .ok (.iconst 1, 1) := by decide +kernel
theorem dX4_advise_21 : decode cX4_advise 21 = .ok (.bipush 20, 2) := by decide +kernel
theorem dX4_advise_23 : decode cX4_advise 23 = .ok (.invokestatic 26, 3) := by decide +kernel
theorem dX4_advise_26 : decode cX4_advise 26 = .ok (.ifCond .ne 9, 3) := by decide +kernel
theorem dX4_advise_29 : decode cX4_advise 29 = .ok (.aload_n 0, 1) := by decide +kernel
theorem dX4_advise_30 : decode cX4_advise 30 = .ok (.iconst 2, 1) := by decide +kernel
theorem dX4_advise_31 : decode cX4_advise 31 = .ok (.invokevirtual 30, 3) := by decide +kernel
theorem dX4_advise_34 : decode cX4_advise 34 = .ok (.ireturn, 1) := by decide +kernel
theorem dX4_advise_35 : decode cX4_advise 35 = .ok (.aload_n 0, 1) := by decide +kernel
theorem dX4_advise_36 : decode cX4_advise 36 = .ok (.getfield 10, 3) := by decide +kernel
theorem dX4_advise_39 : decode cX4_advise 39 = .ok (.getfield 49, 3) := by decide +kernel
theorem dX4_advise_42 : decode cX4_advise 42 = .ok (.iload_n 1, 1) := by decide +kernel
theorem dX4_advise_43 : decode cX4_advise 43 = .ok (.iaload, 1) := by decide +kernel
theorem dX4_advise_44 : decode cX4_advise 44 = .ok (.ifCond .ne 9, 3) := by decide +kernel
theorem dX4_advise_47 : decode cX4_advise 47 = .ok (.aload_n 0, 1) := by decide +kernel
theorem dX4_advise_48 : decode cX4_advise 48 = .ok (.iconst 3, 1) := by decide +kernel
theorem dX4_advise_49 : decode cX4_advise 49 = .ok (.invokevirtual 30, 3) := by decide +kernel
theorem dX4_advise_52 : decode cX4_advise 52 = .ok (.ireturn, 1) := by decide +kernel
theorem dX4_advise_53 : decode cX4_advise 53 = .ok (.iconst 0, 1) := by decide +kernel
theorem dX4_advise_54 : decode cX4_advise 54 = .ok (.istore_n 3, 1) := by decide +kernel
theorem dX4_advise_55 : decode cX4_advise 55 = .ok (.iconst (-1), 1) := by decide +kernel
theorem dX4_advise_56 : decode cX4_advise 56 = .ok (.istore 4, 2) := by decide +kernel
theorem dX4_advise_58 : decode cX4_advise 58 = .ok (.iconst 0, 1) := by decide +kernel
theorem dX4_advise_59 : decode cX4_advise 59 = .ok (.istore 5, 2) := by decide +kernel
theorem dX4_advise_61 : decode cX4_advise 61 = .ok (.iload 5, 2) := by decide +kernel
theorem dX4_advise_63 : decode cX4_advise 63 = .ok (.iconst 3, 1) := by decide +kernel
theorem dX4_advise_64 : decode cX4_advise 64 = .ok (.if_icmp .ge 70, 3) := by decide +kernel
theorem dX4_advise_67 : decode cX4_advise 67 = .ok (.aload_n 0, 1) := by decide +kernel
theorem dX4_advise_68 : decode cX4_advise 68 = .ok (.getfield 16, 3) := by decide +kernel
theorem dX4_advise_71 : decode cX4_advise 71 = .ok (.aload_n 0, 1) := by decide +kernel
theorem dX4_advise_72 : decode cX4_advise 72 = .ok (.getfield 10, 3) := by decide +kernel
theorem dX4_advise_75 : decode cX4_advise 75 = .ok (.invokevirtual 116, 3) := by decide +kernel
theorem dX4_advise_78 : decode cX4_advise 78 = .ok (.aload_n 0, 1) := by decide +kernel
theorem dX4_advise_79 : decode cX4_advise 79 = .ok (.getfield 16, 3) := by decide +kernel
theorem dX4_advise_82 : decode cX4_advise 82 = .ok (.getfield 46, 3) := by decide +kernel
theorem dX4_advise_85 : decode cX4_advise 85 = .ok (.iload_n 1, 1) := by decide +kernel
theorem dX4_advise_86 : decode cX4_advise 86 = .ok (.iload 5, 2) := by decide +kernel
theorem dX4_advise_88 : decode cX4_advise 88 = .ok (.iastore, 1) := by decide +kernel
theorem dX4_advise_89 : decode cX4_advise 89 = .ok (.aload_n 0, 1) := by decide +kernel
theorem dX4_advise_90 : decode cX4_advise 90 = .ok (.getfield 16, 3) := by decide +kernel
theorem dX4_advise_93 : decode cX4_advise 93 = .ok (.iload_n 2, 1) := by decide +kernel
theorem dX4_advise_94 : decode cX4_advise 94 = .ok (.invokevirtual 78, 3) := by decide +kernel
theorem dX4_advise_97 : decode cX4_advise 97 = .ok (.aload_n 0, 1) := by decide +kernel
theorem dX4_advise_98 : decode cX4_advise 98 = .ok (.getfield 16, 3) := by decide +kernel
theorem dX4_advise_101 : decode cX4_advise 101 = .ok (.bipush 8, 2) := by decide +kernel
theorem dX4_advise_103 : decode cX4_advise 103 = .ok (.invokevirtual 107, 3) := by decide +kernel
theorem dX4_advise_106 : decode cX4_advise 106 = .ok (.iload 4, 2) := by decide +kernel
theorem dX4_advise_108 : decode cX4_advise 108 = .ok (.if_icmp .gt 6, 3) := by decide +kernel
theorem dX4_advise_111 : decode cX4_advise 111 = .ok (.goto 17, 3) := by decide +kernel
theorem dX4_advise_114 : decode cX4_advise 114 = .ok (.iload 5, 2) := by decide +kernel
theorem dX4_advise_116 : decode cX4_advise 116 = .ok (.istore_n 3, 1) := by decide +kernel
theorem dX4_advise_117 : decode cX4_advise 117 = .ok (.aload_n 0, 1) := by decide +kernel
theorem dX4_advise_118 : decode cX4_advise 118 = .ok (.getfield 16, 3) := by decide +kernel
theorem dX4_advise_121 : decode cX4_advise 121 = .ok (.bipush 8, 2) := by decide +kernel
theorem dX4_advise_123 : decode cX4_advise 123 = .ok (.invokevirtual 107, 3) := by decide +kernel
theorem dX4_advise_126 : decode cX4_advise 126 = .ok (.istore 4, 2) := by decide +kernel
theorem dX4_advise_128 : decode cX4_advise 128 = .ok (.iinc 5 1, 3) := by decide +kernel
theorem dX4_advise_131 : decode cX4_advise 131 = .ok (.goto (-70), 3) := by decide +kernel
theorem dX4_advise_134 : decode cX4_advise 134 = .ok (.iload_n 3, 1) := by decide +kernel
theorem dX4_advise_135 : decode cX4_advise 135 = .ok (.ireturn, 1) := by decide +kernel
theorem dX4_mean_0 : decode cX4_mean 0 = .ok (.aload_n 0, 1) := by decide +kernel
theorem dX4_mean_1 : decode cX4_mean 1 = .ok (.iconst 0, 1) := by decide +kernel
theorem dX4_mean_2 : decode cX4_mean 2 = .ok (.putfield 19, 3) := by decide +kernel
theorem dX4_mean_5 : decode cX4_mean 5 = .ok (.iconst 0, 1) := by decide +kernel
theorem dX4_mean_6 : decode cX4_mean 6 = .ok (.istore_n 1, 1) := by decide +kernel
theorem dX4_mean_7 : decode cX4_mean 7 = .ok (.iconst 0, 1) := by decide +kernel
theorem dX4_mean_8 : decode cX4_mean 8 = .ok (.istore_n 2, 1) := by decide +kernel
theorem dX4_mean_9 : decode cX4_mean 9 = .ok (.iload_n 2, 1) := by decide +kernel
theorem dX4_mean_10 : decode cX4_mean 10 = .ok (.aload_n 0, 1) := by decide +kernel
theorem dX4_mean_11 : decode cX4_mean 11 = .ok (.getfield 10, 3) := by decide +kernel
theorem dX4_mean_14 : decode cX4_mean 14 = .ok (.getfield 23, 3) := by decide +kernel
theorem dX4_mean_17 : decode cX4_mean 17 = .ok (.if_icmp .ge 21, 3) := by decide +kernel
theorem dX4_mean_20 : decode cX4_mean 20 = .ok (.iload_n 1, 1) := by decide +kernel
theorem dX4_mean_21 : decode cX4_mean 21 = .ok (.aload_n 0, 1) := by decide +kernel
theorem dX4_mean_22 : decode cX4_mean 22 = .ok (.getfield 10, 3) := by decide +kernel
theorem dX4_mean_25 : decode cX4_mean 25 = .ok (.getfield 58, 3) := by decide +kernel
theorem dX4_mean_28 : decode cX4_mean 28 = .ok (.iload_n 2, 1) := by decide +kernel
theorem dX4_mean_29 : decode cX4_mean 29 = .ok (.iaload, 1) := by decide +kernel
theorem dX4_mean_30 : decode cX4_mean 30 = .ok (.iadd, 1) := by decide +kernel
theorem dX4_mean_31 : decode cX4_mean 31 = .ok (.istore_n 1, 1) := by decide +kernel
theorem dX4_mean_32 : decode cX4_mean 32 = .ok (.iinc 2 1, 3) := by decide +kernel
theorem dX4_mean_35 : decode cX4_mean 35 = .ok (.goto (-26), 3) := by decide +kernel
theorem dX4_mean_38 : decode cX4_mean 38 = .ok (.iload_n 1, 1) := by decide +kernel
theorem dX4_mean_39 : decode cX4_mean 39 = .ok (.i2d, 1) := by decide +kernel
theorem dX4_mean_40 : decode cX4_mean 40 = .ok (.aload_n 0, 1) := by decide +kernel
theorem dX4_mean_41 : decode cX4_mean 41 = .ok (.getfield 10, 3) := by decide +kernel
theorem dX4_mean_44 : decode cX4_mean 44 = .ok (.getfield 23, 3) := by decide +kernel
theorem dX4_mean_47 : decode cX4_mean 47 = .ok (.i2d, 1) := by decide +kernel
theorem dX4_mean_48 : decode cX4_mean 48 = .ok (.ddiv, 1) := by decide +kernel
theorem dX4_mean_49 : decode cX4_mean 49 = .ok (.dreturn, 1) := by decide +kernel
theorem dX4_digest_0 : decode cX4_digest 0 = .ok (.aload_n 0, 1) := by decide +kernel
theorem dX4_digest_1 : decode cX4_digest 1 = .ok (.iconst 0, 1) := by decide +kernel
theorem dX4_digest_2 : decode cX4_digest 2 = .ok (.putfield 19, 3) := by decide +kernel
theorem dX4_digest_5 : decode cX4_digest 5 = .ok (.ldc2_w 127, 3) := by decide +kernel
theorem dX4_digest_8 : decode cX4_digest 8 = .ok (.lstore_n 1, 1) := by decide +kernel
theorem dX4_digest_9 : decode cX4_digest 9 = .ok (.iconst 0, 1) := by decide +kernel
theorem dX4_digest_10 : decode cX4_digest 10 = .ok (.istore_n 3, 1) := by decide +kernel
theorem dX4_digest_11 : decode cX4_digest 11 = .ok (.iload_n 3, 1) := by decide +kernel
theorem dX4_digest_12 : decode cX4_digest 12 = .ok (.bipush 9, 2) := by decide +kernel
theorem dX4_digest_14 : decode cX4_digest 14 = .ok (.if_icmp .gt 25, 3) := by decide +kernel
theorem dX4_digest_17 : decode cX4_digest 17 = .ok (.lload_n 1, 1) := by decide +kernel
theorem dX4_digest_18 : decode cX4_digest 18 = .ok (.ldc2_w 129, 3) := by decide +kernel
theorem dX4_digest_21 : decode cX4_digest 21 = .ok (.lmul, 1) := by decide +kernel
theorem dX4_digest_22 : decode cX4_digest 22 = .ok (.aload_n 0, 1) := by decide +kernel
theorem dX4_digest_23 : decode cX4_digest 23 = .ok (.getfield 10, 3) := by decide +kernel
theorem dX4_digest_26 : decode cX4_digest 26 = .ok (.iload_n 3, 1) := by decide +kernel
theorem dX4_digest_27 : decode cX4_digest 27 = .ok (.invokevirtual 107, 3) := by decide +kernel
theorem dX4_digest_30 : decode cX4_digest 30 = .ok (.i2l, 1) := by decide +kernel
theorem dX4_digest_31 : decode cX4_digest 31 = .ok (.ladd, 1) := by decide +kernel
theorem dX4_digest_32 : decode cX4_digest 32 = .ok (.lstore_n 1, 1) := by decide +kernel
theorem dX4_digest_33 : decode cX4_digest 33 = .ok (.iinc 3 1, 3) := by decide +kernel
theorem dX4_digest_36 : decode cX4_digest 36 = .ok (.goto (-25), 3) := by decide +kernel
theorem dX4_digest_39 : decode cX4_digest 39 = .ok (.iconst 0, 1) := by decide +kernel
theorem dX4_digest_40 : decode cX4_digest 40 = .ok (.istore_n 3, 1) := by decide +kernel
theorem dX4_digest_41 : decode cX4_digest 41 = .ok (.iload_n 3, 1) := by decide +kernel
theorem dX4_digest_42 : decode cX4_digest 42 = .ok (.aload_n 0, 1) := by decide +kernel
theorem dX4_digest_43 : decode cX4_digest 43 = .ok (.getfield 10, 3) := by decide +kernel
theorem dX4_digest_46 : decode cX4_digest 46 = .ok (.getfield 23, 3) := by decide +kernel
theorem dX4_digest_49 : decode cX4_digest 49 = .ok (.if_icmp .ge 95, 3) := by decide +kernel
theorem dX4_digest_52 : decode cX4_digest 52 = .ok (.iconst 0, 1) := by decide +kernel
theorem dX4_digest_53 : decode cX4_digest 53 = .ok (.istore 4, 2) := by decide +kernel
theorem dX4_digest_55 : decode cX4_digest 55 = .ok (.iload 4, 2) := by decide +kernel
theorem dX4_digest_57 : decode cX4_digest 57 = .ok (.bipush 9, 2) := by decide +kernel
theorem dX4_digest_59 : decode cX4_digest 59 = .ok (.if_icmp .gt 24, 3) := by decide +kernel
theorem dX4_digest_62 : decode cX4_digest 62 = .ok (.lload_n 1, 1) := by decide +kernel
theorem dX4_digest_63 : decode cX4_digest 63 = .ok (.ldc2_w 129, 3) := by decide +kernel
theorem dX4_digest_66 : decode cX4_digest 66 = .ok (.lmul, 1) := by decide +kernel
theorem dX4_digest_67 : decode cX4_digest 67 = .ok (.aload_n 0, 1) := by decide +kernel
theorem dX4_digest_68 : decode cX4_digest 68 = .ok (.iload_n 3, 1) := by decide +kernel
theorem dX4_digest_69 : decode cX4_digest 69 = .ok (.iload 4, 2) := by decide +kernel
theorem dX4_digest_71 : decode cX4_digest 71 = .ok (.invokevirtual 87, 3) := by decide +kernel
theorem dX4_digest_74 : decode cX4_digest 74 = .ok (.i2l, 1) := by decide +kernel
theorem dX4_digest_75 : decode cX4_digest 75 = .ok (.ladd, 1) := by decide +kernel
theorem dX4_digest_76 : decode cX4_digest 76 = .ok (.lstore_n 1, 1) := by decide +kernel
theorem dX4_digest_77 : decode cX4_digest 77 = .ok (.iinc 4 1, 3) := by decide +kernel
theorem dX4_digest_80 : decode cX4_digest 80 = .ok (.goto (-25), 3) := by decide +kernel
theorem dX4_digest_83 : decode cX4_digest 83 = .ok (.iconst 0, 1) := by decide +kernel
theorem dX4_digest_84 : decode cX4_digest 84 = .ok (.istore 4, 2) := by decide +kernel
theorem dX4_digest_86 : decode cX4_digest 86 = .ok (.iload 4, 2) := by decide +kernel
theorem dX4_digest_88 : decode cX4_digest 88 = .ok (.aload_n 0, 1) := by decide +kernel
theorem dX4_digest_89 : decode cX4_digest 89 = .ok (.getfield 10, 3) := by decide +kernel
theorem dX4_digest_92 : decode cX4_digest 92 = .ok (.getfield 65, 3) := by decide +kernel
theorem dX4_digest_95 : decode cX4_digest 95 = .ok (.iload_n 3, 1) := by decide +kernel
theorem dX4_digest_96 : decode cX4_digest 96 = .ok (.iaload, 1) := by decide +kernel
theorem dX4_digest_97 : decode cX4_digest 97 = .ok (.if_icmp .ge 41, 3) := by decide +kernel
theorem dX4_digest_100 : decode cX4_digest 100 = .ok (.iconst 0, 1) := by decide +kernel
theorem dX4_digest_101 : decode cX4_digest 101 = .ok (.istore 5, 2) := by decide +kernel
theorem dX4_digest_103 : decode cX4_digest 103 = .ok (.iload 5, 2) := by decide +kernel
theorem dX4_digest_105 : decode cX4_digest 105 = .ok (.iconst 2, 1) := by decide +kernel
theorem dX4_digest_106 : decode cX4_digest 106 = .ok (.if_icmp .gt 26, 3) := by decide +kernel
theorem dX4_digest_109 : decode cX4_digest 109 = .ok (.lload_n 1, 1) := by decide +kernel
theorem dX4_digest_110 : decode cX4_digest 110 = .ok (.ldc2_w 129, 3) := by decide +kernel
theorem dX4_digest_113 : decode cX4_digest 113 = .ok (.lmul, 1) := by decide +kernel
theorem dX4_digest_114 : decode cX4_digest 114 = .ok (.aload_n 0, 1) := by decide +kernel
theorem dX4_digest_115 : decode cX4_digest 115 = .ok (.iload_n 3, 1) := by decide +kernel
theorem dX4_digest_116 : decode cX4_digest 116 = .ok (.iload 4, 2) := by decide +kernel
theorem dX4_digest_118 : decode cX4_digest 118 = .ok (.iload 5, 2) := by decide +kernel
theorem dX4_digest_120 : decode cX4_digest 120 = .ok (.invokevirtual 100, 3) := by decide +kernel
theorem dX4_digest_123 : decode cX4_digest 123 = .ok (.i2l, 1) := by decide +kernel
theorem dX4_digest_124 : decode cX4_digest 124 = .ok (.ladd, 1) := by decide +kernel
theorem dX4_digest_125 : decode cX4_digest 125 = .ok (.lstore_n 1, 1) := by decide +kernel
theorem dX4_digest_126 : decode cX4_digest 126 = .ok (.iinc 5 1, 3) := by decide +kernel
theorem dX4_digest_129 : decode cX4_digest 129 = .ok (.goto (-26), 3) := by decide +kernel
theorem dX4_digest_132 : decode cX4_digest 132 = .ok (.iinc 4 1, 3) := by decide +kernel
theorem dX4_digest_135 : decode cX4_digest 135 = .ok (.goto (-49), 3) := by decide +kernel
theorem dX4_digest_138 : decode cX4_digest 138 = .ok (.iinc 3 1, 3) := by decide +kernel
theorem dX4_digest_141 : decode cX4_digest 141 = .ok (.goto (-100), 3) := by decide +kernel
theorem dX4_digest_144 : decode cX4_digest 144 = .ok (.lload_n 1, 1) := by decide +kernel
theorem dX4_digest_145 : decode cX4_digest 145 = .ok (.lreturn, 1) := by decide +kernel
end
section
theorem dL_fleet_0 : decode cL_fleet 0 = .ok (.aload_n 2, 1) := by decide +kernel
theorem dL_fleet_1 : decode cL_fleet 1 = .ok (.iconst 0, 1) := by decide +kernel
theorem dL_fleet_2 : decode cL_fleet 2 = .ok (.aload_n 0, 1) := by decide +kernel
theorem dL_fleet_3 : decode cL_fleet 3 = .ok (.iload_n 1, 1) := by decide +kernel
theorem dL_fleet_4 : decode cL_fleet 4 = .ok (.invokevirtual 7, 3) := by decide +kernel
theorem dL_fleet_7 : decode cL_fleet 7 = .ok (.i2l, 1) := by decide +kernel
theorem dL_fleet_8 : decode cL_fleet 8 = .ok (.lastore, 1) := by decide +kernel
theorem dL_fleet_9 : decode cL_fleet 9 = .ok (.goto 6, 3) := by decide +kernel
theorem dL_fleet_12 : decode cL_fleet 12 = .ok (.astore_n 3, 1) := by decide +kernel
theorem dL_fleet_13 : decode cL_fleet 13 = .ok (.iconst 1, 1) := by decide +kernel
theorem dL_fleet_14 : decode cL_fleet 14 = .ok (.ireturn, 1) := by decide +kernel
theorem dL_fleet_15 : decode cL_fleet 15 = .ok (.iconst 0, 1) := by decide +kernel
theorem dL_fleet_16 : decode cL_fleet 16 = .ok (.ireturn, 1) := by decide +kernel
theorem dL_setPatience_0 : decode cL_setPatience 0 = .ok (.aload_n 3, 1) := by decide +kernel
theorem dL_setPatience_1 : decode cL_setPatience 1 = .ok (.iconst 0, 1) := by decide +kernel
theorem dL_setPatience_2 : decode cL_setPatience 2 = .ok (.aload_n 0, 1) := by decide +kernel
theorem dL_setPatience_3 : decode cL_setPatience 3 = .ok (.iload_n 1, 1) := by decide +kernel
theorem dL_setPatience_4 : decode cL_setPatience 4 = .ok (.iload_n 2, 1) := by decide +kernel
theorem dL_setPatience_5 : decode cL_setPatience 5 = .ok (.invokevirtual 15, 3) := by decide +kernel
theorem dL_setPatience_8 : decode cL_setPatience 8 = .ok (.i2l, 1) := by decide +kernel
theorem dL_setPatience_9 : decode cL_setPatience 9 = .ok (.lastore, 1) := by decide +kernel
theorem dL_setPatience_10 : decode cL_setPatience 10 = .ok (.goto 11, 3) := by decide +kernel
theorem dL_setPatience_13 : decode cL_setPatience 13 = .ok (.astore 4, 2) := by decide +kernel
theorem dL_setPatience_15 : decode cL_setPatience 15 = .ok (.iconst 1, 1) := by decide +kernel
theorem dL_setPatience_16 : decode cL_setPatience 16 = .ok (.ireturn, 1) := by decide +kernel
theorem dL_setPatience_17 : decode cL_setPatience 17 = .ok (.astore 4, 2) := by decide +kernel
theorem dL_setPatience_19 : decode cL_setPatience 19 = .ok (.iconst 2, 1) := by decide +kernel
theorem dL_setPatience_20 : decode cL_setPatience 20 = .ok (.ireturn, 1) := by decide +kernel
theorem dL_setPatience_21 : decode cL_setPatience 21 = .ok (.iconst 0, 1) := by decide +kernel
theorem dL_setPatience_22 : decode cL_setPatience 22 = .ok (.ireturn, 1) := by decide +kernel
theorem dL_go_0 : decode cL_go 0 = .ok (.aload_n 3, 1) := by decide +kernel
theorem dL_go_1 : decode cL_go 1 = .ok (.iconst 0, 1) := by decide +kernel
theorem dL_go_2 : decode cL_go 2 = .ok (.aload_n 0, 1) := by decide +kernel
theorem dL_go_3 : decode cL_go 3 = .ok (.iload_n 1, 1) := by decide +kernel
theorem dL_go_4 : decode cL_go 4 = .ok (.iload_n 2, 1) := by decide +kernel
theorem dL_go_5 : decode cL_go 5 = .ok (.invokevirtual 21, 3) := by decide +kernel
theorem dL_go_8 : decode cL_go 8 = .ok (.i2l, 1) := by decide +kernel
theorem dL_go_9 : decode cL_go 9 = .ok (.lastore, 1) := by decide +kernel
theorem dL_go_10 : decode cL_go 10 = .ok (.goto 7, 3) := by decide +kernel
theorem dL_go_13 : decode cL_go 13 = .ok (.astore 4, 2) := by decide +kernel
theorem dL_go_15 : decode cL_go 15 = .ok (.iconst 1, 1) := by decide +kernel
theorem dL_go_16 : decode cL_go 16 = .ok (.ireturn, 1) := by decide +kernel
theorem dL_go_17 : decode cL_go 17 = .ok (.iconst 0, 1) := by decide +kernel
theorem dL_go_18 : decode cL_go 18 = .ok (.ireturn, 1) := by decide +kernel
theorem dL_sink_0 : decode cL_sink 0 = .ok (.aload_n 2, 1) := by decide +kernel
theorem dL_sink_1 : decode cL_sink 1 = .ok (.iconst 0, 1) := by decide +kernel
theorem dL_sink_2 : decode cL_sink 2 = .ok (.aload_n 0, 1) := by decide +kernel
theorem dL_sink_3 : decode cL_sink 3 = .ok (.iload_n 1, 1) := by decide +kernel
theorem dL_sink_4 : decode cL_sink 4 = .ok (.invokevirtual 24, 3) := by decide +kernel
theorem dL_sink_7 : decode cL_sink 7 = .ok (.ifCond .eq 7, 3) := by decide +kernel
theorem dL_sink_10 : decode cL_sink 10 = .ok (.lconst 1, 1) := by decide +kernel
theorem dL_sink_11 : decode cL_sink 11 = .ok (.goto 4, 3) := by decide +kernel
theorem dL_sink_14 : decode cL_sink 14 = .ok (.lconst 0, 1) := by decide +kernel
theorem dL_sink_15 : decode cL_sink 15 = .ok (.lastore, 1) := by decide +kernel
theorem dL_sink_16 : decode cL_sink 16 = .ok (.goto 6, 3) := by decide +kernel
theorem dL_sink_19 : decode cL_sink 19 = .ok (.astore_n 3, 1) := by decide +kernel
theorem dL_sink_20 : decode cL_sink 20 = .ok (.iconst 1, 1) := by decide +kernel
theorem dL_sink_21 : decode cL_sink 21 = .ok (.ireturn, 1) := by decide +kernel
theorem dL_sink_22 : decode cL_sink 22 = .ok (.iconst 0, 1) := by decide +kernel
theorem dL_sink_23 : decode cL_sink 23 = .ok (.ireturn, 1) := by decide +kernel
theorem dL_write_0 : decode cL_write 0 = .ok (.aload_n 3, 1) := by decide +kernel
theorem dL_write_1 : decode cL_write 1 = .ok (.iconst 0, 1) := by decide +kernel
theorem dL_write_2 : decode cL_write 2 = .ok (.aload_n 0, 1) := by decide +kernel
theorem dL_write_3 : decode cL_write 3 = .ok (.iload_n 1, 1) := by decide +kernel
theorem dL_write_4 : decode cL_write 4 = .ok (.iload_n 2, 1) := by decide +kernel
theorem dL_write_5 : decode cL_write 5 = .ok (.invokevirtual 28, 3) := by decide +kernel
theorem dL_write_8 : decode cL_write 8 = .ok (.i2l, 1) := by decide +kernel
theorem dL_write_9 : decode cL_write 9 = .ok (.lastore, 1) := by decide +kernel
theorem dL_write_10 : decode cL_write 10 = .ok (.goto 15, 3) := by decide +kernel
theorem dL_write_13 : decode cL_write 13 = .ok (.astore 4, 2) := by decide +kernel
theorem dL_write_15 : decode cL_write 15 = .ok (.iconst 1, 1) := by decide +kernel
theorem dL_write_16 : decode cL_write 16 = .ok (.ireturn, 1) := by decide +kernel
theorem dL_write_17 : decode cL_write 17 = .ok (.astore 4, 2) := by decide +kernel
theorem dL_write_19 : decode cL_write 19 = .ok (.iconst 2, 1) := by decide +kernel
theorem dL_write_20 : decode cL_write 20 = .ok (.ireturn, 1) := by decide +kernel
theorem dL_write_21 : decode cL_write 21 = .ok (.astore 4, 2) := by decide +kernel
theorem dL_write_23 : decode cL_write 23 = .ok (.iconst 3, 1) := by decide +kernel
theorem dL_write_24 : decode cL_write 24 = .ok (.ireturn, 1) := by decide +kernel
theorem dL_write_25 : decode cL_write 25 = .ok (.iconst 0, 1) := by decide +kernel
theorem dL_write_26 : decode cL_write 26 = .ok (.ireturn, 1) := by decide +kernel
theorem dL_pass_0 : decode cL_pass 0 = .ok (.aload_n 2, 1) := by decide +kernel
theorem dL_pass_1 : decode cL_pass 1 = .ok (.iconst 0, 1) := by decide +kernel
theorem dL_pass_2 : decode cL_pass 2 = .ok (.aload_n 0, 1) := by decide +kernel
theorem dL_pass_3 : decode cL_pass 3 = .ok (.iload_n 1, 1) := by decide +kernel
theorem dL_pass_4 : decode cL_pass 4 = .ok (.invokevirtual 33, 3) := by decide +kernel
theorem dL_pass_7 : decode cL_pass 7 = .ok (.i2l, 1) := by decide +kernel
theorem dL_pass_8 : decode cL_pass 8 = .ok (.lastore, 1) := by decide +kernel
theorem dL_pass_9 : decode cL_pass 9 = .ok (.goto 6, 3) := by decide +kernel
theorem dL_pass_12 : decode cL_pass 12 = .ok (.astore_n 3, 1) := by decide +kernel
theorem dL_pass_13 : decode cL_pass 13 = .ok (.iconst 1, 1) := by decide +kernel
theorem dL_pass_14 : decode cL_pass 14 = .ok (.ireturn, 1) := by decide +kernel
theorem dL_pass_15 : decode cL_pass 15 = .ok (.iconst 0, 1) := by decide +kernel
theorem dL_pass_16 : decode cL_pass 16 = .ok (.ireturn, 1) := by decide +kernel
theorem dL_told_0 : decode cL_told 0 = .ok (.aload_n 3, 1) := by decide +kernel
theorem dL_told_1 : decode cL_told 1 = .ok (.iconst 0, 1) := by decide +kernel
theorem dL_told_2 : decode cL_told 2 = .ok (.aload_n 0, 1) := by decide +kernel
theorem dL_told_3 : decode cL_told 3 = .ok (.iload_n 1, 1) := by decide +kernel
theorem dL_told_4 : decode cL_told 4 = .ok (.iload_n 2, 1) := by decide +kernel
theorem dL_told_5 : decode cL_told 5 = .ok (.invokevirtual 36, 3) := by decide +kernel
theorem dL_told_8 : decode cL_told 8 = .ok (.i2l, 1) := by decide +kernel
theorem dL_told_9 : decode cL_told 9 = .ok (.lastore, 1) := by decide +kernel
theorem dL_told_10 : decode cL_told 10 = .ok (.goto 7, 3) := by decide +kernel
theorem dL_told_13 : decode cL_told 13 = .ok (.astore 4, 2) := by decide +kernel
theorem dL_told_15 : decode cL_told 15 = .ok (.iconst 1, 1) := by decide +kernel
theorem dL_told_16 : decode cL_told 16 = .ok (.ireturn, 1) := by decide +kernel
theorem dL_told_17 : decode cL_told 17 = .ok (.iconst 0, 1) := by decide +kernel
theorem dL_told_18 : decode cL_told 18 = .ok (.ireturn, 1) := by decide +kernel
theorem dL_entry_0 : decode cL_entry 0 = .ok (.aload 4, 2) := by decide +kernel
theorem dL_entry_2 : decode cL_entry 2 = .ok (.iconst 0, 1) := by decide +kernel
theorem dL_entry_3 : decode cL_entry 3 = .ok (.aload_n 0, 1) := by decide +kernel
theorem dL_entry_4 : decode cL_entry 4 = .ok (.iload_n 1, 1) := by decide +kernel
theorem dL_entry_5 : decode cL_entry 5 = .ok (.iload_n 2, 1) := by decide +kernel
theorem dL_entry_6 : decode cL_entry 6 = .ok (.iload_n 3, 1) := by decide +kernel
theorem dL_entry_7 : decode cL_entry 7 = .ok (.invokevirtual 39, 3) := by decide +kernel
theorem dL_entry_10 : decode cL_entry 10 = .ok (.i2l, 1) := by decide +kernel
theorem dL_entry_11 : decode cL_entry 11 = .ok (.lastore, 1) := by decide +kernel
theorem dL_entry_12 : decode cL_entry 12 = .ok (.goto 7, 3) := by decide +kernel
theorem dL_entry_15 : decode cL_entry 15 = .ok (.astore 5, 2) := by decide +kernel
theorem dL_entry_17 : decode cL_entry 17 = .ok (.iconst 1, 1) := by decide +kernel
theorem dL_entry_18 : decode cL_entry 18 = .ok (.ireturn, 1) := by decide +kernel
theorem dL_entry_19 : decode cL_entry 19 = .ok (.iconst 0, 1) := by decide +kernel
theorem dL_entry_20 : decode cL_entry 20 = .ok (.ireturn, 1) := by decide +kernel
theorem dL_agree_0 : decode cL_agree 0 = .ok (.aload_n 3, 1) := by decide +kernel
theorem dL_agree_1 : decode cL_agree 1 = .ok (.iconst 0, 1) := by decide +kernel
theorem dL_agree_2 : decode cL_agree 2 = .ok (.aload_n 0, 1) := by decide +kernel
theorem dL_agree_3 : decode cL_agree 3 = .ok (.iload_n 1, 1) := by decide +kernel
theorem dL_agree_4 : decode cL_agree 4 = .ok (.iload_n 2, 1) := by decide +kernel
theorem dL_agree_5 : decode cL_agree 5 = .ok (.invokevirtual 43, 3) := by decide +kernel
theorem dL_agree_8 : decode cL_agree 8 = .ok (.i2l, 1) := by decide +kernel
theorem dL_agree_9 : decode cL_agree 9 = .ok (.lastore, 1) := by decide +kernel
theorem dL_agree_10 : decode cL_agree 10 = .ok (.goto 7, 3) := by decide +kernel
theorem dL_agree_13 : decode cL_agree 13 = .ok (.astore 4, 2) := by decide +kernel
theorem dL_agree_15 : decode cL_agree 15 = .ok (.iconst 1, 1) := by decide +kernel
theorem dL_agree_16 : decode cL_agree 16 = .ok (.ireturn, 1) := by decide +kernel
theorem dL_agree_17 : decode cL_agree 17 = .ok (.iconst 0, 1) := by decide +kernel
theorem dL_agree_18 : decode cL_agree 18 = .ok (.ireturn, 1) := by decide +kernel
theorem dL_newer_0 : decode cL_newer 0 = .ok (.aload_n 3, 1) := by decide +kernel
theorem dL_newer_1 : decode cL_newer 1 = .ok (.iconst 0, 1) := by decide +kernel
theorem dL_newer_2 : decode cL_newer 2 = .ok (.aload_n 0, 1) := by decide +kernel
theorem dL_newer_3 : decode cL_newer 3 = .ok (.iload_n 1, 1) := by decide +kernel
theorem dL_newer_4 : decode cL_newer 4 = .ok (.iload_n 2, 1) := by decide +kernel
theorem dL_newer_5 : decode cL_newer 5 = .ok (.invokevirtual 46, 3) := by decide +kernel
theorem dL_newer_8 : decode cL_newer 8 = .ok (.ifCond .eq 7, 3) := by decide +kernel
theorem dL_newer_11 : decode cL_newer 11 = .ok (.lconst 1, 1) := by decide +kernel
theorem dL_newer_12 : decode cL_newer 12 = .ok (.goto 4, 3) := by decide +kernel
theorem dL_newer_15 : decode cL_newer 15 = .ok (.lconst 0, 1) := by decide +kernel
theorem dL_newer_16 : decode cL_newer 16 = .ok (.lastore, 1) := by decide +kernel
theorem dL_newer_17 : decode cL_newer 17 = .ok (.goto 7, 3) := by decide +kernel
theorem dL_newer_20 : decode cL_newer 20 = .ok (.astore 4, 2) := by decide +kernel
theorem dL_newer_22 : decode cL_newer 22 = .ok (.iconst 1, 1) := by decide +kernel
theorem dL_newer_23 : decode cL_newer 23 = .ok (.ireturn, 1) := by decide +kernel
theorem dL_newer_24 : decode cL_newer 24 = .ok (.iconst 0, 1) := by decide +kernel
theorem dL_newer_25 : decode cL_newer 25 = .ok (.ireturn, 1) := by decide +kernel
theorem dL_count_0 : decode cL_count 0 = .ok (.aload_n 2, 1) := by decide +kernel
theorem dL_count_1 : decode cL_count 1 = .ok (.iconst 0, 1) := by decide +kernel
theorem dL_count_2 : decode cL_count 2 = .ok (.aload_n 0, 1) := by decide +kernel
theorem dL_count_3 : decode cL_count 3 = .ok (.iload_n 1, 1) := by decide +kernel
theorem dL_count_4 : decode cL_count 4 = .ok (.invokevirtual 50, 3) := by decide +kernel
theorem dL_count_7 : decode cL_count 7 = .ok (.i2l, 1) := by decide +kernel
theorem dL_count_8 : decode cL_count 8 = .ok (.lastore, 1) := by decide +kernel
theorem dL_count_9 : decode cL_count 9 = .ok (.goto 6, 3) := by decide +kernel
theorem dL_count_12 : decode cL_count 12 = .ok (.astore_n 3, 1) := by decide +kernel
theorem dL_count_13 : decode cL_count 13 = .ok (.iconst 1, 1) := by decide +kernel
theorem dL_count_14 : decode cL_count 14 = .ok (.ireturn, 1) := by decide +kernel
theorem dL_count_15 : decode cL_count 15 = .ok (.iconst 0, 1) := by decide +kernel
theorem dL_count_16 : decode cL_count 16 = .ok (.ireturn, 1) := by decide +kernel
theorem dL_harbour_0 : decode cL_harbour 0 = .ok (.aload_n 3, 1) := by decide +kernel
theorem dL_harbour_1 : decode cL_harbour 1 = .ok (.iconst 0, 1) := by decide +kernel
theorem dL_harbour_2 : decode cL_harbour 2 = .ok (.aload_n 0, 1) := by decide +kernel
theorem dL_harbour_3 : decode cL_harbour 3 = .ok (.iload_n 1, 1) := by decide +kernel
theorem dL_harbour_4 : decode cL_harbour 4 = .ok (.iload_n 2, 1) := by decide +kernel
theorem dL_harbour_5 : decode cL_harbour 5 = .ok (.invokevirtual 53, 3) := by decide +kernel
theorem dL_harbour_8 : decode cL_harbour 8 = .ok (.i2l, 1) := by decide +kernel
theorem dL_harbour_9 : decode cL_harbour 9 = .ok (.lastore, 1) := by decide +kernel
theorem dL_harbour_10 : decode cL_harbour 10 = .ok (.goto 7, 3) := by decide +kernel
theorem dL_harbour_13 : decode cL_harbour 13 = .ok (.astore 4, 2) := by decide +kernel
theorem dL_harbour_15 : decode cL_harbour 15 = .ok (.iconst 1, 1) := by decide +kernel
theorem dL_harbour_16 : decode cL_harbour 16 = .ok (.ireturn, 1) := by decide +kernel
theorem dL_harbour_17 : decode cL_harbour 17 = .ok (.iconst 0, 1) := by decide +kernel
theorem dL_harbour_18 : decode cL_harbour 18 = .ok (.ireturn, 1) := by decide +kernel
theorem dL_foresee_0 : decode cL_foresee 0 = .ok (.aload_n 3, 1) := by decide +kernel
theorem dL_foresee_1 : decode cL_foresee 1 = .ok (.iconst 0, 1) := by decide +kernel
theorem dL_foresee_2 : decode cL_foresee 2 = .ok (.aload_n 0, 1) := by decide +kernel
theorem dL_foresee_3 : decode cL_foresee 3 = .ok (.iload_n 1, 1) := by decide +kernel
theorem dL_foresee_4 : decode cL_foresee 4 = .ok (.iload_n 2, 1) := by decide +kernel
theorem dL_foresee_5 : decode cL_foresee 5 = .ok (.invokevirtual 56, 3) := by decide +kernel
theorem dL_foresee_8 : decode cL_foresee 8 = .ok (.i2l, 1) := by decide +kernel
theorem dL_foresee_9 : decode cL_foresee 9 = .ok (.lastore, 1) := by decide +kernel
theorem dL_foresee_10 : decode cL_foresee 10 = .ok (.goto 11, 3) := by decide +kernel
theorem dL_foresee_13 : decode cL_foresee 13 = .ok (.astore 4, 2) := by decide +kernel
theorem dL_foresee_15 : decode cL_foresee 15 = .ok (.iconst 1, 1) := by decide +kernel
theorem dL_foresee_16 : decode cL_foresee 16 = .ok (.ireturn, 1) := by decide +kernel
theorem dL_foresee_17 : decode cL_foresee 17 = .ok (.astore 4, 2) := by decide +kernel
theorem dL_foresee_19 : decode cL_foresee 19 = .ok (.iconst 2, 1) := by decide +kernel
theorem dL_foresee_20 : decode cL_foresee 20 = .ok (.ireturn, 1) := by decide +kernel
theorem dL_foresee_21 : decode cL_foresee 21 = .ok (.iconst 0, 1) := by decide +kernel
theorem dL_foresee_22 : decode cL_foresee 22 = .ok (.ireturn, 1) := by decide +kernel
theorem dL_advise_0 : decode cL_advise 0 = .ok (.aload_n 3, 1) := by decide +kernel
theorem dL_advise_1 : decode cL_advise 1 = .ok (.iconst 0, 1) := by decide +kernel
theorem dL_advise_2 : decode cL_advise 2 = .ok (.aload_n 0, 1) := by decide +kernel
theorem dL_advise_3 : decode cL_advise 3 = .ok (.iload_n 1, 1) := by decide +kernel
theorem dL_advise_4 : decode cL_advise 4 = .ok (.iload_n 2, 1) := by decide +kernel
theorem dL_advise_5 : decode cL_advise 5 = .ok (.invokevirtual 59, 3) := by decide +kernel
theorem dL_advise_8 : decode cL_advise 8 = .ok (.i2l, 1) := by decide +kernel
theorem dL_advise_9 : decode cL_advise 9 = .ok (.lastore, 1) := by decide +kernel
theorem dL_advise_10 : decode cL_advise 10 = .ok (.goto 15, 3) := by decide +kernel
theorem dL_advise_13 : decode cL_advise 13 = .ok (.astore 4, 2) := by decide +kernel
theorem dL_advise_15 : decode cL_advise 15 = .ok (.iconst 1, 1) := by decide +kernel
theorem dL_advise_16 : decode cL_advise 16 = .ok (.ireturn, 1) := by decide +kernel
theorem dL_advise_17 : decode cL_advise 17 = .ok (.astore 4, 2) := by decide +kernel
theorem dL_advise_19 : decode cL_advise 19 = .ok (.iconst 2, 1) := by decide +kernel
theorem dL_advise_20 : decode cL_advise 20 = .ok (.ireturn, 1) := by decide +kernel
theorem dL_advise_21 : decode cL_advise 21 = .ok (.astore 4, 2) := by decide +kernel
theorem dL_advise_23 : decode cL_advise 23 = .ok (.iconst 3, 1) := by decide +kernel
theorem dL_advise_24 : decode cL_advise 24 = .ok (.ireturn, 1) := by decide +kernel
theorem dL_advise_25 : decode cL_advise 25 = .ok (.iconst 0, 1) := by decide +kernel
theorem dL_advise_26 : decode cL_advise 26 = .ok (.ireturn, 1) := by decide +kernel
theorem dL_law_0 : decode cL_law 0 = .ok (.new 8, 3) := by decide +kernel
theorem dL_law_3 : decode cL_law 3 = .ok (.dup, 1) := by decide +kernel
theorem dL_law_4 : decode cL_law 4 = .ok (.invokespecial 62, 3) := by decide +kernel
theorem dL_law_7 : decode cL_law 7 = .ok (.astore_n 1, 1) := by decide +kernel
theorem dL_law_8 : decode cL_law 8 = .ok (.new 63, 3) := by decide +kernel
theorem dL_law_11 : decode cL_law 11 = .ok (.dup, 1) := by decide +kernel
theorem dL_law_12 : decode cL_law 12 = .ok (.invokespecial 65, 3) := by decide +kernel
theorem dL_law_15 : decode cL_law 15 = .ok (.astore_n 2, 1) := by decide +kernel
theorem dL_law_16 : decode cL_law 16 = .ok (.iconst 1, 1) := by decide +kernel
theorem dL_law_17 : decode cL_law 17 = .ok (.newarray .long, 2) := by decide +kernel
theorem dL_law_19 : decode cL_law 19 = .ok (.astore_n 3, 1) := by decide +kernel
theorem dL_law_20 : decode cL_law 20 = .ok (.iconst 0, 1) := by decide +kernel
theorem dL_law_21 : decode cL_law 21 = .ok (.istore 4, 2) := by decide +kernel
theorem dL_law_23 : decode cL_law 23 = .ok (.iload 4, 2) := by decide +kernel
theorem dL_law_25 : decode cL_law 25 = .ok (.aload_n 0, 1) := by decide +kernel
theorem dL_law_26 : decode cL_law 26 = .ok (.arraylength, 1) := by decide +kernel
theorem dL_law_27 : decode cL_law 27 = .ok (.iconst 4, 1) := by decide +kernel
theorem dL_law_28 : decode cL_law 28 = .ok (.isub, 1) := by decide +kernel
theorem dL_law_29 : decode cL_law 29 = .ok (.if_icmp .gt 1112, 3) := by decide +kernel
theorem dL_law_32 : decode cL_law 32 = .ok (.aload_n 0, 1) := by decide +kernel
theorem dL_law_33 : decode cL_law 33 = .ok (.iload 4, 2) := by decide +kernel
theorem dL_law_35 : decode cL_law 35 = .ok (.iaload, 1) := by decide +kernel
theorem dL_law_36 : decode cL_law 36 = .ok (.bipush 31, 2) := by decide +kernel
theorem dL_law_38 : decode cL_law 38 = .ok (.iand, 1) := by decide +kernel
theorem dL_law_39 : decode cL_law 39 = .ok (.tableswitch 1096 0 17 #[85, 141, 209, 277, 340, 408, 464, 532, 612, 680, 755, 768, 824, 892, 905, 973, 1041, 1082], 85) := by decide +kernel
theorem dL_law_124 : decode cL_law 124 = .ok (.aload_n 1, 1) := by decide +kernel
theorem dL_law_125 : decode cL_law 125 = .ok (.aload_n 0, 1) := by decide +kernel
theorem dL_law_126 : decode cL_law 126 = .ok (.iload 4, 2) := by decide +kernel
theorem dL_law_128 : decode cL_law 128 = .ok (.iconst 1, 1) := by decide +kernel
theorem dL_law_129 : decode cL_law 129 = .ok (.iadd, 1) := by decide +kernel
theorem dL_law_130 : decode cL_law 130 = .ok (.iaload, 1) := by decide +kernel
theorem dL_law_131 : decode cL_law 131 = .ok (.aload_n 3, 1) := by decide +kernel
theorem dL_law_132 : decode cL_law 132 = .ok (.invokestatic 66, 3) := by decide +kernel
theorem dL_law_135 : decode cL_law 135 = .ok (.istore 5, 2) := by decide +kernel
theorem dL_law_137 : decode cL_law 137 = .ok (.aload_n 2, 1) := by decide +kernel
theorem dL_law_138 : decode cL_law 138 = .ok (.aload_n 0, 1) := by decide +kernel
theorem dL_law_139 : decode cL_law 139 = .ok (.iload 4, 2) := by decide +kernel
theorem dL_law_141 : decode cL_law 141 = .ok (.iconst 1, 1) := by decide +kernel
theorem dL_law_142 : decode cL_law 142 = .ok (.iadd, 1) := by decide +kernel
theorem dL_law_143 : decode cL_law 143 = .ok (.iaload, 1) := by decide +kernel
theorem dL_law_144 : decode cL_law 144 = .ok (.invokevirtual 71, 3) := by decide +kernel
theorem dL_law_147 : decode cL_law 147 = .ok (.istore 6, 2) := by decide +kernel
theorem dL_law_149 : decode cL_law 149 = .ok (.aload_n 2, 1) := by decide +kernel
theorem dL_law_150 : decode cL_law 150 = .ok (.invokevirtual 72, 3) := by decide +kernel
theorem dL_law_153 : decode cL_law 153 = .ok (.iload 5, 2) := by decide +kernel
theorem dL_law_155 : decode cL_law 155 = .ok (.if_icmp .eq 5, 3) := by decide +kernel
theorem dL_law_158 : decode cL_law 158 = .ok (.iconst 0, 1) := by decide +kernel
theorem dL_law_159 : decode cL_law 159 = .ok (.ireturn, 1) := by decide +kernel
theorem dL_law_160 : decode cL_law 160 = .ok (.iload 5, 2) := by decide +kernel
theorem dL_law_162 : decode cL_law 162 = .ok (.ifCond .ne 15, 3) := by decide +kernel
theorem dL_law_165 : decode cL_law 165 = .ok (.aload_n 3, 1) := by decide +kernel
theorem dL_law_166 : decode cL_law 166 = .ok (.iconst 0, 1) := by decide +kernel
theorem dL_law_167 : decode cL_law 167 = .ok (.laload, 1) := by decide +kernel
theorem dL_law_168 : decode cL_law 168 = .ok (.iload 6, 2) := by decide +kernel
theorem dL_law_170 : decode cL_law 170 = .ok (.i2l, 1) := by decide +kernel
theorem dL_law_171 : decode cL_law 171 = .ok (.lcmp, 1) := by decide +kernel
theorem dL_law_172 : decode cL_law 172 = .ok (.ifCond .eq 5, 3) := by decide +kernel
theorem dL_law_175 : decode cL_law 175 = .ok (.iconst 0, 1) := by decide +kernel
theorem dL_law_176 : decode cL_law 176 = .ok (.ireturn, 1) := by decide +kernel
theorem dL_law_177 : decode cL_law 177 = .ok (.goto 958, 3) := by decide +kernel
theorem dL_law_180 : decode cL_law 180 = .ok (.aload_n 1, 1) := by decide +kernel
theorem dL_law_181 : decode cL_law 181 = .ok (.aload_n 0, 1) := by decide +kernel
theorem dL_law_182 : decode cL_law 182 = .ok (.iload 4, 2) := by decide +kernel
theorem dL_law_184 : decode cL_law 184 = .ok (.iconst 1, 1) := by decide +kernel
theorem dL_law_185 : decode cL_law 185 = .ok (.iadd, 1) := by decide +kernel
theorem dL_law_186 : decode cL_law 186 = .ok (.iaload, 1) := by decide +kernel
theorem dL_law_187 : decode cL_law 187 = .ok (.aload_n 0, 1) := by decide +kernel
theorem dL_law_188 : decode cL_law 188 = .ok (.iload 4, 2) := by decide +kernel
theorem dL_law_190 : decode cL_law 190 = .ok (.iconst 2, 1) := by decide +kernel
theorem dL_law_191 : decode cL_law 191 = .ok (.iadd, 1) := by decide +kernel
theorem dL_law_192 : decode cL_law 192 = .ok (.iaload, 1) := by decide +kernel
theorem dL_law_193 : decode cL_law 193 = .ok (.aload_n 3, 1) := by decide +kernel
theorem dL_law_194 : decode cL_law 194 = .ok (.invokestatic 76, 3) := by decide +kernel
theorem dL_law_197 : decode cL_law 197 = .ok (.istore 5, 2) := by decide +kernel
theorem dL_law_199 : decode cL_law 199 = .ok (.aload_n 2, 1) := by decide +kernel
theorem dL_law_200 : decode cL_law 200 = .ok (.aload_n 0, 1) := by decide +kernel
theorem dL_law_201 : decode cL_law 201 = .ok (.iload 4, 2) := by decide +kernel
theorem dL_law_203 : decode cL_law 203 = .ok (.iconst 1, 1) := by decide +kernel
theorem dL_law_204 : decode cL_law 204 = .ok (.iadd, 1) := by decide +kernel
theorem dL_law_205 : decode cL_law 205 = .ok (.iaload, 1) := by decide +kernel
theorem dL_law_206 : decode cL_law 206 = .ok (.aload_n 0, 1) := by decide +kernel
theorem dL_law_207 : decode cL_law 207 = .ok (.iload 4, 2) := by decide +kernel
theorem dL_law_209 : decode cL_law 209 = .ok (.iconst 2, 1) := by decide +kernel
theorem dL_law_210 : decode cL_law 210 = .ok (.iadd, 1) := by decide +kernel
theorem dL_law_211 : decode cL_law 211 = .ok (.iaload, 1) := by decide +kernel
theorem dL_law_212 : decode cL_law 212 = .ok (.invokevirtual 79, 3) := by decide +kernel
theorem dL_law_215 : decode cL_law 215 = .ok (.istore 6, 2) := by decide +kernel
theorem dL_law_217 : decode cL_law 217 = .ok (.aload_n 2, 1) := by decide +kernel
theorem dL_law_218 : decode cL_law 218 = .ok (.invokevirtual 72, 3) := by decide +kernel
theorem dL_law_221 : decode cL_law 221 = .ok (.iload 5, 2) := by decide +kernel
theorem dL_law_223 : decode cL_law 223 = .ok (.if_icmp .eq 5, 3) := by decide +kernel
theorem dL_law_226 : decode cL_law 226 = .ok (.iconst 0, 1) := by decide +kernel
theorem dL_law_227 : decode cL_law 227 = .ok (.ireturn, 1) := by decide +kernel
theorem dL_law_228 : decode cL_law 228 = .ok (.iload 5, 2) := by decide +kernel
theorem dL_law_230 : decode cL_law 230 = .ok (.ifCond .ne 15, 3) := by decide +kernel
theorem dL_law_233 : decode cL_law 233 = .ok (.aload_n 3, 1) := by decide +kernel
theorem dL_law_234 : decode cL_law 234 = .ok (.iconst 0, 1) := by decide +kernel
theorem dL_law_235 : decode cL_law 235 = .ok (.laload, 1) := by decide +kernel
theorem dL_law_236 : decode cL_law 236 = .ok (.iload 6, 2) := by decide +kernel
theorem dL_law_238 : decode cL_law 238 = .ok (.i2l, 1) := by decide +kernel
theorem dL_law_239 : decode cL_law 239 = .ok (.lcmp, 1) := by decide +kernel
theorem dL_law_240 : decode cL_law 240 = .ok (.ifCond .eq 5, 3) := by decide +kernel
theorem dL_law_243 : decode cL_law 243 = .ok (.iconst 0, 1) := by decide +kernel
theorem dL_law_244 : decode cL_law 244 = .ok (.ireturn, 1) := by decide +kernel
theorem dL_law_245 : decode cL_law 245 = .ok (.goto 890, 3) := by decide +kernel
theorem dL_law_248 : decode cL_law 248 = .ok (.aload_n 1, 1) := by decide +kernel
theorem dL_law_249 : decode cL_law 249 = .ok (.aload_n 0, 1) := by decide +kernel
theorem dL_law_250 : decode cL_law 250 = .ok (.iload 4, 2) := by decide +kernel
theorem dL_law_252 : decode cL_law 252 = .ok (.iconst 1, 1) := by decide +kernel
theorem dL_law_253 : decode cL_law 253 = .ok (.iadd, 1) := by decide +kernel
theorem dL_law_254 : decode cL_law 254 = .ok (.iaload, 1) := by decide +kernel
theorem dL_law_255 : decode cL_law 255 = .ok (.aload_n 0, 1) := by decide +kernel
theorem dL_law_256 : decode cL_law 256 = .ok (.iload 4, 2) := by decide +kernel
theorem dL_law_258 : decode cL_law 258 = .ok (.iconst 2, 1) := by decide +kernel
theorem dL_law_259 : decode cL_law 259 = .ok (.iadd, 1) := by decide +kernel
theorem dL_law_260 : decode cL_law 260 = .ok (.iaload, 1) := by decide +kernel
theorem dL_law_261 : decode cL_law 261 = .ok (.aload_n 3, 1) := by decide +kernel
theorem dL_law_262 : decode cL_law 262 = .ok (.invokestatic 80, 3) := by decide +kernel
theorem dL_law_265 : decode cL_law 265 = .ok (.istore 5, 2) := by decide +kernel
theorem dL_law_267 : decode cL_law 267 = .ok (.aload_n 2, 1) := by decide +kernel
theorem dL_law_268 : decode cL_law 268 = .ok (.aload_n 0, 1) := by decide +kernel
theorem dL_law_269 : decode cL_law 269 = .ok (.iload 4, 2) := by decide +kernel
theorem dL_law_271 : decode cL_law 271 = .ok (.iconst 1, 1) := by decide +kernel
theorem dL_law_272 : decode cL_law 272 = .ok (.iadd, 1) := by decide +kernel
theorem dL_law_273 : decode cL_law 273 = .ok (.iaload, 1) := by decide +kernel
theorem dL_law_274 : decode cL_law 274 = .ok (.aload_n 0, 1) := by decide +kernel
theorem dL_law_275 : decode cL_law 275 = .ok (.iload 4, 2) := by decide +kernel
theorem dL_law_277 : decode cL_law 277 = .ok (.iconst 2, 1) := by decide +kernel
theorem dL_law_278 : decode cL_law 278 = .ok (.iadd, 1) := by decide +kernel
theorem dL_law_279 : decode cL_law 279 = .ok (.iaload, 1) := by decide +kernel
theorem dL_law_280 : decode cL_law 280 = .ok (.invokevirtual 82, 3) := by decide +kernel
theorem dL_law_283 : decode cL_law 283 = .ok (.istore 6, 2) := by decide +kernel
theorem dL_law_285 : decode cL_law 285 = .ok (.aload_n 2, 1) := by decide +kernel
theorem dL_law_286 : decode cL_law 286 = .ok (.invokevirtual 72, 3) := by decide +kernel
theorem dL_law_289 : decode cL_law 289 = .ok (.iload 5, 2) := by decide +kernel
theorem dL_law_291 : decode cL_law 291 = .ok (.if_icmp .eq 5, 3) := by decide +kernel
theorem dL_law_294 : decode cL_law 294 = .ok (.iconst 0, 1) := by decide +kernel
theorem dL_law_295 : decode cL_law 295 = .ok (.ireturn, 1) := by decide +kernel
theorem dL_law_296 : decode cL_law 296 = .ok (.iload 5, 2) := by decide +kernel
theorem dL_law_298 : decode cL_law 298 = .ok (.ifCond .ne 15, 3) := by decide +kernel
theorem dL_law_301 : decode cL_law 301 = .ok (.aload_n 3, 1) := by decide +kernel
theorem dL_law_302 : decode cL_law 302 = .ok (.iconst 0, 1) := by decide +kernel
theorem dL_law_303 : decode cL_law 303 = .ok (.laload, 1) := by decide +kernel
theorem dL_law_304 : decode cL_law 304 = .ok (.iload 6, 2) := by decide +kernel
theorem dL_law_306 : decode cL_law 306 = .ok (.i2l, 1) := by decide +kernel
theorem dL_law_307 : decode cL_law 307 = .ok (.lcmp, 1) := by decide +kernel
theorem dL_law_308 : decode cL_law 308 = .ok (.ifCond .eq 5, 3) := by decide +kernel
theorem dL_law_311 : decode cL_law 311 = .ok (.iconst 0, 1) := by decide +kernel
theorem dL_law_312 : decode cL_law 312 = .ok (.ireturn, 1) := by decide +kernel
theorem dL_law_313 : decode cL_law 313 = .ok (.goto 822, 3) := by decide +kernel
theorem dL_law_316 : decode cL_law 316 = .ok (.aload_n 1, 1) := by decide +kernel
theorem dL_law_317 : decode cL_law 317 = .ok (.aload_n 0, 1) := by decide +kernel
theorem dL_law_318 : decode cL_law 318 = .ok (.iload 4, 2) := by decide +kernel
theorem dL_law_320 : decode cL_law 320 = .ok (.iconst 1, 1) := by decide +kernel
theorem dL_law_321 : decode cL_law 321 = .ok (.iadd, 1) := by decide +kernel
theorem dL_law_322 : decode cL_law 322 = .ok (.iaload, 1) := by decide +kernel
theorem dL_law_323 : decode cL_law 323 = .ok (.aload_n 3, 1) := by decide +kernel
theorem dL_law_324 : decode cL_law 324 = .ok (.invokestatic 83, 3) := by decide +kernel
theorem dL_law_327 : decode cL_law 327 = .ok (.istore 5, 2) := by decide +kernel
theorem dL_law_329 : decode cL_law 329 = .ok (.aload_n 2, 1) := by decide +kernel
theorem dL_law_330 : decode cL_law 330 = .ok (.aload_n 0, 1) := by decide +kernel
theorem dL_law_331 : decode cL_law 331 = .ok (.iload 4, 2) := by decide +kernel
theorem dL_law_333 : decode cL_law 333 = .ok (.iconst 1, 1) := by decide +kernel
theorem dL_law_334 : decode cL_law 334 = .ok (.iadd, 1) := by decide +kernel
theorem dL_law_335 : decode cL_law 335 = .ok (.iaload, 1) := by decide +kernel
theorem dL_law_336 : decode cL_law 336 = .ok (.invokevirtual 85, 3) := by decide +kernel
theorem dL_law_339 : decode cL_law 339 = .ok (.istore 6, 2) := by decide +kernel
theorem dL_law_341 : decode cL_law 341 = .ok (.aload_n 2, 1) := by decide +kernel
theorem dL_law_342 : decode cL_law 342 = .ok (.invokevirtual 72, 3) := by decide +kernel
theorem dL_law_345 : decode cL_law 345 = .ok (.iload 5, 2) := by decide +kernel
theorem dL_law_347 : decode cL_law 347 = .ok (.if_icmp .eq 5, 3) := by decide +kernel
theorem dL_law_350 : decode cL_law 350 = .ok (.iconst 0, 1) := by decide +kernel
theorem dL_law_351 : decode cL_law 351 = .ok (.ireturn, 1) := by decide +kernel
theorem dL_law_352 : decode cL_law 352 = .ok (.iload 5, 2) := by decide +kernel
theorem dL_law_354 : decode cL_law 354 = .ok (.ifCond .ne 22, 3) := by decide +kernel
theorem dL_law_357 : decode cL_law 357 = .ok (.aload_n 3, 1) := by decide +kernel
theorem dL_law_358 : decode cL_law 358 = .ok (.iconst 0, 1) := by decide +kernel
theorem dL_law_359 : decode cL_law 359 = .ok (.laload, 1) := by decide +kernel
theorem dL_law_360 : decode cL_law 360 = .ok (.iload 6, 2) := by decide +kernel
theorem dL_law_362 : decode cL_law 362 = .ok (.ifCond .eq 7, 3) := by decide +kernel
theorem dL_law_365 : decode cL_law 365 = .ok (.lconst 1, 1) := by decide +kernel
theorem dL_law_366 : decode cL_law 366 = .ok (.goto 4, 3) := by decide +kernel
theorem dL_law_369 : decode cL_law 369 = .ok (.lconst 0, 1) := by decide +kernel
theorem dL_law_370 : decode cL_law 370 = .ok (.lcmp, 1) := by decide +kernel
theorem dL_law_371 : decode cL_law 371 = .ok (.ifCond .eq 5, 3) := by decide +kernel
theorem dL_law_374 : decode cL_law 374 = .ok (.iconst 0, 1) := by decide +kernel
theorem dL_law_375 : decode cL_law 375 = .ok (.ireturn, 1) := by decide +kernel
theorem dL_law_376 : decode cL_law 376 = .ok (.goto 759, 3) := by decide +kernel
theorem dL_law_379 : decode cL_law 379 = .ok (.aload_n 1, 1) := by decide +kernel
theorem dL_law_380 : decode cL_law 380 = .ok (.aload_n 0, 1) := by decide +kernel
theorem dL_law_381 : decode cL_law 381 = .ok (.iload 4, 2) := by decide +kernel
theorem dL_law_383 : decode cL_law 383 = .ok (.iconst 1, 1) := by decide +kernel
theorem dL_law_384 : decode cL_law 384 = .ok (.iadd, 1) := by decide +kernel
theorem dL_law_385 : decode cL_law 385 = .ok (.iaload, 1) := by decide +kernel
theorem dL_law_386 : decode cL_law 386 = .ok (.aload_n 0, 1) := by decide +kernel
theorem dL_law_387 : decode cL_law 387 = .ok (.iload 4, 2) := by decide +kernel
theorem dL_law_389 : decode cL_law 389 = .ok (.iconst 2, 1) := by decide +kernel
theorem dL_law_390 : decode cL_law 390 = .ok (.iadd, 1) := by decide +kernel
theorem dL_law_391 : decode cL_law 391 = .ok (.iaload, 1) := by decide +kernel
theorem dL_law_392 : decode cL_law 392 = .ok (.aload_n 3, 1) := by decide +kernel
theorem dL_law_393 : decode cL_law 393 = .ok (.invokestatic 86, 3) := by decide +kernel
theorem dL_law_396 : decode cL_law 396 = .ok (.istore 5, 2) := by decide +kernel
theorem dL_law_398 : decode cL_law 398 = .ok (.aload_n 2, 1) := by decide +kernel
theorem dL_law_399 : decode cL_law 399 = .ok (.aload_n 0, 1) := by decide +kernel
theorem dL_law_400 : decode cL_law 400 = .ok (.iload 4, 2) := by decide +kernel
theorem dL_law_402 : decode cL_law 402 = .ok (.iconst 1, 1) := by decide +kernel
theorem dL_law_403 : decode cL_law 403 = .ok (.iadd, 1) := by decide +kernel
theorem dL_law_404 : decode cL_law 404 = .ok (.iaload, 1) := by decide +kernel
theorem dL_law_405 : decode cL_law 405 = .ok (.aload_n 0, 1) := by decide +kernel
theorem dL_law_406 : decode cL_law 406 = .ok (.iload 4, 2) := by decide +kernel
theorem dL_law_408 : decode cL_law 408 = .ok (.iconst 2, 1) := by decide +kernel
theorem dL_law_409 : decode cL_law 409 = .ok (.iadd, 1) := by decide +kernel
theorem dL_law_410 : decode cL_law 410 = .ok (.iaload, 1) := by decide +kernel
theorem dL_law_411 : decode cL_law 411 = .ok (.invokevirtual 88, 3) := by decide +kernel
theorem dL_law_414 : decode cL_law 414 = .ok (.istore 6, 2) := by decide +kernel
theorem dL_law_416 : decode cL_law 416 = .ok (.aload_n 2, 1) := by decide +kernel
theorem dL_law_417 : decode cL_law 417 = .ok (.invokevirtual 72, 3) := by decide +kernel
theorem dL_law_420 : decode cL_law 420 = .ok (.iload 5, 2) := by decide +kernel
theorem dL_law_422 : decode cL_law 422 = .ok (.if_icmp .eq 5, 3) := by decide +kernel
theorem dL_law_425 : decode cL_law 425 = .ok (.iconst 0, 1) := by decide +kernel
theorem dL_law_426 : decode cL_law 426 = .ok (.ireturn, 1) := by decide +kernel
theorem dL_law_427 : decode cL_law 427 = .ok (.iload 5, 2) := by decide +kernel
theorem dL_law_429 : decode cL_law 429 = .ok (.ifCond .ne 15, 3) := by decide +kernel
theorem dL_law_432 : decode cL_law 432 = .ok (.aload_n 3, 1) := by decide +kernel
theorem dL_law_433 : decode cL_law 433 = .ok (.iconst 0, 1) := by decide +kernel
theorem dL_law_434 : decode cL_law 434 = .ok (.laload, 1) := by decide +kernel
theorem dL_law_435 : decode cL_law 435 = .ok (.iload 6, 2) := by decide +kernel
theorem dL_law_437 : decode cL_law 437 = .ok (.i2l, 1) := by decide +kernel
theorem dL_law_438 : decode cL_law 438 = .ok (.lcmp, 1) := by decide +kernel
theorem dL_law_439 : decode cL_law 439 = .ok (.ifCond .eq 5, 3) := by decide +kernel
theorem dL_law_442 : decode cL_law 442 = .ok (.iconst 0, 1) := by decide +kernel
theorem dL_law_443 : decode cL_law 443 = .ok (.ireturn, 1) := by decide +kernel
theorem dL_law_444 : decode cL_law 444 = .ok (.goto 691, 3) := by decide +kernel
theorem dL_law_447 : decode cL_law 447 = .ok (.aload_n 1, 1) := by decide +kernel
theorem dL_law_448 : decode cL_law 448 = .ok (.aload_n 0, 1) := by decide +kernel
theorem dL_law_449 : decode cL_law 449 = .ok (.iload 4, 2) := by decide +kernel
theorem dL_law_451 : decode cL_law 451 = .ok (.iconst 1, 1) := by decide +kernel
theorem dL_law_452 : decode cL_law 452 = .ok (.iadd, 1) := by decide +kernel
theorem dL_law_453 : decode cL_law 453 = .ok (.iaload, 1) := by decide +kernel
theorem dL_law_454 : decode cL_law 454 = .ok (.aload_n 3, 1) := by decide +kernel
theorem dL_law_455 : decode cL_law 455 = .ok (.invokestatic 89, 3) := by decide +kernel
theorem dL_law_458 : decode cL_law 458 = .ok (.istore 5, 2) := by decide +kernel
theorem dL_law_460 : decode cL_law 460 = .ok (.aload_n 2, 1) := by decide +kernel
theorem dL_law_461 : decode cL_law 461 = .ok (.aload_n 0, 1) := by decide +kernel
theorem dL_law_462 : decode cL_law 462 = .ok (.iload 4, 2) := by decide +kernel
theorem dL_law_464 : decode cL_law 464 = .ok (.iconst 1, 1) := by decide +kernel
theorem dL_law_465 : decode cL_law 465 = .ok (.iadd, 1) := by decide +kernel
theorem dL_law_466 : decode cL_law 466 = .ok (.iaload, 1) := by decide +kernel
theorem dL_law_467 : decode cL_law 467 = .ok (.invokevirtual 91, 3) := by decide +kernel
theorem dL_law_470 : decode cL_law 470 = .ok (.istore 6, 2) := by decide +kernel
theorem dL_law_472 : decode cL_law 472 = .ok (.aload_n 2, 1) := by decide +kernel
theorem dL_law_473 : decode cL_law 473 = .ok (.invokevirtual 72, 3) := by decide +kernel
theorem dL_law_476 : decode cL_law 476 = .ok (.iload 5, 2) := by decide +kernel
theorem dL_law_478 : decode cL_law 478 = .ok (.if_icmp .eq 5, 3) := by decide +kernel
theorem dL_law_481 : decode cL_law 481 = .ok (.iconst 0, 1) := by decide +kernel
theorem dL_law_482 : decode cL_law 482 = .ok (.ireturn, 1) := by decide +kernel
theorem dL_law_483 : decode cL_law 483 = .ok (.iload 5, 2) := by decide +kernel
theorem dL_law_485 : decode cL_law 485 = .ok (.ifCond .ne 15, 3) := by decide +kernel
theorem dL_law_488 : decode cL_law 488 = .ok (.aload_n 3, 1) := by decide +kernel
theorem dL_law_489 : decode cL_law 489 = .ok (.iconst 0, 1) := by decide +kernel
theorem dL_law_490 : decode cL_law 490 = .ok (.laload, 1) := by decide +kernel
theorem dL_law_491 : decode cL_law 491 = .ok (.iload 6, 2) := by decide +kernel
theorem dL_law_493 : decode cL_law 493 = .ok (.i2l, 1) := by decide +kernel
theorem dL_law_494 : decode cL_law 494 = .ok (.lcmp, 1) := by decide +kernel
theorem dL_law_495 : decode cL_law 495 = .ok (.ifCond .eq 5, 3) := by decide +kernel
theorem dL_law_498 : decode cL_law 498 = .ok (.iconst 0, 1) := by decide +kernel
theorem dL_law_499 : decode cL_law 499 = .ok (.ireturn, 1) := by decide +kernel
theorem dL_law_500 : decode cL_law 500 = .ok (.goto 635, 3) := by decide +kernel
theorem dL_law_503 : decode cL_law 503 = .ok (.aload_n 1, 1) := by decide +kernel
theorem dL_law_504 : decode cL_law 504 = .ok (.aload_n 0, 1) := by decide +kernel
theorem dL_law_505 : decode cL_law 505 = .ok (.iload 4, 2) := by decide +kernel
theorem dL_law_507 : decode cL_law 507 = .ok (.iconst 1, 1) := by decide +kernel
theorem dL_law_508 : decode cL_law 508 = .ok (.iadd, 1) := by decide +kernel
theorem dL_law_509 : decode cL_law 509 = .ok (.iaload, 1) := by decide +kernel
theorem dL_law_510 : decode cL_law 510 = .ok (.aload_n 0, 1) := by decide +kernel
theorem dL_law_511 : decode cL_law 511 = .ok (.iload 4, 2) := by decide +kernel
theorem dL_law_513 : decode cL_law 513 = .ok (.iconst 2, 1) := by decide +kernel
theorem dL_law_514 : decode cL_law 514 = .ok (.iadd, 1) := by decide +kernel
theorem dL_law_515 : decode cL_law 515 = .ok (.iaload, 1) := by decide +kernel
theorem dL_law_516 : decode cL_law 516 = .ok (.aload_n 3, 1) := by decide +kernel
theorem dL_law_517 : decode cL_law 517 = .ok (.invokestatic 92, 3) := by decide +kernel
theorem dL_law_520 : decode cL_law 520 = .ok (.istore 5, 2) := by decide +kernel
theorem dL_law_522 : decode cL_law 522 = .ok (.aload_n 2, 1) := by decide +kernel
theorem dL_law_523 : decode cL_law 523 = .ok (.aload_n 0, 1) := by decide +kernel
theorem dL_law_524 : decode cL_law 524 = .ok (.iload 4, 2) := by decide +kernel
theorem dL_law_526 : decode cL_law 526 = .ok (.iconst 1, 1) := by decide +kernel
theorem dL_law_527 : decode cL_law 527 = .ok (.iadd, 1) := by decide +kernel
theorem dL_law_528 : decode cL_law 528 = .ok (.iaload, 1) := by decide +kernel
theorem dL_law_529 : decode cL_law 529 = .ok (.aload_n 0, 1) := by decide +kernel
theorem dL_law_530 : decode cL_law 530 = .ok (.iload 4, 2) := by decide +kernel
theorem dL_law_532 : decode cL_law 532 = .ok (.iconst 2, 1) := by decide +kernel
theorem dL_law_533 : decode cL_law 533 = .ok (.iadd, 1) := by decide +kernel
theorem dL_law_534 : decode cL_law 534 = .ok (.iaload, 1) := by decide +kernel
theorem dL_law_535 : decode cL_law 535 = .ok (.invokevirtual 94, 3) := by decide +kernel
theorem dL_law_538 : decode cL_law 538 = .ok (.istore 6, 2) := by decide +kernel
theorem dL_law_540 : decode cL_law 540 = .ok (.aload_n 2, 1) := by decide +kernel
theorem dL_law_541 : decode cL_law 541 = .ok (.invokevirtual 72, 3) := by decide +kernel
theorem dL_law_544 : decode cL_law 544 = .ok (.iload 5, 2) := by decide +kernel
theorem dL_law_546 : decode cL_law 546 = .ok (.if_icmp .eq 5, 3) := by decide +kernel
theorem dL_law_549 : decode cL_law 549 = .ok (.iconst 0, 1) := by decide +kernel
theorem dL_law_550 : decode cL_law 550 = .ok (.ireturn, 1) := by decide +kernel
theorem dL_law_551 : decode cL_law 551 = .ok (.iload 5, 2) := by decide +kernel
theorem dL_law_553 : decode cL_law 553 = .ok (.ifCond .ne 15, 3) := by decide +kernel
theorem dL_law_556 : decode cL_law 556 = .ok (.aload_n 3, 1) := by decide +kernel
theorem dL_law_557 : decode cL_law 557 = .ok (.iconst 0, 1) := by decide +kernel
theorem dL_law_558 : decode cL_law 558 = .ok (.laload, 1) := by decide +kernel
theorem dL_law_559 : decode cL_law 559 = .ok (.iload 6, 2) := by decide +kernel
theorem dL_law_561 : decode cL_law 561 = .ok (.i2l, 1) := by decide +kernel
theorem dL_law_562 : decode cL_law 562 = .ok (.lcmp, 1) := by decide +kernel
theorem dL_law_563 : decode cL_law 563 = .ok (.ifCond .eq 5, 3) := by decide +kernel
theorem dL_law_566 : decode cL_law 566 = .ok (.iconst 0, 1) := by decide +kernel
theorem dL_law_567 : decode cL_law 567 = .ok (.ireturn, 1) := by decide +kernel
theorem dL_law_568 : decode cL_law 568 = .ok (.goto 567, 3) := by decide +kernel
theorem dL_law_571 : decode cL_law 571 = .ok (.aload_n 1, 1) := by decide +kernel
theorem dL_law_572 : decode cL_law 572 = .ok (.aload_n 0, 1) := by decide +kernel
theorem dL_law_573 : decode cL_law 573 = .ok (.iload 4, 2) := by decide +kernel
theorem dL_law_575 : decode cL_law 575 = .ok (.iconst 1, 1) := by decide +kernel
theorem dL_law_576 : decode cL_law 576 = .ok (.iadd, 1) := by decide +kernel
theorem dL_law_577 : decode cL_law 577 = .ok (.iaload, 1) := by decide +kernel
theorem dL_law_578 : decode cL_law 578 = .ok (.aload_n 0, 1) := by decide +kernel
theorem dL_law_579 : decode cL_law 579 = .ok (.iload 4, 2) := by decide +kernel
theorem dL_law_581 : decode cL_law 581 = .ok (.iconst 2, 1) := by decide +kernel
theorem dL_law_582 : decode cL_law 582 = .ok (.iadd, 1) := by decide +kernel
theorem dL_law_583 : decode cL_law 583 = .ok (.iaload, 1) := by decide +kernel
theorem dL_law_584 : decode cL_law 584 = .ok (.aload_n 0, 1) := by decide +kernel
theorem dL_law_585 : decode cL_law 585 = .ok (.iload 4, 2) := by decide +kernel
theorem dL_law_587 : decode cL_law 587 = .ok (.iconst 3, 1) := by decide +kernel
theorem dL_law_588 : decode cL_law 588 = .ok (.iadd, 1) := by decide +kernel
theorem dL_law_589 : decode cL_law 589 = .ok (.iaload, 1) := by decide +kernel
theorem dL_law_590 : decode cL_law 590 = .ok (.aload_n 3, 1) := by decide +kernel
theorem dL_law_591 : decode cL_law 591 = .ok (.invokestatic 95, 3) := by decide +kernel
theorem dL_law_594 : decode cL_law 594 = .ok (.istore 5, 2) := by decide +kernel
theorem dL_law_596 : decode cL_law 596 = .ok (.aload_n 2, 1) := by decide +kernel
theorem dL_law_597 : decode cL_law 597 = .ok (.aload_n 0, 1) := by decide +kernel
theorem dL_law_598 : decode cL_law 598 = .ok (.iload 4, 2) := by decide +kernel
theorem dL_law_600 : decode cL_law 600 = .ok (.iconst 1, 1) := by decide +kernel
theorem dL_law_601 : decode cL_law 601 = .ok (.iadd, 1) := by decide +kernel
theorem dL_law_602 : decode cL_law 602 = .ok (.iaload, 1) := by decide +kernel
theorem dL_law_603 : decode cL_law 603 = .ok (.aload_n 0, 1) := by decide +kernel
theorem dL_law_604 : decode cL_law 604 = .ok (.iload 4, 2) := by decide +kernel
theorem dL_law_606 : decode cL_law 606 = .ok (.iconst 2, 1) := by decide +kernel
theorem dL_law_607 : decode cL_law 607 = .ok (.iadd, 1) := by decide +kernel
theorem dL_law_608 : decode cL_law 608 = .ok (.iaload, 1) := by decide +kernel
theorem dL_law_609 : decode cL_law 609 = .ok (.aload_n 0, 1) := by decide +kernel
theorem dL_law_610 : decode cL_law 610 = .ok (.iload 4, 2) := by decide +kernel
theorem dL_law_612 : decode cL_law 612 = .ok (.iconst 3, 1) := by decide +kernel
theorem dL_law_613 : decode cL_law 613 = .ok (.iadd, 1) := by decide +kernel
theorem dL_law_614 : decode cL_law 614 = .ok (.iaload, 1) := by decide +kernel
theorem dL_law_615 : decode cL_law 615 = .ok (.invokevirtual 98, 3) := by decide +kernel
theorem dL_law_618 : decode cL_law 618 = .ok (.istore 6, 2) := by decide +kernel
theorem dL_law_620 : decode cL_law 620 = .ok (.aload_n 2, 1) := by decide +kernel
theorem dL_law_621 : decode cL_law 621 = .ok (.invokevirtual 72, 3) := by decide +kernel
theorem dL_law_624 : decode cL_law 624 = .ok (.iload 5, 2) := by decide +kernel
theorem dL_law_626 : decode cL_law 626 = .ok (.if_icmp .eq 5, 3) := by decide +kernel
theorem dL_law_629 : decode cL_law 629 = .ok (.iconst 0, 1) := by decide +kernel
theorem dL_law_630 : decode cL_law 630 = .ok (.ireturn, 1) := by decide +kernel
theorem dL_law_631 : decode cL_law 631 = .ok (.iload 5, 2) := by decide +kernel
theorem dL_law_633 : decode cL_law 633 = .ok (.ifCond .ne 15, 3) := by decide +kernel
theorem dL_law_636 : decode cL_law 636 = .ok (.aload_n 3, 1) := by decide +kernel
theorem dL_law_637 : decode cL_law 637 = .ok (.iconst 0, 1) := by decide +kernel
theorem dL_law_638 : decode cL_law 638 = .ok (.laload, 1) := by decide +kernel
theorem dL_law_639 : decode cL_law 639 = .ok (.iload 6, 2) := by decide +kernel
theorem dL_law_641 : decode cL_law 641 = .ok (.i2l, 1) := by decide +kernel
theorem dL_law_642 : decode cL_law 642 = .ok (.lcmp, 1) := by decide +kernel
theorem dL_law_643 : decode cL_law 643 = .ok (.ifCond .eq 5, 3) := by decide +kernel
theorem dL_law_646 : decode cL_law 646 = .ok (.iconst 0, 1) := by decide +kernel
theorem dL_law_647 : decode cL_law 647 = .ok (.ireturn, 1) := by decide +kernel
theorem dL_law_648 : decode cL_law 648 = .ok (.goto 487, 3) := by decide +kernel
theorem dL_law_651 : decode cL_law 651 = .ok (.aload_n 1, 1) := by decide +kernel
theorem dL_law_652 : decode cL_law 652 = .ok (.aload_n 0, 1) := by decide +kernel
theorem dL_law_653 : decode cL_law 653 = .ok (.iload 4, 2) := by decide +kernel
theorem dL_law_655 : decode cL_law 655 = .ok (.iconst 1, 1) := by decide +kernel
theorem dL_law_656 : decode cL_law 656 = .ok (.iadd, 1) := by decide +kernel
theorem dL_law_657 : decode cL_law 657 = .ok (.iaload, 1) := by decide +kernel
theorem dL_law_658 : decode cL_law 658 = .ok (.aload_n 0, 1) := by decide +kernel
theorem dL_law_659 : decode cL_law 659 = .ok (.iload 4, 2) := by decide +kernel
theorem dL_law_661 : decode cL_law 661 = .ok (.iconst 2, 1) := by decide +kernel
theorem dL_law_662 : decode cL_law 662 = .ok (.iadd, 1) := by decide +kernel
theorem dL_law_663 : decode cL_law 663 = .ok (.iaload, 1) := by decide +kernel
theorem dL_law_664 : decode cL_law 664 = .ok (.aload_n 3, 1) := by decide +kernel
theorem dL_law_665 : decode cL_law 665 = .ok (.invokestatic 99, 3) := by decide +kernel
theorem dL_law_668 : decode cL_law 668 = .ok (.istore 5, 2) := by decide +kernel
theorem dL_law_670 : decode cL_law 670 = .ok (.aload_n 2, 1) := by decide +kernel
theorem dL_law_671 : decode cL_law 671 = .ok (.aload_n 0, 1) := by decide +kernel
theorem dL_law_672 : decode cL_law 672 = .ok (.iload 4, 2) := by decide +kernel
theorem dL_law_674 : decode cL_law 674 = .ok (.iconst 1, 1) := by decide +kernel
theorem dL_law_675 : decode cL_law 675 = .ok (.iadd, 1) := by decide +kernel
theorem dL_law_676 : decode cL_law 676 = .ok (.iaload, 1) := by decide +kernel
theorem dL_law_677 : decode cL_law 677 = .ok (.aload_n 0, 1) := by decide +kernel
theorem dL_law_678 : decode cL_law 678 = .ok (.iload 4, 2) := by decide +kernel
theorem dL_law_680 : decode cL_law 680 = .ok (.iconst 2, 1) := by decide +kernel
theorem dL_law_681 : decode cL_law 681 = .ok (.iadd, 1) := by decide +kernel
theorem dL_law_682 : decode cL_law 682 = .ok (.iaload, 1) := by decide +kernel
theorem dL_law_683 : decode cL_law 683 = .ok (.invokevirtual 101, 3) := by decide +kernel
theorem dL_law_686 : decode cL_law 686 = .ok (.istore 6, 2) := by decide +kernel
theorem dL_law_688 : decode cL_law 688 = .ok (.aload_n 2, 1) := by decide +kernel
theorem dL_law_689 : decode cL_law 689 = .ok (.invokevirtual 72, 3) := by decide +kernel
theorem dL_law_692 : decode cL_law 692 = .ok (.iload 5, 2) := by decide +kernel
theorem dL_law_694 : decode cL_law 694 = .ok (.if_icmp .eq 5, 3) := by decide +kernel
theorem dL_law_697 : decode cL_law 697 = .ok (.iconst 0, 1) := by decide +kernel
theorem dL_law_698 : decode cL_law 698 = .ok (.ireturn, 1) := by decide +kernel
theorem dL_law_699 : decode cL_law 699 = .ok (.iload 5, 2) := by decide +kernel
theorem dL_law_701 : decode cL_law 701 = .ok (.ifCond .ne 15, 3) := by decide +kernel
theorem dL_law_704 : decode cL_law 704 = .ok (.aload_n 3, 1) := by decide +kernel
theorem dL_law_705 : decode cL_law 705 = .ok (.iconst 0, 1) := by decide +kernel
theorem dL_law_706 : decode cL_law 706 = .ok (.laload, 1) := by decide +kernel
theorem dL_law_707 : decode cL_law 707 = .ok (.iload 6, 2) := by decide +kernel
theorem dL_law_709 : decode cL_law 709 = .ok (.i2l, 1) := by decide +kernel
theorem dL_law_710 : decode cL_law 710 = .ok (.lcmp, 1) := by decide +kernel
theorem dL_law_711 : decode cL_law 711 = .ok (.ifCond .eq 5, 3) := by decide +kernel
theorem dL_law_714 : decode cL_law 714 = .ok (.iconst 0, 1) := by decide +kernel
theorem dL_law_715 : decode cL_law 715 = .ok (.ireturn, 1) := by decide +kernel
theorem dL_law_716 : decode cL_law 716 = .ok (.goto 419, 3) := by decide +kernel
theorem dL_law_719 : decode cL_law 719 = .ok (.aload_n 1, 1) := by decide +kernel
theorem dL_law_720 : decode cL_law 720 = .ok (.aload_n 0, 1) := by decide +kernel
theorem dL_law_721 : decode cL_law 721 = .ok (.iload 4, 2) := by decide +kernel
theorem dL_law_723 : decode cL_law 723 = .ok (.iconst 1, 1) := by decide +kernel
theorem dL_law_724 : decode cL_law 724 = .ok (.iadd, 1) := by decide +kernel
theorem dL_law_725 : decode cL_law 725 = .ok (.iaload, 1) := by decide +kernel
theorem dL_law_726 : decode cL_law 726 = .ok (.aload_n 0, 1) := by decide +kernel
theorem dL_law_727 : decode cL_law 727 = .ok (.iload 4, 2) := by decide +kernel
theorem dL_law_729 : decode cL_law 729 = .ok (.iconst 2, 1) := by decide +kernel
theorem dL_law_730 : decode cL_law 730 = .ok (.iadd, 1) := by decide +kernel
theorem dL_law_731 : decode cL_law 731 = .ok (.iaload, 1) := by decide +kernel
theorem dL_law_732 : decode cL_law 732 = .ok (.aload_n 3, 1) := by decide +kernel
theorem dL_law_733 : decode cL_law 733 = .ok (.invokestatic 102, 3) := by decide +kernel
theorem dL_law_736 : decode cL_law 736 = .ok (.istore 5, 2) := by decide +kernel
theorem dL_law_738 : decode cL_law 738 = .ok (.aload_n 2, 1) := by decide +kernel
theorem dL_law_739 : decode cL_law 739 = .ok (.aload_n 0, 1) := by decide +kernel
theorem dL_law_740 : decode cL_law 740 = .ok (.iload 4, 2) := by decide +kernel
theorem dL_law_742 : decode cL_law 742 = .ok (.iconst 1, 1) := by decide +kernel
theorem dL_law_743 : decode cL_law 743 = .ok (.iadd, 1) := by decide +kernel
theorem dL_law_744 : decode cL_law 744 = .ok (.iaload, 1) := by decide +kernel
theorem dL_law_745 : decode cL_law 745 = .ok (.aload_n 0, 1) := by decide +kernel
theorem dL_law_746 : decode cL_law 746 = .ok (.iload 4, 2) := by decide +kernel
theorem dL_law_748 : decode cL_law 748 = .ok (.iconst 2, 1) := by decide +kernel
theorem dL_law_749 : decode cL_law 749 = .ok (.iadd, 1) := by decide +kernel
theorem dL_law_750 : decode cL_law 750 = .ok (.iaload, 1) := by decide +kernel
theorem dL_law_751 : decode cL_law 751 = .ok (.invokevirtual 104, 3) := by decide +kernel
theorem dL_law_754 : decode cL_law 754 = .ok (.istore 6, 2) := by decide +kernel
theorem dL_law_756 : decode cL_law 756 = .ok (.aload_n 2, 1) := by decide +kernel
theorem dL_law_757 : decode cL_law 757 = .ok (.invokevirtual 72, 3) := by decide +kernel
theorem dL_law_760 : decode cL_law 760 = .ok (.iload 5, 2) := by decide +kernel
theorem dL_law_762 : decode cL_law 762 = .ok (.if_icmp .eq 5, 3) := by decide +kernel
theorem dL_law_765 : decode cL_law 765 = .ok (.iconst 0, 1) := by decide +kernel
theorem dL_law_766 : decode cL_law 766 = .ok (.ireturn, 1) := by decide +kernel
theorem dL_law_767 : decode cL_law 767 = .ok (.iload 5, 2) := by decide +kernel
theorem dL_law_769 : decode cL_law 769 = .ok (.ifCond .ne 22, 3) := by decide +kernel
theorem dL_law_772 : decode cL_law 772 = .ok (.aload_n 3, 1) := by decide +kernel
theorem dL_law_773 : decode cL_law 773 = .ok (.iconst 0, 1) := by decide +kernel
theorem dL_law_774 : decode cL_law 774 = .ok (.laload, 1) := by decide +kernel
theorem dL_law_775 : decode cL_law 775 = .ok (.iload 6, 2) := by decide +kernel
theorem dL_law_777 : decode cL_law 777 = .ok (.ifCond .eq 7, 3) := by decide +kernel
theorem dL_law_780 : decode cL_law 780 = .ok (.lconst 1, 1) := by decide +kernel
theorem dL_law_781 : decode cL_law 781 = .ok (.goto 4, 3) := by decide +kernel
theorem dL_law_784 : decode cL_law 784 = .ok (.lconst 0, 1) := by decide +kernel
theorem dL_law_785 : decode cL_law 785 = .ok (.lcmp, 1) := by decide +kernel
theorem dL_law_786 : decode cL_law 786 = .ok (.ifCond .eq 5, 3) := by decide +kernel
theorem dL_law_789 : decode cL_law 789 = .ok (.iconst 0, 1) := by decide +kernel
theorem dL_law_790 : decode cL_law 790 = .ok (.ireturn, 1) := by decide +kernel
theorem dL_law_791 : decode cL_law 791 = .ok (.goto 344, 3) := by decide +kernel
theorem dL_law_794 : decode cL_law 794 = .ok (.aload_n 1, 1) := by decide +kernel
theorem dL_law_795 : decode cL_law 795 = .ok (.invokevirtual 105, 3) := by decide +kernel
theorem dL_law_798 : decode cL_law 798 = .ok (.aload_n 2, 1) := by decide +kernel
theorem dL_law_799 : decode cL_law 799 = .ok (.invokevirtual 108, 3) := by decide +kernel
theorem dL_law_802 : decode cL_law 802 = .ok (.if_icmp .eq 333, 3) := by decide +kernel
theorem dL_law_805 : decode cL_law 805 = .ok (.iconst 0, 1) := by decide +kernel
theorem dL_law_806 : decode cL_law 806 = .ok (.ireturn, 1) := by decide +kernel
theorem dL_law_807 : decode cL_law 807 = .ok (.aload_n 1, 1) := by decide +kernel
theorem dL_law_808 : decode cL_law 808 = .ok (.aload_n 0, 1) := by decide +kernel
theorem dL_law_809 : decode cL_law 809 = .ok (.iload 4, 2) := by decide +kernel
theorem dL_law_811 : decode cL_law 811 = .ok (.iconst 1, 1) := by decide +kernel
theorem dL_law_812 : decode cL_law 812 = .ok (.iadd, 1) := by decide +kernel
theorem dL_law_813 : decode cL_law 813 = .ok (.iaload, 1) := by decide +kernel
theorem dL_law_814 : decode cL_law 814 = .ok (.aload_n 3, 1) := by decide +kernel
theorem dL_law_815 : decode cL_law 815 = .ok (.invokestatic 109, 3) := by decide +kernel
theorem dL_law_818 : decode cL_law 818 = .ok (.istore 5, 2) := by decide +kernel
theorem dL_law_820 : decode cL_law 820 = .ok (.aload_n 2, 1) := by decide +kernel
theorem dL_law_821 : decode cL_law 821 = .ok (.aload_n 0, 1) := by decide +kernel
theorem dL_law_822 : decode cL_law 822 = .ok (.iload 4, 2) := by decide +kernel
theorem dL_law_824 : decode cL_law 824 = .ok (.iconst 1, 1) := by decide +kernel
theorem dL_law_825 : decode cL_law 825 = .ok (.iadd, 1) := by decide +kernel
theorem dL_law_826 : decode cL_law 826 = .ok (.iaload, 1) := by decide +kernel
theorem dL_law_827 : decode cL_law 827 = .ok (.invokevirtual 111, 3) := by decide +kernel
theorem dL_law_830 : decode cL_law 830 = .ok (.istore 6, 2) := by decide +kernel
theorem dL_law_832 : decode cL_law 832 = .ok (.aload_n 2, 1) := by decide +kernel
theorem dL_law_833 : decode cL_law 833 = .ok (.invokevirtual 72, 3) := by decide +kernel
theorem dL_law_836 : decode cL_law 836 = .ok (.iload 5, 2) := by decide +kernel
theorem dL_law_838 : decode cL_law 838 = .ok (.if_icmp .eq 5, 3) := by decide +kernel
theorem dL_law_841 : decode cL_law 841 = .ok (.iconst 0, 1) := by decide +kernel
theorem dL_law_842 : decode cL_law 842 = .ok (.ireturn, 1) := by decide +kernel
theorem dL_law_843 : decode cL_law 843 = .ok (.iload 5, 2) := by decide +kernel
theorem dL_law_845 : decode cL_law 845 = .ok (.ifCond .ne 15, 3) := by decide +kernel
theorem dL_law_848 : decode cL_law 848 = .ok (.aload_n 3, 1) := by decide +kernel
theorem dL_law_849 : decode cL_law 849 = .ok (.iconst 0, 1) := by decide +kernel
theorem dL_law_850 : decode cL_law 850 = .ok (.laload, 1) := by decide +kernel
theorem dL_law_851 : decode cL_law 851 = .ok (.iload 6, 2) := by decide +kernel
theorem dL_law_853 : decode cL_law 853 = .ok (.i2l, 1) := by decide +kernel
theorem dL_law_854 : decode cL_law 854 = .ok (.lcmp, 1) := by decide +kernel
theorem dL_law_855 : decode cL_law 855 = .ok (.ifCond .eq 5, 3) := by decide +kernel
theorem dL_law_858 : decode cL_law 858 = .ok (.iconst 0, 1) := by decide +kernel
theorem dL_law_859 : decode cL_law 859 = .ok (.ireturn, 1) := by decide +kernel
theorem dL_law_860 : decode cL_law 860 = .ok (.goto 275, 3) := by decide +kernel
theorem dL_law_863 : decode cL_law 863 = .ok (.aload_n 1, 1) := by decide +kernel
theorem dL_law_864 : decode cL_law 864 = .ok (.aload_n 0, 1) := by decide +kernel
theorem dL_law_865 : decode cL_law 865 = .ok (.iload 4, 2) := by decide +kernel
theorem dL_law_867 : decode cL_law 867 = .ok (.iconst 1, 1) := by decide +kernel
theorem dL_law_868 : decode cL_law 868 = .ok (.iadd, 1) := by decide +kernel
theorem dL_law_869 : decode cL_law 869 = .ok (.iaload, 1) := by decide +kernel
theorem dL_law_870 : decode cL_law 870 = .ok (.aload_n 0, 1) := by decide +kernel
theorem dL_law_871 : decode cL_law 871 = .ok (.iload 4, 2) := by decide +kernel
theorem dL_law_873 : decode cL_law 873 = .ok (.iconst 2, 1) := by decide +kernel
theorem dL_law_874 : decode cL_law 874 = .ok (.iadd, 1) := by decide +kernel
theorem dL_law_875 : decode cL_law 875 = .ok (.iaload, 1) := by decide +kernel
theorem dL_law_876 : decode cL_law 876 = .ok (.aload_n 3, 1) := by decide +kernel
theorem dL_law_877 : decode cL_law 877 = .ok (.invokestatic 112, 3) := by decide +kernel
theorem dL_law_880 : decode cL_law 880 = .ok (.istore 5, 2) := by decide +kernel
theorem dL_law_882 : decode cL_law 882 = .ok (.aload_n 2, 1) := by decide +kernel
theorem dL_law_883 : decode cL_law 883 = .ok (.aload_n 0, 1) := by decide +kernel
theorem dL_law_884 : decode cL_law 884 = .ok (.iload 4, 2) := by decide +kernel
theorem dL_law_886 : decode cL_law 886 = .ok (.iconst 1, 1) := by decide +kernel
theorem dL_law_887 : decode cL_law 887 = .ok (.iadd, 1) := by decide +kernel
theorem dL_law_888 : decode cL_law 888 = .ok (.iaload, 1) := by decide +kernel
theorem dL_law_889 : decode cL_law 889 = .ok (.aload_n 0, 1) := by decide +kernel
theorem dL_law_890 : decode cL_law 890 = .ok (.iload 4, 2) := by decide +kernel
theorem dL_law_892 : decode cL_law 892 = .ok (.iconst 2, 1) := by decide +kernel
theorem dL_law_893 : decode cL_law 893 = .ok (.iadd, 1) := by decide +kernel
theorem dL_law_894 : decode cL_law 894 = .ok (.iaload, 1) := by decide +kernel
theorem dL_law_895 : decode cL_law 895 = .ok (.invokevirtual 114, 3) := by decide +kernel
theorem dL_law_898 : decode cL_law 898 = .ok (.istore 6, 2) := by decide +kernel
theorem dL_law_900 : decode cL_law 900 = .ok (.aload_n 2, 1) := by decide +kernel
theorem dL_law_901 : decode cL_law 901 = .ok (.invokevirtual 72, 3) := by decide +kernel
theorem dL_law_904 : decode cL_law 904 = .ok (.iload 5, 2) := by decide +kernel
theorem dL_law_906 : decode cL_law 906 = .ok (.if_icmp .eq 5, 3) := by decide +kernel
theorem dL_law_909 : decode cL_law 909 = .ok (.iconst 0, 1) := by decide +kernel
theorem dL_law_910 : decode cL_law 910 = .ok (.ireturn, 1) := by decide +kernel
theorem dL_law_911 : decode cL_law 911 = .ok (.iload 5, 2) := by decide +kernel
theorem dL_law_913 : decode cL_law 913 = .ok (.ifCond .ne 15, 3) := by decide +kernel
theorem dL_law_916 : decode cL_law 916 = .ok (.aload_n 3, 1) := by decide +kernel
theorem dL_law_917 : decode cL_law 917 = .ok (.iconst 0, 1) := by decide +kernel
theorem dL_law_918 : decode cL_law 918 = .ok (.laload, 1) := by decide +kernel
theorem dL_law_919 : decode cL_law 919 = .ok (.iload 6, 2) := by decide +kernel
theorem dL_law_921 : decode cL_law 921 = .ok (.i2l, 1) := by decide +kernel
theorem dL_law_922 : decode cL_law 922 = .ok (.lcmp, 1) := by decide +kernel
theorem dL_law_923 : decode cL_law 923 = .ok (.ifCond .eq 5, 3) := by decide +kernel
theorem dL_law_926 : decode cL_law 926 = .ok (.iconst 0, 1) := by decide +kernel
theorem dL_law_927 : decode cL_law 927 = .ok (.ireturn, 1) := by decide +kernel
theorem dL_law_928 : decode cL_law 928 = .ok (.goto 207, 3) := by decide +kernel
theorem dL_law_931 : decode cL_law 931 = .ok (.aload_n 1, 1) := by decide +kernel
theorem dL_law_932 : decode cL_law 932 = .ok (.invokevirtual 115, 3) := by decide +kernel
theorem dL_law_935 : decode cL_law 935 = .ok (.aload_n 2, 1) := by decide +kernel
theorem dL_law_936 : decode cL_law 936 = .ok (.invokevirtual 118, 3) := by decide +kernel
theorem dL_law_939 : decode cL_law 939 = .ok (.if_icmp .eq 196, 3) := by decide +kernel
theorem dL_law_942 : decode cL_law 942 = .ok (.iconst 0, 1) := by decide +kernel
theorem dL_law_943 : decode cL_law 943 = .ok (.ireturn, 1) := by decide +kernel
theorem dL_law_944 : decode cL_law 944 = .ok (.aload_n 1, 1) := by decide +kernel
theorem dL_law_945 : decode cL_law 945 = .ok (.aload_n 0, 1) := by decide +kernel
theorem dL_law_946 : decode cL_law 946 = .ok (.iload 4, 2) := by decide +kernel
theorem dL_law_948 : decode cL_law 948 = .ok (.iconst 1, 1) := by decide +kernel
theorem dL_law_949 : decode cL_law 949 = .ok (.iadd, 1) := by decide +kernel
theorem dL_law_950 : decode cL_law 950 = .ok (.iaload, 1) := by decide +kernel
theorem dL_law_951 : decode cL_law 951 = .ok (.aload_n 0, 1) := by decide +kernel
theorem dL_law_952 : decode cL_law 952 = .ok (.iload 4, 2) := by decide +kernel
theorem dL_law_954 : decode cL_law 954 = .ok (.iconst 2, 1) := by decide +kernel
theorem dL_law_955 : decode cL_law 955 = .ok (.iadd, 1) := by decide +kernel
theorem dL_law_956 : decode cL_law 956 = .ok (.iaload, 1) := by decide +kernel
theorem dL_law_957 : decode cL_law 957 = .ok (.aload_n 3, 1) := by decide +kernel
theorem dL_law_958 : decode cL_law 958 = .ok (.invokestatic 119, 3) := by decide +kernel
theorem dL_law_961 : decode cL_law 961 = .ok (.istore 5, 2) := by decide +kernel
theorem dL_law_963 : decode cL_law 963 = .ok (.aload_n 2, 1) := by decide +kernel
theorem dL_law_964 : decode cL_law 964 = .ok (.aload_n 0, 1) := by decide +kernel
theorem dL_law_965 : decode cL_law 965 = .ok (.iload 4, 2) := by decide +kernel
theorem dL_law_967 : decode cL_law 967 = .ok (.iconst 1, 1) := by decide +kernel
theorem dL_law_968 : decode cL_law 968 = .ok (.iadd, 1) := by decide +kernel
theorem dL_law_969 : decode cL_law 969 = .ok (.iaload, 1) := by decide +kernel
theorem dL_law_970 : decode cL_law 970 = .ok (.aload_n 0, 1) := by decide +kernel
theorem dL_law_971 : decode cL_law 971 = .ok (.iload 4, 2) := by decide +kernel
theorem dL_law_973 : decode cL_law 973 = .ok (.iconst 2, 1) := by decide +kernel
theorem dL_law_974 : decode cL_law 974 = .ok (.iadd, 1) := by decide +kernel
theorem dL_law_975 : decode cL_law 975 = .ok (.iaload, 1) := by decide +kernel
theorem dL_law_976 : decode cL_law 976 = .ok (.invokevirtual 121, 3) := by decide +kernel
theorem dL_law_979 : decode cL_law 979 = .ok (.istore 6, 2) := by decide +kernel
theorem dL_law_981 : decode cL_law 981 = .ok (.aload_n 2, 1) := by decide +kernel
theorem dL_law_982 : decode cL_law 982 = .ok (.invokevirtual 72, 3) := by decide +kernel
theorem dL_law_985 : decode cL_law 985 = .ok (.iload 5, 2) := by decide +kernel
theorem dL_law_987 : decode cL_law 987 = .ok (.if_icmp .eq 5, 3) := by decide +kernel
theorem dL_law_990 : decode cL_law 990 = .ok (.iconst 0, 1) := by decide +kernel
theorem dL_law_991 : decode cL_law 991 = .ok (.ireturn, 1) := by decide +kernel
theorem dL_law_992 : decode cL_law 992 = .ok (.iload 5, 2) := by decide +kernel
theorem dL_law_994 : decode cL_law 994 = .ok (.ifCond .ne 15, 3) := by decide +kernel
theorem dL_law_997 : decode cL_law 997 = .ok (.aload_n 3, 1) := by decide +kernel
theorem dL_law_998 : decode cL_law 998 = .ok (.iconst 0, 1) := by decide +kernel
theorem dL_law_999 : decode cL_law 999 = .ok (.laload, 1) := by decide +kernel
theorem dL_law_1000 : decode cL_law 1000 = .ok (.iload 6, 2) := by decide +kernel
theorem dL_law_1002 : decode cL_law 1002 = .ok (.i2l, 1) := by decide +kernel
theorem dL_law_1003 : decode cL_law 1003 = .ok (.lcmp, 1) := by decide +kernel
theorem dL_law_1004 : decode cL_law 1004 = .ok (.ifCond .eq 5, 3) := by decide +kernel
theorem dL_law_1007 : decode cL_law 1007 = .ok (.iconst 0, 1) := by decide +kernel
theorem dL_law_1008 : decode cL_law 1008 = .ok (.ireturn, 1) := by decide +kernel
theorem dL_law_1009 : decode cL_law 1009 = .ok (.goto 126, 3) := by decide +kernel
theorem dL_law_1012 : decode cL_law 1012 = .ok (.aload_n 1, 1) := by decide +kernel
theorem dL_law_1013 : decode cL_law 1013 = .ok (.aload_n 0, 1) := by decide +kernel
theorem dL_law_1014 : decode cL_law 1014 = .ok (.iload 4, 2) := by decide +kernel
theorem dL_law_1016 : decode cL_law 1016 = .ok (.iconst 1, 1) := by decide +kernel
theorem dL_law_1017 : decode cL_law 1017 = .ok (.iadd, 1) := by decide +kernel
theorem dL_law_1018 : decode cL_law 1018 = .ok (.iaload, 1) := by decide +kernel
theorem dL_law_1019 : decode cL_law 1019 = .ok (.aload_n 0, 1) := by decide +kernel
theorem dL_law_1020 : decode cL_law 1020 = .ok (.iload 4, 2) := by decide +kernel
theorem dL_law_1022 : decode cL_law 1022 = .ok (.iconst 2, 1) := by decide +kernel
theorem dL_law_1023 : decode cL_law 1023 = .ok (.iadd, 1) := by decide +kernel
theorem dL_law_1024 : decode cL_law 1024 = .ok (.iaload, 1) := by decide +kernel
theorem dL_law_1025 : decode cL_law 1025 = .ok (.aload_n 3, 1) := by decide +kernel
theorem dL_law_1026 : decode cL_law 1026 = .ok (.invokestatic 122, 3) := by decide +kernel
theorem dL_law_1029 : decode cL_law 1029 = .ok (.istore 5, 2) := by decide +kernel
theorem dL_law_1031 : decode cL_law 1031 = .ok (.aload_n 2, 1) := by decide +kernel
theorem dL_law_1032 : decode cL_law 1032 = .ok (.aload_n 0, 1) := by decide +kernel
theorem dL_law_1033 : decode cL_law 1033 = .ok (.iload 4, 2) := by decide +kernel
theorem dL_law_1035 : decode cL_law 1035 = .ok (.iconst 1, 1) := by decide +kernel
theorem dL_law_1036 : decode cL_law 1036 = .ok (.iadd, 1) := by decide +kernel
theorem dL_law_1037 : decode cL_law 1037 = .ok (.iaload, 1) := by decide +kernel
theorem dL_law_1038 : decode cL_law 1038 = .ok (.aload_n 0, 1) := by decide +kernel
theorem dL_law_1039 : decode cL_law 1039 = .ok (.iload 4, 2) := by decide +kernel
theorem dL_law_1041 : decode cL_law 1041 = .ok (.iconst 2, 1) := by decide +kernel
theorem dL_law_1042 : decode cL_law 1042 = .ok (.iadd, 1) := by decide +kernel
theorem dL_law_1043 : decode cL_law 1043 = .ok (.iaload, 1) := by decide +kernel
theorem dL_law_1044 : decode cL_law 1044 = .ok (.invokevirtual 124, 3) := by decide +kernel
theorem dL_law_1047 : decode cL_law 1047 = .ok (.istore 6, 2) := by decide +kernel
theorem dL_law_1049 : decode cL_law 1049 = .ok (.aload_n 2, 1) := by decide +kernel
theorem dL_law_1050 : decode cL_law 1050 = .ok (.invokevirtual 72, 3) := by decide +kernel
theorem dL_law_1053 : decode cL_law 1053 = .ok (.iload 5, 2) := by decide +kernel
theorem dL_law_1055 : decode cL_law 1055 = .ok (.if_icmp .eq 5, 3) := by decide +kernel
theorem dL_law_1058 : decode cL_law 1058 = .ok (.iconst 0, 1) := by decide +kernel
theorem dL_law_1059 : decode cL_law 1059 = .ok (.ireturn, 1) := by decide +kernel
theorem dL_law_1060 : decode cL_law 1060 = .ok (.iload 5, 2) := by decide +kernel
theorem dL_law_1062 : decode cL_law 1062 = .ok (.ifCond .ne 15, 3) := by decide +kernel
theorem dL_law_1065 : decode cL_law 1065 = .ok (.aload_n 3, 1) := by decide +kernel
theorem dL_law_1066 : decode cL_law 1066 = .ok (.iconst 0, 1) := by decide +kernel
theorem dL_law_1067 : decode cL_law 1067 = .ok (.laload, 1) := by decide +kernel
theorem dL_law_1068 : decode cL_law 1068 = .ok (.iload 6, 2) := by decide +kernel
theorem dL_law_1070 : decode cL_law 1070 = .ok (.i2l, 1) := by decide +kernel
theorem dL_law_1071 : decode cL_law 1071 = .ok (.lcmp, 1) := by decide +kernel
theorem dL_law_1072 : decode cL_law 1072 = .ok (.ifCond .eq 5, 3) := by decide +kernel
theorem dL_law_1075 : decode cL_law 1075 = .ok (.iconst 0, 1) := by decide +kernel
theorem dL_law_1076 : decode cL_law 1076 = .ok (.ireturn, 1) := by decide +kernel
theorem dL_law_1077 : decode cL_law 1077 = .ok (.goto 58, 3) := by decide +kernel
theorem dL_law_1080 : decode cL_law 1080 = .ok (.aload_n 1, 1) := by decide +kernel
theorem dL_law_1081 : decode cL_law 1081 = .ok (.invokevirtual 125, 3) := by decide +kernel
theorem dL_law_1084 : decode cL_law 1084 = .ok (.dstore 5, 2) := by decide +kernel
theorem dL_law_1086 : decode cL_law 1086 = .ok (.aload_n 2, 1) := by decide +kernel
theorem dL_law_1087 : decode cL_law 1087 = .ok (.invokevirtual 129, 3) := by decide +kernel
theorem dL_law_1090 : decode cL_law 1090 = .ok (.dstore 7, 2) := by decide +kernel
theorem dL_law_1092 : decode cL_law 1092 = .ok (.dload 5, 2) := by decide +kernel
theorem dL_law_1094 : decode cL_law 1094 = .ok (.dload 7, 2) := by decide +kernel
theorem dL_law_1096 : decode cL_law 1096 = .ok (.dcmp .l, 1) := by decide +kernel
theorem dL_law_1097 : decode cL_law 1097 = .ok (.ifCond .eq 21, 3) := by decide +kernel
theorem dL_law_1100 : decode cL_law 1100 = .ok (.dload 5, 2) := by decide +kernel
theorem dL_law_1102 : decode cL_law 1102 = .ok (.dload 5, 2) := by decide +kernel
theorem dL_law_1104 : decode cL_law 1104 = .ok (.dcmp .l, 1) := by decide +kernel
theorem dL_law_1105 : decode cL_law 1105 = .ok (.ifCond .eq 11, 3) := by decide +kernel
theorem dL_law_1108 : decode cL_law 1108 = .ok (.dload 7, 2) := by decide +kernel
theorem dL_law_1110 : decode cL_law 1110 = .ok (.dload 7, 2) := by decide +kernel
theorem dL_law_1112 : decode cL_law 1112 = .ok (.dcmp .l, 1) := by decide +kernel
theorem dL_law_1113 : decode cL_law 1113 = .ok (.ifCond .ne 5, 3) := by decide +kernel
theorem dL_law_1116 : decode cL_law 1116 = .ok (.iconst 0, 1) := by decide +kernel
theorem dL_law_1117 : decode cL_law 1117 = .ok (.ireturn, 1) := by decide +kernel
theorem dL_law_1118 : decode cL_law 1118 = .ok (.goto 17, 3) := by decide +kernel
theorem dL_law_1121 : decode cL_law 1121 = .ok (.aload_n 1, 1) := by decide +kernel
theorem dL_law_1122 : decode cL_law 1122 = .ok (.invokevirtual 130, 3) := by decide +kernel
theorem dL_law_1125 : decode cL_law 1125 = .ok (.aload_n 2, 1) := by decide +kernel
theorem dL_law_1126 : decode cL_law 1126 = .ok (.invokevirtual 134, 3) := by decide +kernel
theorem dL_law_1129 : decode cL_law 1129 = .ok (.lcmp, 1) := by decide +kernel
theorem dL_law_1130 : decode cL_law 1130 = .ok (.ifCond .eq 5, 3) := by decide +kernel
theorem dL_law_1133 : decode cL_law 1133 = .ok (.iconst 0, 1) := by decide +kernel
theorem dL_law_1134 : decode cL_law 1134 = .ok (.ireturn, 1) := by decide +kernel
theorem dL_law_1135 : decode cL_law 1135 = .ok (.iinc 4 4, 3) := by decide +kernel
theorem dL_law_1138 : decode cL_law 1138 = .ok (.goto (-1115), 3) := by decide +kernel
theorem dL_law_1141 : decode cL_law 1141 = .ok (.iconst 1, 1) := by decide +kernel
theorem dL_law_1142 : decode cL_law 1142 = .ok (.ireturn, 1) := by decide +kernel
end
section
/-! more rows: calls whose answer is known, least and greatest, switches -/
theorem nar_0 : narrow .boolean (.int (nI 0)) = .int (nI 0) := by first | rfl | decide | simp [narrow]
theorem nar_1 : narrow .boolean (.int (nI 1)) = .int (nI 1) := by first | rfl | decide | simp [narrow]
theorem zb_nar (b : Bool) : narrow .boolean (.int (zb b)) = .int (zb b) := by cases b <;> first | exact nar_0 | exact nar_1
theorem vp_0 : vp_nar .boolean (nI 0) = nI 0 := by first | rfl | decide | simp [vp_nar, nar_0]
theorem vp_1 : vp_nar .boolean (nI 1) = nI 1 := by first | rfl | decide | simp [vp_nar, nar_1]
theorem nI_minE {a b : Nat} (ha : a < 2 ^ 31) (hb : b < 2 ^ 31) : (if nI b < nI a then nI b else nI a) = nI (min a b) := by
  by_cases h : b < a
  · rw [if_pos ((nI_ltI hb ha).mpr h), Nat.min_eq_right (Nat.le_of_lt h)]
  · rw [if_neg (fun q => h ((nI_ltI hb ha).mp q)), Nat.min_eq_left (Nat.le_of_not_lt h)]
theorem nI_maxE {a b : Nat} (ha : a < 2 ^ 31) (hb : b < 2 ^ 31) : (if nI a < nI b then nI b else nI a) = nI (max a b) := by
  by_cases h : a < b
  · rw [if_pos ((nI_ltI ha hb).mpr h), Nat.max_eq_right (Nat.le_of_lt h)]
  · rw [if_neg (fun q => h ((nI_ltI ha hb).mp q)), Nat.max_eq_left (Nat.le_of_not_lt h)]
abbrev zR (f w : Nat) : Room := { frames := f, cells := 0, slots := 0, locals := w }
abbrev tyL (cI cZ cJ : ClassId) : List (ClassId × FieldType) := [(cI, .int), (cZ, .boolean), (cJ, .long)]
/-- the cells of a fleet of the class, and of a state of the reference -/
def shF (a : Nat → Nat) (cI cZ : ClassId) : List (Nat × zS) := [(a 0, .inr (.inl (0, [none, none, none, none, none, some (a 1), some (a 2), some (a 3), some (a 4), some (a 5), some (a 6), some (a 7), some (a 12)]))), (a 1, .inl (cI, 7)), (a 2, .inl (cI, 7)), (a 3, .inl (cI, 7)), (a 4, .inl (cI, 7)), (a 5, .inl (cI, 7)), (a 6, .inl (cI, 7)), (a 7, .inl (cZ, 7)), (a 8, .inl (cI, 7)), (a 9, .inl (cI, 7)), (a 10, .inl (cI, 70)), (a 11, .inl (cI, 70)), (a 12, .inr (.inl (1, [some (a 8), some (a 9), some (a 10), some (a 11)])))]
def shS (a : Nat → Nat) (cI : ClassId) : List (Nat × zS) := [(a 0, .inr (.inl (3, [none, none, none, none, none, some (a 1), some (a 2), some (a 3), some (a 4), some (a 5), some (a 6), some (a 7), some (a 8), some (a 9), some (a 10), some (a 11)]))), (a 1, .inl (cI, 7)), (a 2, .inl (cI, 7)), (a 3, .inl (cI, 7)), (a 4, .inl (cI, 7)), (a 5, .inl (cI, 7)), (a 6, .inl (cI, 7)), (a 7, .inl (cI, 7)), (a 8, .inl (cI, 7)), (a 9, .inl (cI, 7)), (a 10, .inl (cI, 70)), (a 11, .inl (cI, 70))]
section ZROWS2
variable {p : Program} {l : Launch} {e : Env} {R : Room} {s : State} {m : MethodId} {args : Array Value} {below : List Frame} {meth : Method} {c : Code} {D : va_G} {tys : List (ClassId × FieldType)} {A : Nat → Prop} {own : String} {cc : ByteArray} {nL : Nat} {Q : State → Prop} {cells slots pc : Nat} {L L' : List (Nat × Value)} {st st' rest : List Value} {B B' : List zB}
theorem z_cV (C : zX p s m args meth c D tys A own cc nL) {y : MethodName} {bytes : ByteArray} {maxL n index : Nat} {ret : Option FieldType} {rm : Room} {r0 : Option Value} {u0 : List zB} {As : List Value} {Bc : List zB} {b : Nat} (msk : List Bool) (hBc : zPick msk B = Bc) (hM : zM l D tys y bytes maxL ret rm (.ref b :: As) Bc 0 0 (fun r u => r = r0 ∧ u = u0)) (hcal : zCal y bytes maxL ret n) (hlink : Cond.methodLink own index y ∈ lw_all) (hinst : Cond.instanceMethod y ∈ lw_all ∧ Cond.selects y.cls y y ∈ lw_all) (hR : rm.cells = 0 ∧ rm.slots = 0 ∧ rm.frames + 1 ≤ R.frames ∧ 8 + (maxL + 11) + rm.locals ≤ R.locals)
    (bi : Nat) {sh : List (Nat × zS)} {σ : zF} (hbi : B[bi]? = some (sh, σ)) (q : Nat) {fs : List (Option Nat)} {ci : Nat} {T : u_T} {N : Nat} (hq : sh[q]? = some (b, .inr (.inl (ci, fs)))) (hc : vwCl[ci]? = some (y.cls, T, N))
    (hst : st = As.reverse ++ .ref b :: rest) (hn : As.length = n) (hcat : (rest.map fun v => v.category).sum ≤ 8) (hdg : decode cc pc = .ok (.invokevirtual index, 3)) (hf : cells ≤ R.cells ∧ slots ≤ R.slots) (hst' : r0.toList ++ rest = st') (hB' : zPut msk B u0 = B')
    (kk : zK p l e R s m args below meth c D A nL Q cells slots (pc + 3) L st' B') : zK p l e R s m args below meth c D A nL Q cells slots pc L st B :=
  z_callV C msk hBc hM hcal hlink hinst hR bi hbi q hq hc hst hn hcat hdg hf (fun r u h => by
    obtain ⟨rfl, rfl⟩ := h
    subst hst'
    subst hB'
    exact kk)
theorem z_cS (C : zX p s m args meth c D tys A own cc nL) {y : MethodName} {bytes : ByteArray} {maxL n index : Nat} {ret : Option FieldType} {rm : Room} {r0 : Option Value} {u0 : List zB} {As : List Value} {Bc : List zB} (msk : List Bool) (hBc : zPick msk B = Bc) (hM : zM l D tys y bytes maxL ret rm As Bc 0 0 (fun r u => r = r0 ∧ u = u0)) (hcal : zCal y bytes maxL ret n) (hlink : Cond.methodLink own index y ∈ lw_all) (hstat : Cond.static y ∈ lw_all) (hR : rm.cells = 0 ∧ rm.slots = 0 ∧ rm.frames + 1 ≤ R.frames ∧ 8 + (maxL + 11) + rm.locals ≤ R.locals)
    (hst : st = As.reverse ++ rest) (hn : As.length = n) (hcat : (rest.map fun v => v.category).sum ≤ 8) (hdg : decode cc pc = .ok (.invokestatic index, 3)) (hf : cells ≤ R.cells ∧ slots ≤ R.slots) (hst' : r0.toList ++ rest = st') (hB' : zPut msk B u0 = B')
    (kk : zK p l e R s m args below meth c D A nL Q cells slots (pc + 3) L st' B') : zK p l e R s m args below meth c D A nL Q cells slots pc L st B :=
  z_callS C msk hBc hM hcal hlink hstat hR hst hn hcat hdg hf (fun r u h => by
    obtain ⟨rfl, rfl⟩ := h
    subst hst'
    subst hB'
    exact kk)
theorem z_mminN (C : zX p s m args meth c D tys A own cc nL) {index a b : Nat} (h1 : Cond.methodLink own index Lib.Math.min.name ∈ lw_all) (h2 : Cond.static Lib.Math.min.name ∈ lw_all) (h3 : Cond.initialized "java/lang/Math" ∈ lw_all) (h4 : Cond.code Lib.Math.min.name Lib.Math.min.code 2 (some .int) ∈ lw_all) (hR : 1 ≤ R.frames ∧ (st.map fun v => v.category).sum + 13 ≤ R.locals ∧ cells ≤ R.cells ∧ slots ≤ R.slots) (hdg : decode cc pc = .ok (.invokestatic index, 3)) (ha : a < 2 ^ 31) (hb : b < 2 ^ 31) (k : zK p l e R s m args below meth c D A nL Q cells slots (pc + 3) L (.int (nI (min a b)) :: st) B) : zK p l e R s m args below meth c D A nL Q cells slots pc L (.int (nI b) :: .int (nI a) :: st) B := z_mmin C h1 h2 h3 h4 hR hdg (z_top (nI_minE ha hb) k)
theorem z_mmaxN (C : zX p s m args meth c D tys A own cc nL) {index a b : Nat} (h1 : Cond.methodLink own index Lib.Math.max.name ∈ lw_all) (h2 : Cond.static Lib.Math.max.name ∈ lw_all) (h3 : Cond.initialized "java/lang/Math" ∈ lw_all) (h4 : Cond.code Lib.Math.max.name Lib.Math.max.code 2 (some .int) ∈ lw_all) (hR : 1 ≤ R.frames ∧ (st.map fun v => v.category).sum + 13 ≤ R.locals ∧ cells ≤ R.cells ∧ slots ≤ R.slots) (hdg : decode cc pc = .ok (.invokestatic index, 3)) (ha : a < 2 ^ 31) (hb : b < 2 ^ 31) (k : zK p l e R s m args below meth c D A nL Q cells slots (pc + 3) L (.int (nI (max a b)) :: st) B) : zK p l e R s m args below meth c D A nL Q cells slots pc L (.int (nI b) :: .int (nI a) :: st) B := z_mmax C h1 h2 h3 h4 hR hdg (z_top (nI_maxE ha hb) k)
theorem z_tabI (C : zX p s m args meth c D tys A own cc nL) {dflt lo hi : Int} {offs : Array Int} {len : Nat} {x : Int32} {off : Int} {tgt : Nat} (hdg : decode cc pc = .ok (.tableswitch dflt lo hi offs, len)) (h1 : ¬ x.toInt < lo) (h2 : ¬ hi < x.toInt) (ho : offs[(x.toInt - lo).toNat]? = some off) (ht : (pc : Int) + off = (tgt : Int)) (k : zK p l e R s m args below meth c D A nL Q cells slots tgt L st B) : zK p l e R s m args below meth c D A nL Q cells slots pc L (.int x :: st) B := fun H locs ls hP hD hS hl => lv_tableIn C.1 C.2.1 hdg h1 h2 ho ht (k H locs ls hP hD hS hl)
theorem z_tabO (C : zX p s m args meth c D tys A own cc nL) {dflt lo hi : Int} {offs : Array Int} {len : Nat} {x : Int32} {tgt : Nat} (hdg : decode cc pc = .ok (.tableswitch dflt lo hi offs, len)) (h : x.toInt < lo ∨ hi < x.toInt) (ht : (pc : Int) + dflt = (tgt : Int)) (k : zK p l e R s m args below meth c D A nL Q cells slots tgt L st B) : zK p l e R s m args below meth c D A nL Q cells slots pc L (.int x :: st) B := fun H locs ls hP hD hS hl => lv_tableOut C.1 C.2.1 hdg h ht (k H locs ls hP hD hS hl)
theorem z_look (C : zX p s m args meth c D tys A own cc nL) {dflt : Int} {ps : Array (Int × Int)} {len : Nat} {x : Int32} {off : Int} {tgt : Nat} (hdg : decode cc pc = .ok (.lookupswitch dflt ps, len)) (hp : (ps.toList.zip (ps.toList.drop 1)).all (fun (a, next) => a.1 < next.1) = true) (ho : Op.lookupswitch.offset ps.toList dflt x.toInt = off) (ht : (pc : Int) + off = (tgt : Int)) (k : zK p l e R s m args below meth c D A nL Q cells slots tgt L st B) : zK p l e R s m args below meth c D A nL Q cells slots pc L (.int x :: st) B := fun H locs ls hP hD hS hl => lv_lookup C.1 C.2.1 hdg hp ho ht (k H locs ls hP hD hS hl)
end ZROWS2
theorem ws_min : Cond.static Lib.Math.min.name ∈ lw_all := ws_yJ9_min_7cf53
theorem ws_max : Cond.static Lib.Math.max.name ∈ lw_all := ws_yJ9_max_7cf53
theorem wk_min : Cond.code Lib.Math.min.name Lib.Math.min.code 2 (some .int) ∈ lw_all := wk_yJ9_min_7cf53
theorem wk_max : Cond.code Lib.Math.max.name Lib.Math.max.code 2 (some .int) ∈ lw_all := wk_yJ9_max_7cf53
end
section
/-! What a fleet is: cells 0 the object (boats, hour, stood, begun, lost), 1 patience, 2 clock, 3 term, 4 vote, 5 role, 6 port, 7 up, 8 length, 9 known, 10 terms, 11 fishes; and what each method does to it. Both sides are tied to these functions. -/
def fl_ln (σ : zF) (i : Nat) : Nat := (σ 8 i).toNatClampNeg
def fl_kn (σ : zF) (i : Nat) : Nat := (σ 9 i).toNatClampNeg
def fl_Iv (n : Nat) (σ : zF) : Prop := σ 0 0 = nI n ∧ 3 ≤ n ∧ n ≤ 7 ∧ (∀ i, i < n → σ 8 i = nI (fl_ln σ i) ∧ fl_ln σ i ≤ 10) ∧ (∀ i, i < n → σ 9 i = nI (fl_kn σ i) ∧ fl_kn σ i ≤ 10) ∧ ∀ i, i < n → σ 7 i = 0 ∨ σ 7 i = nI 1
section FLIV
variable {n : Nat} {σ : zF}
theorem fl_Iv.n0 (h : fl_Iv n σ) : σ 0 0 = nI n := h.1
theorem fl_Iv.n3 (h : fl_Iv n σ) : 3 ≤ n := h.2.1
theorem fl_Iv.n7 (h : fl_Iv n σ) : n ≤ 7 := h.2.2.1
theorem fl_Iv.ln (h : fl_Iv n σ) {i : Nat} (hi : i < n) : σ 8 i = nI (fl_ln σ i) := (h.2.2.2.1 i hi).1
theorem fl_Iv.lnT (h : fl_Iv n σ) {i : Nat} (hi : i < n) : fl_ln σ i ≤ 10 := (h.2.2.2.1 i hi).2
theorem fl_Iv.kn (h : fl_Iv n σ) {i : Nat} (hi : i < n) : σ 9 i = nI (fl_kn σ i) := (h.2.2.2.2.1 i hi).1
theorem fl_Iv.knT (h : fl_Iv n σ) {i : Nat} (hi : i < n) : fl_kn σ i ≤ 10 := (h.2.2.2.2.1 i hi).2
theorem fl_Iv.up (h : fl_Iv n σ) {i : Nat} (hi : i < n) : σ 7 i = 0 ∨ σ 7 i = nI 1 := h.2.2.2.2.2 i hi
theorem fl_Iv.up1 (h : fl_Iv n σ) {i : Nat} (hi : i < n) : σ 7 i = nI 1 ↔ ¬ σ 7 i = 0 := by
  rcases h.up hi with e | e
  · rw [e]; decide
  · rw [e]; decide
theorem fl_Iv.U (h : fl_Iv n σ) (k i : Nat) (v : Int32) (h0 : k ≠ 0) (h7 : k ≠ 7) (h8 : k ≠ 8) (h9 : k ≠ 9) : fl_Iv n (zU σ k i v) := by
  obtain ⟨a, b, c, d, e, f⟩ := h
  have e0 : zU σ k i v 0 = σ 0 := zU_ne (Ne.symm h0)
  have e7 : zU σ k i v 7 = σ 7 := zU_ne (Ne.symm h7)
  have e8 : zU σ k i v 8 = σ 8 := zU_ne (Ne.symm h8)
  have e9 : zU σ k i v 9 = σ 9 := zU_ne (Ne.symm h9)
  refine ⟨by rw [e0]; exact a, b, c, fun j hj => ?_, fun j hj => ?_, fun j hj => ?_⟩
  · unfold fl_ln; rw [e8]; exact d j hj
  · unfold fl_kn; rw [e9]; exact e j hj
  · rw [e7]; exact f j hj
theorem fl_Iv.U0 (h : fl_Iv n σ) (j : Nat) (v : Int32) (hj : j ≠ 0) : fl_Iv n (zU σ 0 j v) := by
  obtain ⟨a, b, c, d, e, f⟩ := h
  refine ⟨?_, b, c, d, e, f⟩
  rw [zU_at, if_neg (fun q => hj q.2.symm)]
  exact a
theorem fl_ln_U8 (σ : zF) (i j m : Nat) (hm : m < 2 ^ 31) : fl_ln (zU σ 8 i (nI m)) j = if j = i then m else fl_ln σ j := by
  unfold fl_ln
  rw [zU_at]
  by_cases h : j = i
  · rw [if_pos ⟨rfl, h⟩, if_pos h, nI_clamp hm]
  · rw [if_neg (fun q => h q.2), if_neg h]
theorem fl_kn_U9 (σ : zF) (i j m : Nat) (hm : m < 2 ^ 31) : fl_kn (zU σ 9 i (nI m)) j = if j = i then m else fl_kn σ j := by
  unfold fl_kn
  rw [zU_at]
  by_cases h : j = i
  · rw [if_pos ⟨rfl, h⟩, if_pos h, nI_clamp hm]
  · rw [if_neg (fun q => h q.2), if_neg h]
theorem fl_Iv.U8 (h : fl_Iv n σ) (i m : Nat) (hm : m ≤ 10) : fl_Iv n (zU σ 8 i (nI m)) := by
  obtain ⟨a, b, c, d, e, f⟩ := h
  refine ⟨a, b, c, fun j hj => ?_, e, f⟩
  rw [fl_ln_U8 σ i j m (by omega), zU_at]
  by_cases q : j = i
  · rw [if_pos ⟨rfl, q⟩, if_pos q]; exact ⟨rfl, hm⟩
  · rw [if_neg (fun z => q z.2), if_neg q]; exact d j hj
theorem fl_Iv.U9 (h : fl_Iv n σ) (i m : Nat) (hm : m ≤ 10) : fl_Iv n (zU σ 9 i (nI m)) := by
  obtain ⟨a, b, c, d, e, f⟩ := h
  refine ⟨a, b, c, d, fun j hj => ?_, f⟩
  rw [fl_kn_U9 σ i j m (by omega), zU_at]
  by_cases q : j = i
  · rw [if_pos ⟨rfl, q⟩, if_pos q]; exact ⟨rfl, hm⟩
  · rw [if_neg (fun z => q z.2), if_neg q]; exact e j hj
theorem fl_Iv.U7 (h : fl_Iv n σ) (i : Nat) {v : Int32} (hv : v = 0 ∨ v = nI 1) : fl_Iv n (zU σ 7 i v) := by
  obtain ⟨a, b, c, d, e, f⟩ := h
  refine ⟨a, b, c, d, e, fun j hj => ?_⟩
  rw [zU_at]
  by_cases q : j = i
  · rw [if_pos ⟨rfl, q⟩]; exact hv
  · rw [if_neg (fun z => q z.2)]; exact f j hj
end FLIV
theorem zU_self (σ : zF) (k i : Nat) (v : Int32) : zU σ k i v k i = v := by rw [zU_at, if_pos ⟨rfl, rfl⟩]
theorem zU_oth (σ : zF) (k : Nat) {i j : Nat} (v : Int32) (h : j ≠ i) : zU σ k i v k j = σ k j := by rw [zU_at, if_neg (fun q => h q.2)]
/-- the last term of a log -/
def fl_last (σ : zF) (b : Nat) : Int32 := if fl_ln σ b = 0 then -1 else σ 10 (b * 10 + fl_ln σ b - 1)
/-- the log of x is as new as that of y, or newer -/
def fl_nw (σ : zF) (x y : Nat) : Bool := decide (fl_last σ y < fl_last σ x ∨ (fl_last σ x = fl_last σ y ∧ fl_ln σ y ≤ fl_ln σ x))
/-- how far two logs agree -/
def fl_agrL (σ : zF) (x y : Nat) : Nat → Nat → Nat
  | 0, k => k
  | f + 1, k => if σ 10 (x * 10 + k) = σ 10 (y * 10 + k) ∧ σ 11 (x * 10 + k) = σ 11 (y * 10 + k) then fl_agrL σ x y f (k + 1) else k
def fl_agr (σ : zF) (x y : Nat) : Nat := fl_agrL σ x y (min (fl_ln σ x) (fl_ln σ y)) 0
def fl_hear (σ : zF) (x y : Nat) : Bool := decide (¬ σ 7 x = 0 ∧ ¬ σ 7 y = 0 ∧ σ 6 x = σ 6 y)
def fl_take (σ : zF) (b : Nat) (g : Int32) : zF := zU (zU (zU σ 3 b g) 4 b (-1)) 5 b (nI 0)
def fl_hof (σ : zF) (b : Nat) (g : Int32) : zF := if g ≤ σ 3 b then σ else fl_take σ b g
def fl_meet (σ : zF) (x o : Nat) : zF := if σ 3 x < σ 3 o then fl_take σ x (σ 3 o) else fl_hof σ o (σ 3 x)
def fl_vok (σ : zF) (b o : Nat) : Bool := decide (σ 4 o = -1 ∨ σ 4 o = nI b) && fl_nw σ b o
def fl_votT (σ : zF) (b o : Nat) : zF := if fl_vok σ b o = true then zU (zU σ 4 o (nI b)) 2 o (σ 1 o) else σ
def fl_votS (σ : zF) (b o : Nat) : zF := if σ 3 b < σ 3 o then fl_take σ b (σ 3 o) else fl_votT (fl_hof σ o (σ 3 b)) b o
def fl_votB (σ : zF) (b o : Nat) : Bool := !decide (σ 3 b < σ 3 o) && fl_vok (fl_hof σ o (σ 3 b)) b o
/-- a boat asks all others: the votes, and what has become of the fleet -/
def fl_askL (b : Nat) : Nat → Nat → Nat → zF → Nat × zF
  | 0, _, v, σ => (v, σ)
  | f + 1, o, v, σ => if σ 5 b = nI 1 then (if o ≠ b ∧ fl_hear σ b o = true then fl_askL b f (o + 1) (if fl_votB σ b o = true then v + 1 else v) (fl_votS σ b o) else fl_askL b f (o + 1) v σ) else (v, σ)
def fl_ask (n b o v : Nat) (σ : zF) : Nat × zF := fl_askL b (n - o) o v σ
def fl_std0 (σ : zF) (b : Nat) : zF := zU (zU (zU (zU (zU σ 0 2 (σ 0 2 + nI 1)) 3 b (σ 3 b + nI 1)) 5 b (nI 1)) 4 b (nI b)) 2 b (σ 1 b)
def fl_stdE (n b : Nat) (r : Nat × zF) : zF := if r.2 5 b = nI 1 ∧ n / 2 < r.1 then zU (zU r.2 5 b (nI 2)) 0 3 (r.2 0 3 + nI 1) else r.2
def fl_stand (n : Nat) (σ : zF) (b : Nat) : zF := fl_stdE n b (fl_ask n b 0 1 (fl_std0 σ b))
def fl_app (σ : zF) (b : Nat) (x y : Int32) : zF := zU (zU (zU σ 10 (b * 10 + fl_ln σ b) x) 11 (b * 10 + fl_ln σ b) y) 8 b (nI (fl_ln σ b + 1))
def fl_cut (σ : zF) (t o : Nat) : Bool := decide (fl_agr σ t o < fl_ln σ o)
def fl_mend (σ : zF) (t o : Nat) : zF := if fl_agr σ t o < fl_ln σ o then zU σ 8 o (nI (fl_ln σ o - 1)) else if fl_agr σ t o < fl_ln σ t then fl_app σ o (σ 10 (t * 10 + fl_agr σ t o)) (σ 11 (t * 10 + fl_agr σ t o)) else σ
def fl_lrn (σ : zF) (t o : Nat) : zF := zU σ 9 o (nI (max (fl_kn σ o) (min (fl_kn σ t) (fl_agr σ t o))))
def fl_got (σ : zF) (o : Nat) : zF := zU (zU σ 5 o (nI 0)) 2 o (σ 1 o)
def fl_lose (σ : zF) (b : Bool) : zF := if b = true then zU σ 0 4 (σ 0 4 + nI 1) else σ
def fl_telT (σ : zF) (t o : Nat) : zF := fl_lrn (fl_lose (fl_mend (fl_got σ o) t o) (fl_cut (fl_got σ o) t o)) t o
def fl_tel (σ : zF) (t o : Nat) : zF := if σ 3 t < σ 3 o then fl_take σ t (σ 3 o) else fl_telT (fl_hof σ o (σ 3 t)) t o
def fl_telL (t : Nat) : Nat → Nat → zF → zF
  | 0, _, σ => σ
  | f + 1, o, σ => if σ 5 t = nI 2 then (if o ≠ t ∧ fl_hear σ t o = true then fl_telL t f (o + 1) (fl_tel σ t o) else fl_telL t f (o + 1) σ) else σ
def fl_tells (n t o : Nat) (σ : zF) : zF := fl_telL t (n - o) o σ
/-- how many of the first ones are so -/
def fl_ct (p : Nat → Bool) : Nat → Nat
  | 0 => 0
  | i + 1 => if p i = true then fl_ct p i + 1 else fl_ct p i
def fl_agrees (σ : zF) (b k o : Nat) : Bool := fl_hear σ b o && decide (k ≤ fl_agr σ b o)
def fl_cnt (n : Nat) (σ : zF) (b k : Nat) : Nat := fl_ct (fl_agrees σ b k) n
def fl_comL (n : Nat) (σ : zF) (b : Nat) : Nat → zF
  | 0 => σ
  | k + 1 => if fl_kn σ b < k + 1 then (if σ 10 (b * 10 + k) = σ 3 b ∧ n / 2 < fl_cnt n σ b (k + 1) then zU σ 9 b (nI (k + 1)) else fl_comL n σ b k) else σ
def fl_com (n : Nat) (σ : zF) (b : Nat) : zF := fl_comL n σ b (fl_ln σ b)
def fl_lead (σ : zF) (b : Nat) : Bool := decide (¬ σ 7 b = 0 ∧ σ 5 b = nI 2)
def fl_fold (f : zF → Nat → zF) : Nat → zF → zF
  | 0, σ => σ
  | i + 1, σ => f (fl_fold f i σ) i
def fl_clk1 (n : Nat) (σ : zF) (i : Nat) : zF := if ¬ σ 7 i = 0 ∧ ¬ σ 5 i = nI 2 then (if σ 2 i - nI 1 = 0 then fl_stand n (zU σ 2 i (σ 2 i - nI 1)) i else zU σ 2 i (σ 2 i - nI 1)) else σ
def fl_tls1 (n : Nat) (σ : zF) (i : Nat) : zF := if fl_lead σ i = true then fl_tells n i 0 σ else σ
def fl_coms1 (n : Nat) (σ : zF) (i : Nat) : zF := if fl_lead σ i = true then fl_com n σ i else σ
def fl_tick (σ : zF) : zF := zU σ 0 1 (σ 0 1 + nI 1)
def fl_hour (n : Nat) (σ : zF) : zF := fl_tick (fl_fold (fl_coms1 n) n (fl_fold (fl_tls1 n) n (fl_fold (fl_clk1 n) n σ)))
def fl_hours (n : Nat) : Nat → zF → zF
  | 0, σ => σ
  | h + 1, σ => fl_hour n (fl_hours n h σ)
def fl_upIn (n : Nat) (σ : zF) (h : Int32) : Nat := fl_ct (fun b => decide (¬ σ 7 b = 0 ∧ σ 6 b = h)) n
def fl_any (p : Nat → Bool) : Nat → Bool
  | 0 => false
  | i + 1 => fl_any p i || p i
def fl_led1 (n : Nat) (σ : zF) (b : Nat) : Bool := fl_lead σ b && decide (n / 2 < fl_upIn n σ (σ 6 b))
def fl_led (n : Nat) (σ : zF) : Bool := fl_any (fl_led1 n σ) n
def fl_oI (r : Option Nat) : Int32 := match r with
  | none => -1
  | some j => nI j
def fl_nwst (σ : zF) (h : Int32) : Nat → Option Nat
  | 0 => none
  | i + 1 => if ¬ σ 7 i = 0 ∧ σ 6 i = h then (match fl_nwst σ h i with
    | none => some i
    | some j => if fl_nw σ j i = true then some j else some i) else fl_nwst σ h i
def fl_ldr (σ : zF) : Nat → Option Nat
  | 0 => none
  | i + 1 => if fl_lead σ i = true then (match fl_ldr σ i with
    | none => some i
    | some j => if σ 3 j < σ 3 i then some i else some j) else fl_ldr σ i
def fl_max (f : Nat → Int32) : Nat → Int32
  | 0 => nI 0
  | i + 1 => if fl_max f i < f i then f i else fl_max f i
def fl_min (f : Nat → Int32) : Nat → Int32
  | 0 => nI 10
  | i + 1 => if f i < fl_min f i then f i else fl_min f i
def fl_sum (f : Nat → Int32) : Nat → Int32
  | 0 => nI 0
  | i + 1 => fl_sum f i + f i
def fl_ofB (σ : zF) (b : Nat) (w : Nat) : Int32 := match w with
  | 0 => σ 3 b
  | 1 => σ 4 b
  | 2 => σ 5 b
  | 3 => σ 6 b
  | 4 => zb (decide (¬ σ 7 b = 0))
  | 5 => σ 1 b
  | 6 => σ 2 b
  | 7 => σ 8 b
  | 8 => σ 9 b
  | _ => fl_last σ b
def fl_ofE (n : Nat) (σ : zF) (b k : Nat) (w : Nat) : Int32 := match w with
  | 0 => σ 10 (b * 10 + k)
  | 1 => σ 11 (b * 10 + k)
  | _ => nI (fl_ct (fun o => decide (k + 1 ≤ fl_agr σ b o)) n)
def fl_ofF (n : Nat) (σ : zF) (w : Nat) : Int32 := match w with
  | 0 => σ 0 1
  | 1 => nI n
  | 2 => nI (fl_ct (fun b => decide (¬ σ 7 b = 0)) n)
  | 3 => nI (fl_ct (fl_lead σ) n)
  | 4 => fl_max (σ 3) n
  | 5 => σ 0 2
  | 6 => σ 0 3
  | 7 => σ 0 4
  | 8 => fl_max (σ 9) n
  | _ => fl_min (σ 9) n
end
section
/-! each step keeps what a fleet is (fl_Iv); and the steps of the loops -/
section FLSTEPS
variable {n : Nat} {σ : zF}
theorem fl_Iv.P (h : fl_Iv n σ) (k i : Nat) (v : Int32) (hk : k = 1 ∨ k = 2 ∨ k = 3 ∨ k = 4 ∨ k = 5 ∨ k = 6 ∨ k = 10 ∨ k = 11) : fl_Iv n (zU σ k i v) := h.U k i v (by omega) (by omega) (by omega) (by omega)
theorem fl_take_Iv (h : fl_Iv n σ) (b : Nat) (g : Int32) : fl_Iv n (fl_take σ b g) := ((h.P 3 b g (by omega)).P 4 b (-1) (by omega)).P 5 b (nI 0) (by omega)
theorem fl_hof_Iv (h : fl_Iv n σ) (b : Nat) (g : Int32) : fl_Iv n (fl_hof σ b g) := by
  unfold fl_hof
  split
  · exact h
  · exact fl_take_Iv h b g
theorem fl_meet_Iv (h : fl_Iv n σ) (x o : Nat) : fl_Iv n (fl_meet σ x o) := by
  unfold fl_meet
  split
  · exact fl_take_Iv h x _
  · exact fl_hof_Iv h o _
theorem fl_meet_ge {x o : Nat} (h : ¬ σ 3 x < σ 3 o) : fl_meet σ x o = fl_hof σ o (σ 3 x) := by rw [fl_meet, if_neg h]
theorem fl_meet_lt {x o : Nat} (h : σ 3 x < σ 3 o) : fl_meet σ x o = fl_take σ x (σ 3 o) := by rw [fl_meet, if_pos h]
theorem fl_votT_Iv (h : fl_Iv n σ) (b o : Nat) : fl_Iv n (fl_votT σ b o) := by
  unfold fl_votT
  split
  · exact (h.P 4 o (nI b) (by omega)).P 2 o _ (by omega)
  · exact h
theorem fl_votS_Iv (h : fl_Iv n σ) (b o : Nat) : fl_Iv n (fl_votS σ b o) := by
  unfold fl_votS
  split
  · exact fl_take_Iv h b _
  · exact fl_votT_Iv (fl_hof_Iv h o _) b o
theorem fl_std0_Iv (h : fl_Iv n σ) (b : Nat) : fl_Iv n (fl_std0 σ b) := (((((h.U0 2 _ (by decide)).P 3 b _ (by omega)).P 5 b _ (by omega)).P 4 b _ (by omega)).P 2 b _ (by omega))
theorem fl_askL_Iv (b : Nat) : ∀ (f o v : Nat) (σ : zF), fl_Iv n σ → fl_Iv n (fl_askL b f o v σ).2
  | 0, _, _, _, h => h
  | f + 1, o, v, σ, h => by
    unfold fl_askL
    split
    · split
      · exact fl_askL_Iv b f (o + 1) _ _ (fl_votS_Iv h b o)
      · exact fl_askL_Iv b f (o + 1) _ _ h
    · exact h
theorem fl_ask_Iv (h : fl_Iv n σ) (b o v : Nat) : fl_Iv n (fl_ask n b o v σ).2 := fl_askL_Iv b (n - o) o v σ h
theorem fl_ask_go (n b o v : Nat) (σ : zF) (ho : o < n) (h5 : σ 5 b = nI 1) : fl_ask n b o v σ = if o ≠ b ∧ fl_hear σ b o = true then fl_ask n b (o + 1) (if fl_votB σ b o = true then v + 1 else v) (fl_votS σ b o) else fl_ask n b (o + 1) v σ := by
  unfold fl_ask
  rw [show n - o = (n - (o + 1)) + 1 by omega]
  show (if σ 5 b = nI 1 then _ else _) = _
  rw [if_pos h5]
theorem fl_ask_end (n b o v : Nat) (σ : zF) (ho : n ≤ o) : fl_ask n b o v σ = (v, σ) := by
  unfold fl_ask
  rw [show n - o = 0 by omega]
  rfl
theorem fl_ask_stop (n b o v : Nat) (σ : zF) (h5 : ¬ σ 5 b = nI 1) : fl_ask n b o v σ = (v, σ) := by
  unfold fl_ask
  cases n - o with
  | zero => rfl
  | succ f =>
    show (if σ 5 b = nI 1 then _ else _) = _
    rw [if_neg h5]
theorem fl_stdE_Iv {r : Nat × zF} (h : fl_Iv n r.2) (b : Nat) : fl_Iv n (fl_stdE n b r) := by
  unfold fl_stdE
  split
  · exact (h.P 5 b _ (by omega)).U0 3 _ (by decide)
  · exact h
theorem fl_stand_Iv (h : fl_Iv n σ) (b : Nat) : fl_Iv n (fl_stand n σ b) := fl_stdE_Iv (fl_ask_Iv (fl_std0_Iv h b) b 0 1) b
theorem fl_app_Iv (h : fl_Iv n σ) (b : Nat) (x y : Int32) (hb : fl_ln σ b < 10) : fl_Iv n (fl_app σ b x y) := ((h.P 10 _ x (by omega)).P 11 _ y (by omega)).U8 b _ (by omega)
theorem fl_agrL_le0 (σ : zF) (x y : Nat) : ∀ (f k : Nat), fl_agrL σ x y f k ≤ k + f
  | 0, k => Nat.le_refl _
  | f + 1, k => by
    unfold fl_agrL
    have h := fl_agrL_le0 σ x y f (k + 1)
    split <;> omega
theorem fl_agr_m0 (σ : zF) (x y : Nat) : fl_agr σ x y ≤ min (fl_ln σ x) (fl_ln σ y) := by
  have h := fl_agrL_le0 σ x y (min (fl_ln σ x) (fl_ln σ y)) 0
  unfold fl_agr
  omega
theorem fl_mend_Iv (h : fl_Iv n σ) {t o : Nat} (ht : t < n) (ho : o < n) : fl_Iv n (fl_mend σ t o) := by
  have h1 := h.lnT ht
  have h2 := h.lnT ho
  unfold fl_mend
  split
  · exact h.U8 o _ (by omega)
  · split
    · exact fl_app_Iv h o _ _ (by omega)
    · exact h
theorem fl_lrn_Iv (h : fl_Iv n σ) {t o : Nat} (ht : t < n) (ho : o < n) : fl_Iv n (fl_lrn σ t o) := by
  have h1 := h.knT ht
  have h2 := h.knT ho
  exact h.U9 o _ (by omega)
theorem fl_got_Iv (h : fl_Iv n σ) (o : Nat) : fl_Iv n (fl_got σ o) := (h.P 5 o _ (by omega)).P 2 o _ (by omega)
theorem fl_lose_Iv (h : fl_Iv n σ) (b : Bool) : fl_Iv n (fl_lose σ b) := by
  unfold fl_lose
  split
  · exact h.U0 4 _ (by decide)
  · exact h
theorem fl_telT_Iv (h : fl_Iv n σ) {t o : Nat} (ht : t < n) (ho : o < n) : fl_Iv n (fl_telT σ t o) := fl_lrn_Iv (fl_lose_Iv (fl_mend_Iv (fl_got_Iv h o) ht ho) _) ht ho
theorem fl_tel_Iv (h : fl_Iv n σ) {t o : Nat} (ht : t < n) (ho : o < n) : fl_Iv n (fl_tel σ t o) := by
  unfold fl_tel
  split
  · exact fl_take_Iv h t _
  · exact fl_telT_Iv (fl_hof_Iv h o _) ht ho
theorem fl_telL_Iv {t : Nat} (ht : t < n) : ∀ (f o : Nat) (σ : zF), o + f ≤ n → fl_Iv n σ → fl_Iv n (fl_telL t f o σ)
  | 0, _, _, _, h => h
  | f + 1, o, σ, hf, h => by
    unfold fl_telL
    split
    · split
      · exact fl_telL_Iv ht f (o + 1) _ (by omega) (fl_tel_Iv h ht (by omega))
      · exact fl_telL_Iv ht f (o + 1) _ (by omega) h
    · exact h
theorem fl_tells_Iv (h : fl_Iv n σ) {t : Nat} (ht : t < n) : fl_Iv n (fl_tells n t 0 σ) := fl_telL_Iv ht (n - 0) 0 σ (by omega) h
theorem fl_tells_go (n t o : Nat) (σ : zF) (ho : o < n) (h5 : σ 5 t = nI 2) : fl_tells n t o σ = if o ≠ t ∧ fl_hear σ t o = true then fl_tells n t (o + 1) (fl_tel σ t o) else fl_tells n t (o + 1) σ := by
  unfold fl_tells
  rw [show n - o = (n - (o + 1)) + 1 by omega]
  show (if σ 5 t = nI 2 then _ else _) = _
  rw [if_pos h5]
theorem fl_tells_end (n t o : Nat) (σ : zF) (ho : n ≤ o) : fl_tells n t o σ = σ := by
  unfold fl_tells
  rw [show n - o = 0 by omega]
  rfl
theorem fl_tells_stop (n t o : Nat) (σ : zF) (h5 : ¬ σ 5 t = nI 2) : fl_tells n t o σ = σ := by
  unfold fl_tells
  cases n - o with
  | zero => rfl
  | succ f =>
    show (if σ 5 t = nI 2 then _ else _) = _
    rw [if_neg h5]
theorem fl_comL_Iv (h : fl_Iv n σ) (b : Nat) : ∀ k : Nat, k ≤ 10 → fl_Iv n (fl_comL n σ b k)
  | 0, _ => h
  | k + 1, hk => by
    unfold fl_comL
    split
    · split
      · exact h.U9 b _ hk
      · exact fl_comL_Iv h b k (by omega)
    · exact h
theorem fl_com_Iv (h : fl_Iv n σ) {b : Nat} (hb : b < n) : fl_Iv n (fl_com n σ b) := fl_comL_Iv h b _ (h.lnT hb)
theorem fl_fold_Iv {f : zF → Nat → zF} {m : Nat} (hf : ∀ τ i, i < m → fl_Iv n τ → fl_Iv n (f τ i)) (h : fl_Iv n σ) : ∀ i : Nat, i ≤ m → fl_Iv n (fl_fold f i σ)
  | 0, _ => h
  | i + 1, hi => hf _ i (by omega) (fl_fold_Iv hf h i (by omega))
theorem fl_clk1_Iv (h : fl_Iv n σ) {i : Nat} (_ : i < n) : fl_Iv n (fl_clk1 n σ i) := by
  unfold fl_clk1
  split
  · split
    · exact fl_stand_Iv (h.P 2 i _ (by omega)) i
    · exact h.P 2 i _ (by omega)
  · exact h
theorem fl_tls1_Iv (h : fl_Iv n σ) {i : Nat} (hi : i < n) : fl_Iv n (fl_tls1 n σ i) := by
  unfold fl_tls1
  split
  · exact fl_tells_Iv h hi
  · exact h
theorem fl_coms1_Iv (h : fl_Iv n σ) {i : Nat} (hi : i < n) : fl_Iv n (fl_coms1 n σ i) := by
  unfold fl_coms1
  split
  · exact fl_com_Iv h hi
  · exact h
theorem fl_clk_Iv (h : fl_Iv n σ) : fl_Iv n (fl_fold (fl_clk1 n) n σ) := fl_fold_Iv (fun _ _ hi hτ => fl_clk1_Iv hτ hi) h n (Nat.le_refl n)
theorem fl_tls_Iv (h : fl_Iv n σ) : fl_Iv n (fl_fold (fl_tls1 n) n σ) := fl_fold_Iv (fun _ _ hi hτ => fl_tls1_Iv hτ hi) h n (Nat.le_refl n)
theorem fl_coms_Iv (h : fl_Iv n σ) : fl_Iv n (fl_fold (fl_coms1 n) n σ) := fl_fold_Iv (fun _ _ hi hτ => fl_coms1_Iv hτ hi) h n (Nat.le_refl n)
theorem fl_tick_Iv (h : fl_Iv n σ) : fl_Iv n (fl_tick σ) := h.U0 1 _ (by decide)
theorem fl_hour_Iv (h : fl_Iv n σ) : fl_Iv n (fl_hour n σ) := fl_tick_Iv (fl_coms_Iv (fl_tls_Iv (fl_clk_Iv h)))
theorem fl_hours_Iv (h : fl_Iv n σ) : ∀ k : Nat, fl_Iv n (fl_hours n k σ)
  | 0 => h
  | k + 1 => fl_hour_Iv (fl_hours_Iv h k)
end FLSTEPS
theorem fl_ct_le (p : Nat → Bool) : ∀ i : Nat, fl_ct p i ≤ i
  | 0 => Nat.le_refl 0
  | i + 1 => by
    have h := fl_ct_le p i
    unfold fl_ct
    split <;> omega
theorem fl_any_of {p : Nat → Bool} {i : Nat} (hp : p i = true) : ∀ n : Nat, i < n → fl_any p n = true
  | 0, h => absurd h (Nat.not_lt_zero i)
  | n + 1, h => by
    unfold fl_any
    rcases Nat.lt_or_ge i n with q | q
    · rw [fl_any_of hp n q]; rfl
    · rw [show n = i by omega, hp, Bool.or_true]
end
section
theorem fl_agrL_le (σ : zF) (x y : Nat) : ∀ (f k : Nat), fl_agrL σ x y f k ≤ k + f
  | 0, k => Nat.le_refl _
  | f + 1, k => by
    unfold fl_agrL
    have h := fl_agrL_le σ x y f (k + 1)
    split <;> omega
theorem fl_agr_m (σ : zF) (x y : Nat) : fl_agr σ x y ≤ min (fl_ln σ x) (fl_ln σ y) := by
  have h := fl_agrL_le σ x y (min (fl_ln σ x) (fl_ln σ y)) 0
  unfold fl_agr
  omega
theorem fl_agr_go (σ : zF) (x y m k : Nat) (h : k < m) : fl_agrL σ x y (m - k) k = if σ 10 (x * 10 + k) = σ 10 (y * 10 + k) ∧ σ 11 (x * 10 + k) = σ 11 (y * 10 + k) then fl_agrL σ x y (m - (k + 1)) (k + 1) else k := by
  rw [show m - k = (m - (k + 1)) + 1 by omega]
  rfl
theorem fl_agr_end (σ : zF) (x y m k : Nat) (h : m ≤ k) : fl_agrL σ x y (m - k) k = k := by
  rw [show m - k = 0 by omega]
  rfl
set_option maxHeartbeats 4000000 in
set_option maxRecDepth 100000 in
theorem c_X1_termAt (l : Launch) (D : va_G) (cI cZ cJ : ClassId) (a : Nat → Nat) (σ : zF) (n : Nat) (hI : fl_Iv n σ) (b : Nat) (k : Nat) (hb : b < n) (hk : k < 10) : zM l D (tyL cI cZ cJ) yX1_termAt cX1_termAt 3 (some .int) (zR 0 0) [.ref (a 12), .int (nI (b)), .int (nI (k))] [(shF a cI cZ, σ)] 0 0 (fun r u => r = some (.int (σ 10 ((b * 10) + k))) ∧ u = [(shF a cI cZ, σ)]) := by
  have hn3 := hI.n3
  have hn7 := hI.n7
  refine z_of (by decide) (Nat.le_of_ble_eq_true rfl) rfl ?_
  intro p e s m args below meth c A C hr hin
  obtain ⟨Q, hQ⟩ : ∃ Q, Q = MQ below (zQ (fun r u => r = some (.int (σ 10 ((b * 10) + k))) ∧ u = [(shF a cI cZ, σ)]) D (tyL cI cZ cJ) A) args s 0 0 A := ⟨_, rfl⟩
  rw [← hQ]
  refine z_aload_n C dX1_termAt_0 rfl 0 rfl ?_
  refine z_getR C wu_X1 0 rfl 12 rfl rfl 2 (by decide) rfl wf_X1_18 dX1_termAt_1 ?_
  refine z_iload_n C dX1_termAt_4 rfl 1 rfl ?_
  refine z_bipush C (v := nI (10)) (by decide) dX1_termAt_5 ?_
  refine z_imulN C dX1_termAt_7 ?_
  refine z_iload_n C dX1_termAt_8 rfl 2 rfl ?_
  refine z_iaddN C dX1_termAt_9 ?_
  refine z_iald C 0 rfl 10 0 rfl rfl dX1_termAt_10 (by omega) (by decide) ?_
  rw [hQ]; exact z_iret C hr dX1_termAt_11 ⟨rfl, rfl⟩
set_option maxHeartbeats 4000000 in
set_option maxRecDepth 100000 in
theorem c_X1_fishAt (l : Launch) (D : va_G) (cI cZ cJ : ClassId) (a : Nat → Nat) (σ : zF) (n : Nat) (hI : fl_Iv n σ) (b : Nat) (k : Nat) (hb : b < n) (hk : k < 10) : zM l D (tyL cI cZ cJ) yX1_fishAt cX1_fishAt 3 (some .int) (zR 0 0) [.ref (a 12), .int (nI (b)), .int (nI (k))] [(shF a cI cZ, σ)] 0 0 (fun r u => r = some (.int (σ 11 ((b * 10) + k))) ∧ u = [(shF a cI cZ, σ)]) := by
  have hn3 := hI.n3
  have hn7 := hI.n7
  refine z_of (by decide) (Nat.le_of_ble_eq_true rfl) rfl ?_
  intro p e s m args below meth c A C hr hin
  obtain ⟨Q, hQ⟩ : ∃ Q, Q = MQ below (zQ (fun r u => r = some (.int (σ 11 ((b * 10) + k))) ∧ u = [(shF a cI cZ, σ)]) D (tyL cI cZ cJ) A) args s 0 0 A := ⟨_, rfl⟩
  rw [← hQ]
  refine z_aload_n C dX1_fishAt_0 rfl 0 rfl ?_
  refine z_getR C wu_X1 0 rfl 12 rfl rfl 3 (by decide) rfl wf_X1_21 dX1_fishAt_1 ?_
  refine z_iload_n C dX1_fishAt_4 rfl 1 rfl ?_
  refine z_bipush C (v := nI (10)) (by decide) dX1_fishAt_5 ?_
  refine z_imulN C dX1_fishAt_7 ?_
  refine z_iload_n C dX1_fishAt_8 rfl 2 rfl ?_
  refine z_iaddN C dX1_fishAt_9 ?_
  refine z_iald C 0 rfl 11 0 rfl rfl dX1_fishAt_10 (by omega) (by decide) ?_
  rw [hQ]; exact z_iret C hr dX1_fishAt_11 ⟨rfl, rfl⟩
set_option maxHeartbeats 4000000 in
set_option maxRecDepth 100000 in
theorem c_X1_lastTerm (l : Launch) (D : va_G) (cI cZ cJ : ClassId) (a : Nat → Nat) (σ : zF) (n : Nat) (hI : fl_Iv n σ) (b : Nat) (hb : b < n) : zM l D (tyL cI cZ cJ) yX1_lastTerm cX1_lastTerm 2 (some .int) (zR 0 0) [.ref (a 12), .int (nI (b))] [(shF a cI cZ, σ)] 0 0 (fun r u => r = some (.int (fl_last σ b)) ∧ u = [(shF a cI cZ, σ)]) := by
  have hn3 := hI.n3
  have hn7 := hI.n7
  refine z_of (by decide) (Nat.le_of_ble_eq_true rfl) rfl ?_
  intro p e s m args below meth c A C hr hin
  obtain ⟨Q, hQ⟩ : ∃ Q, Q = MQ below (zQ (fun r u => r = some (.int (fl_last σ b)) ∧ u = [(shF a cI cZ, σ)]) D (tyL cI cZ cJ) A) args s 0 0 A := ⟨_, rfl⟩
  rw [← hQ]
  refine z_aload_n C dX1_lastTerm_0 rfl 0 rfl ?_
  refine z_getR C wu_X1 0 rfl 12 rfl rfl 0 (by decide) rfl wf_X1_9 dX1_lastTerm_1 ?_
  refine z_iload_n C dX1_lastTerm_4 rfl 1 rfl ?_
  refine z_iald C 0 rfl 8 0 rfl rfl dX1_lastTerm_5 (by omega) (by decide) ?_
  refine z_top (y := nI (fl_ln σ b)) (hI.ln (by omega)) ?_
  have hb_1 := hI.lnT (i := b) (by omega)
  refine z_if_leN C (tgt := 30) dX1_lastTerm_6 (by decide) (by omega) (fun c_6 => ?_) (fun c_6 => ?_)
  · refine z_iconst C (v := -1) (by decide) dX1_lastTerm_30 ?_
    rw [hQ]; exact z_iret C hr dX1_lastTerm_31 ⟨congrArg (fun x => some (Value.int x)) (by unfold fl_last; first | rw [if_pos (by omega)] | rw [if_neg (by omega)]), rfl⟩
  · refine z_aload_n C dX1_lastTerm_9 rfl 0 rfl ?_
    refine z_getR C wu_X1 0 rfl 12 rfl rfl 2 (by decide) rfl wf_X1_18 dX1_lastTerm_10 ?_
    refine z_iload_n C dX1_lastTerm_13 rfl 1 rfl ?_
    refine z_bipush C (v := nI (10)) (by decide) dX1_lastTerm_14 ?_
    refine z_imulN C dX1_lastTerm_16 ?_
    refine z_aload_n C dX1_lastTerm_17 rfl 0 rfl ?_
    refine z_getR C wu_X1 0 rfl 12 rfl rfl 0 (by decide) rfl wf_X1_9 dX1_lastTerm_18 ?_
    refine z_iload_n C dX1_lastTerm_21 rfl 1 rfl ?_
    refine z_iald C 0 rfl 8 0 rfl rfl dX1_lastTerm_22 (by omega) (by decide) ?_
    refine z_top (y := nI (fl_ln σ b)) (hI.ln (by omega)) ?_
    have hb_2 := hI.lnT (i := b) (by omega)
    refine z_iaddN C dX1_lastTerm_23 ?_
    refine z_iconst C (v := nI (1)) (by decide) dX1_lastTerm_24 ?_
    refine z_isubN C dX1_lastTerm_25 (by omega) ?_
    refine z_iald C 0 rfl 10 0 rfl rfl dX1_lastTerm_26 (by omega) (by decide) ?_
    refine z_goto C (tgt := 31) dX1_lastTerm_27 (by decide) ?_
    rw [hQ]; exact z_iret C hr dX1_lastTerm_31 ⟨congrArg (fun x => some (Value.int x)) (by unfold fl_last; first | rw [if_pos (by omega)] | rw [if_neg (by omega)]), rfl⟩
set_option maxHeartbeats 4000000 in
set_option maxRecDepth 100000 in
theorem c_X1_append (l : Launch) (D : va_G) (cI cZ cJ : ClassId) (a : Nat → Nat) (σ : zF) (n : Nat) (hI : fl_Iv n σ) (b : Nat) (x : Int32) (y : Int32) (hb : b < n) (hk : fl_ln σ b < 10) : zM l D (tyL cI cZ cJ) yX1_append cX1_append 5 none (zR 0 0) [.ref (a 12), .int (nI (b)), .int (x), .int (y)] [(shF a cI cZ, σ)] 0 0 (fun r u => r = none ∧ u = [(shF a cI cZ, (fl_app σ b x y))]) := by
  have hn3 := hI.n3
  have hn7 := hI.n7
  refine z_of (by decide) (Nat.le_of_ble_eq_true rfl) rfl ?_
  intro p e s m args below meth c A C hr hin
  obtain ⟨Q, hQ⟩ : ∃ Q, Q = MQ below (zQ (fun r u => r = none ∧ u = [(shF a cI cZ, (fl_app σ b x y))]) D (tyL cI cZ cJ) A) args s 0 0 A := ⟨_, rfl⟩
  rw [← hQ]
  refine z_aload_n C dX1_append_0 rfl 0 rfl ?_
  refine z_getR C wu_X1 0 rfl 12 rfl rfl 0 (by decide) rfl wf_X1_9 dX1_append_1 ?_
  refine z_iload_n C dX1_append_4 rfl 1 rfl ?_
  refine z_iald C 0 rfl 8 0 rfl rfl dX1_append_5 (by omega) (by decide) ?_
  refine z_top (y := nI (fl_ln σ b)) (hI.ln (by omega)) ?_
  have hb_1 := hI.lnT (i := b) (by omega)
  refine z_bipush C (v := nI (10)) (by decide) dX1_append_6 ?_
  refine z_icmp_ltN C (tgt := 12) dX1_append_8 (by decide) (by omega) (by omega) (fun c_8 => ?_) (fun c_8 => ?_)
  · refine z_iload_n C dX1_append_12 rfl 1 rfl ?_
    refine z_bipush C (v := nI (10)) (by decide) dX1_append_13 ?_
    refine z_imulN C dX1_append_15 ?_
    refine z_aload_n C dX1_append_16 rfl 0 rfl ?_
    refine z_getR C wu_X1 0 rfl 12 rfl rfl 0 (by decide) rfl wf_X1_9 dX1_append_17 ?_
    refine z_iload_n C dX1_append_20 rfl 1 rfl ?_
    refine z_iald C 0 rfl 8 0 rfl rfl dX1_append_21 (by omega) (by decide) ?_
    refine z_top (y := nI (fl_ln σ b)) (hI.ln (by omega)) ?_
    have hb_2 := hI.lnT (i := b) (by omega)
    refine z_iaddN C dX1_append_22 ?_
    refine z_istore C (L' := [(4, .int (nI ((b * 10) + (fl_ln σ b)))), (0, .ref (a 12)), (1, .int (nI (b))), (2, .int (x)), (3, .int (y))]) dX1_append_23 (by decide) rfl ?_
    refine z_aload_n C dX1_append_25 rfl 1 rfl ?_
    refine z_getR C wu_X1 0 rfl 12 rfl rfl 2 (by decide) rfl wf_X1_18 dX1_append_26 ?_
    refine z_iload C dX1_append_29 0 rfl ?_
    refine z_iload_n C dX1_append_31 rfl 3 rfl ?_
    refine z_iast C (B' := [(shF a cI cZ, (zU σ 10 ((b * 10) + (fl_ln σ b)) (x)))]) 0 rfl 10 0 rfl rfl dX1_append_32 (by omega) (by decide) rfl ?_
    refine z_aload_n C dX1_append_33 rfl 1 rfl ?_
    refine z_getR C wu_X1 0 rfl 12 rfl rfl 3 (by decide) rfl wf_X1_21 dX1_append_34 ?_
    refine z_iload C dX1_append_37 0 rfl ?_
    refine z_iload_n C dX1_append_39 rfl 4 rfl ?_
    refine z_iast C (B' := [(shF a cI cZ, (zU (zU σ 10 ((b * 10) + (fl_ln σ b)) (x)) 11 ((b * 10) + (fl_ln σ b)) (y)))]) 0 rfl 11 0 rfl rfl dX1_append_40 (by omega) (by decide) rfl ?_
    refine z_aload_n C dX1_append_41 rfl 1 rfl ?_
    refine z_getR C wu_X1 0 rfl 12 rfl rfl 0 (by decide) rfl wf_X1_9 dX1_append_42 ?_
    refine z_iload_n C dX1_append_45 rfl 2 rfl ?_
    refine z_dup2 C rfl rfl dX1_append_46 ?_
    refine z_iald C 0 rfl 8 0 rfl rfl dX1_append_47 (by omega) (by decide) ?_
    refine z_top (y := nI (fl_ln σ b)) (hI.ln (by omega)) ?_
    have hb_3 := hI.lnT (i := b) (by omega)
    refine z_iconst C (v := nI (1)) (by decide) dX1_append_48 ?_
    refine z_iaddN C dX1_append_49 ?_
    refine z_iast C (B' := [(shF a cI cZ, (zU (zU (zU σ 10 ((b * 10) + (fl_ln σ b)) (x)) 11 ((b * 10) + (fl_ln σ b)) (y)) 8 (b) (nI ((fl_ln σ b) + 1))))]) 0 rfl 8 0 rfl rfl dX1_append_50 (by omega) (by decide) rfl ?_
    rw [hQ]; exact z_vret C hr dX1_append_51 ⟨rfl, congrArg (fun x => [(shF a cI cZ, x)]) (by rfl)⟩
  · exact absurd hk (by omega)
set_option maxHeartbeats 4000000 in
set_option maxRecDepth 100000 in
theorem c_X1_loseLast (l : Launch) (D : va_G) (cI cZ cJ : ClassId) (a : Nat → Nat) (σ : zF) (n : Nat) (hI : fl_Iv n σ) (b : Nat) (hb : b < n) (hk : 0 < fl_ln σ b) : zM l D (tyL cI cZ cJ) yX1_loseLast cX1_loseLast 2 none (zR 0 0) [.ref (a 12), .int (nI (b))] [(shF a cI cZ, σ)] 0 0 (fun r u => r = none ∧ u = [(shF a cI cZ, (zU σ 8 b (nI (fl_ln σ b - 1))))]) := by
  have hn3 := hI.n3
  have hn7 := hI.n7
  refine z_of (by decide) (Nat.le_of_ble_eq_true rfl) rfl ?_
  intro p e s m args below meth c A C hr hin
  obtain ⟨Q, hQ⟩ : ∃ Q, Q = MQ below (zQ (fun r u => r = none ∧ u = [(shF a cI cZ, (zU σ 8 b (nI (fl_ln σ b - 1))))]) D (tyL cI cZ cJ) A) args s 0 0 A := ⟨_, rfl⟩
  rw [← hQ]
  refine z_aload_n C dX1_loseLast_0 rfl 0 rfl ?_
  refine z_getR C wu_X1 0 rfl 12 rfl rfl 0 (by decide) rfl wf_X1_9 dX1_loseLast_1 ?_
  refine z_iload_n C dX1_loseLast_4 rfl 1 rfl ?_
  refine z_iald C 0 rfl 8 0 rfl rfl dX1_loseLast_5 (by omega) (by decide) ?_
  refine z_top (y := nI (fl_ln σ b)) (hI.ln (by omega)) ?_
  have hb_1 := hI.lnT (i := b) (by omega)
  refine z_if_leN C (tgt := 19) dX1_loseLast_6 (by decide) (by omega) (fun c_6 => ?_) (fun c_6 => ?_)
  · exact absurd hk (by omega)
  · refine z_aload_n C dX1_loseLast_9 rfl 0 rfl ?_
    refine z_getR C wu_X1 0 rfl 12 rfl rfl 0 (by decide) rfl wf_X1_9 dX1_loseLast_10 ?_
    refine z_iload_n C dX1_loseLast_13 rfl 1 rfl ?_
    refine z_dup2 C rfl rfl dX1_loseLast_14 ?_
    refine z_iald C 0 rfl 8 0 rfl rfl dX1_loseLast_15 (by omega) (by decide) ?_
    refine z_top (y := nI (fl_ln σ b)) (hI.ln (by omega)) ?_
    have hb_2 := hI.lnT (i := b) (by omega)
    refine z_iconst C (v := nI (1)) (by decide) dX1_loseLast_16 ?_
    refine z_isubN C dX1_loseLast_17 (by omega) ?_
    refine z_iast C (B' := [(shF a cI cZ, (zU σ 8 (b) (nI ((fl_ln σ b) - 1))))]) 0 rfl 8 0 rfl rfl dX1_loseLast_18 (by omega) (by decide) rfl ?_
    rw [hQ]; exact z_vret C hr dX1_loseLast_19 ⟨rfl, congrArg (fun x => [(shF a cI cZ, x)]) (by rfl)⟩
set_option maxHeartbeats 4000000 in
set_option maxRecDepth 100000 in
theorem c_X1_agreement (l : Launch) (D : va_G) (cI cZ cJ : ClassId) (a : Nat → Nat) (σ : zF) (n : Nat) (hI : fl_Iv n σ) (x : Nat) (y : Nat) (hx : x < n) (hy : y < n) : zM l D (tyL cI cZ cJ) yX1_agreement cX1_agreement 7 (some .int) (zR 1 21) [.ref (a 12), .int (nI (x)), .int (nI (y))] [(shF a cI cZ, σ)] 0 0 (fun r u => r = some (.int (nI (fl_agr σ x y))) ∧ u = [(shF a cI cZ, σ)]) := by
  have hn3 := hI.n3
  have hn7 := hI.n7
  refine z_of (by decide) (Nat.le_of_ble_eq_true rfl) rfl ?_
  intro p e s m args below meth c A C hr hin
  obtain ⟨Q, hQ⟩ : ∃ Q, Q = MQ below (zQ (fun r u => r = some (.int (nI (fl_agr σ x y))) ∧ u = [(shF a cI cZ, σ)]) D (tyL cI cZ cJ) A) args s 0 0 A := ⟨_, rfl⟩
  rw [← hQ]
  refine z_iload_n C dX1_agreement_0 rfl 1 rfl ?_
  refine z_bipush C (v := nI (10)) (by decide) dX1_agreement_1 ?_
  refine z_imulN C dX1_agreement_3 ?_
  refine z_istore_n C (L' := [(3, .int (nI (x * 10))), (0, .ref (a 12)), (1, .int (nI (x))), (2, .int (nI (y)))]) dX1_agreement_4 rfl (by decide) rfl ?_
  refine z_iload_n C dX1_agreement_5 rfl 3 rfl ?_
  refine z_bipush C (v := nI (10)) (by decide) dX1_agreement_6 ?_
  refine z_imulN C dX1_agreement_8 ?_
  refine z_istore C (L' := [(4, .int (nI (y * 10))), (3, .int (nI (x * 10))), (0, .ref (a 12)), (1, .int (nI (x))), (2, .int (nI (y)))]) dX1_agreement_9 (by decide) rfl ?_
  refine z_aload_n C dX1_agreement_11 rfl 2 rfl ?_
  refine z_getR C wu_X1 0 rfl 12 rfl rfl 0 (by decide) rfl wf_X1_9 dX1_agreement_12 ?_
  refine z_iload_n C dX1_agreement_15 rfl 3 rfl ?_
  refine z_iald C 0 rfl 8 0 rfl rfl dX1_agreement_16 (by omega) (by decide) ?_
  refine z_top (y := nI (fl_ln σ x)) (hI.ln (by omega)) ?_
  have hb_1 := hI.lnT (i := x) (by omega)
  refine z_aload_n C dX1_agreement_17 rfl 2 rfl ?_
  refine z_getR C wu_X1 0 rfl 12 rfl rfl 0 (by decide) rfl wf_X1_9 dX1_agreement_18 ?_
  refine z_iload_n C dX1_agreement_21 rfl 4 rfl ?_
  refine z_iald C 0 rfl 8 0 rfl rfl dX1_agreement_22 (by omega) (by decide) ?_
  refine z_top (y := nI (fl_ln σ y)) (hI.ln (by omega)) ?_
  have hb_2 := hI.lnT (i := y) (by omega)
  refine z_mminN C wm_X1_30 ws_min wi_J9 wk_min ⟨(Nat.le_of_ble_eq_true rfl), (Nat.le_of_ble_eq_true rfl), (Nat.le_of_ble_eq_true rfl), (Nat.le_of_ble_eq_true rfl)⟩ dX1_agreement_23 (by omega) (by omega) ?_
  refine z_istore C (L' := [(5, .int (nI (min (fl_ln σ x) (fl_ln σ y)))), (4, .int (nI (y * 10))), (3, .int (nI (x * 10))), (0, .ref (a 12)), (1, .int (nI (x))), (2, .int (nI (y)))]) dX1_agreement_26 (by decide) rfl ?_
  refine z_iconst C (v := nI (0)) (by decide) dX1_agreement_28 ?_
  refine z_istore C (L' := [(6, .int (nI (0))), (5, .int (nI (min (fl_ln σ x) (fl_ln σ y)))), (4, .int (nI (y * 10))), (3, .int (nI (x * 10))), (0, .ref (a 12)), (1, .int (nI (x))), (2, .int (nI (y)))]) dX1_agreement_29 (by decide) rfl ?_
  have loop_31 : ∀ (k_31 k : Nat), (min (fl_ln σ x) (fl_ln σ y)) < k + k_31 → k ≤ (min (fl_ln σ x) (fl_ln σ y)) → (hres : fl_agrL σ x y ((min (fl_ln σ x) (fl_ln σ y)) - k) k = fl_agr σ x y) → zK p l e (zR 1 21) s m args below meth c D A 7 Q 0 0 31 [(6, .int (nI (k))), (5, .int (nI (min (fl_ln σ x) (fl_ln σ y)))), (4, .int (nI (y * 10))), (3, .int (nI (x * 10))), (2, .int (nI (y))), (1, .int (nI (x))), (0, .ref (a 12))] [] [(shF a cI cZ, σ)] := by
    intro k_31
    induction k_31 with
    | zero => intro k  m1_31 m2_31; exact absurd m1_31 (by omega)
    | succ k_31 ih_31 =>
      intro k  m1_31 m2_31 hres
      refine z_iload C dX1_agreement_31 0 rfl ?_
      refine z_iload C dX1_agreement_33 1 rfl ?_
      refine z_icmp_geN C (tgt := 88) dX1_agreement_35 (by decide) (by omega) (by omega) (fun c_35 => ?_) (fun c_35 => ?_)
      · refine z_iload C dX1_agreement_88 0 rfl ?_
        rw [hQ]; exact z_iret C hr dX1_agreement_90 ⟨congrArg (fun x => some (Value.int (nI x))) (by have h := hres; rw [fl_agr_end _ _ _ _ _ (by omega)] at h; exact h), rfl⟩
      · refine z_aload_n C dX1_agreement_38 rfl 6 rfl ?_
        refine z_getR C wu_X1 0 rfl 12 rfl rfl 2 (by decide) rfl wf_X1_18 dX1_agreement_39 ?_
        refine z_iload_n C dX1_agreement_42 rfl 3 rfl ?_
        refine z_iload C dX1_agreement_43 0 rfl ?_
        refine z_iaddN C dX1_agreement_45 ?_
        refine z_iald C 0 rfl 10 0 rfl rfl dX1_agreement_46 (by omega) (by decide) ?_
        refine z_aload_n C dX1_agreement_47 rfl 6 rfl ?_
        refine z_getR C wu_X1 0 rfl 12 rfl rfl 2 (by decide) rfl wf_X1_18 dX1_agreement_48 ?_
        refine z_iload C dX1_agreement_51 2 rfl ?_
        refine z_iload C dX1_agreement_53 0 rfl ?_
        refine z_iaddN C dX1_agreement_55 ?_
        refine z_iald C 0 rfl 10 0 rfl rfl dX1_agreement_56 (by omega) (by decide) ?_
        refine z_icmp_ne C (tgt := 88) dX1_agreement_57 (by decide) (fun c_57 => ?_) (fun c_57 => ?_)
        · refine z_iload C dX1_agreement_88 0 rfl ?_
          rw [hQ]; exact z_iret C hr dX1_agreement_90 ⟨congrArg (fun x => some (Value.int (nI x))) (by have h := hres; rw [fl_agr_go _ _ _ _ _ (by omega), if_neg (fun q => c_57 q.1)] at h; exact h), rfl⟩
        · refine z_aload_n C dX1_agreement_60 rfl 6 rfl ?_
          refine z_getR C wu_X1 0 rfl 12 rfl rfl 3 (by decide) rfl wf_X1_21 dX1_agreement_61 ?_
          refine z_iload_n C dX1_agreement_64 rfl 3 rfl ?_
          refine z_iload C dX1_agreement_65 0 rfl ?_
          refine z_iaddN C dX1_agreement_67 ?_
          refine z_iald C 0 rfl 11 0 rfl rfl dX1_agreement_68 (by omega) (by decide) ?_
          refine z_aload_n C dX1_agreement_69 rfl 6 rfl ?_
          refine z_getR C wu_X1 0 rfl 12 rfl rfl 3 (by decide) rfl wf_X1_21 dX1_agreement_70 ?_
          refine z_iload C dX1_agreement_73 2 rfl ?_
          refine z_iload C dX1_agreement_75 0 rfl ?_
          refine z_iaddN C dX1_agreement_77 ?_
          refine z_iald C 0 rfl 11 0 rfl rfl dX1_agreement_78 (by omega) (by decide) ?_
          refine z_icmp_ne C (tgt := 88) dX1_agreement_79 (by decide) (fun c_79 => ?_) (fun c_79 => ?_)
          · refine z_iload C dX1_agreement_88 0 rfl ?_
            rw [hQ]; exact z_iret C hr dX1_agreement_90 ⟨congrArg (fun x => some (Value.int (nI x))) (by have h := hres; rw [fl_agr_go _ _ _ _ _ (by omega), if_neg (fun q => c_79 q.2)] at h; exact h), rfl⟩
          · refine z_iinc C (L' := [(6, .int (nI (k + 1))), (5, .int (nI (min (fl_ln σ x) (fl_ln σ y)))), (4, .int (nI (y * 10))), (3, .int (nI (x * 10))), (2, .int (nI (y))), (1, .int (nI (x))), (0, .ref (a 12))]) dX1_agreement_82 0 rfl (z_inc1 _) (by decide) rfl ?_
            refine z_goto C (tgt := 31) dX1_agreement_85 (by decide) ?_
            refine z_sub (L' := [(6, .int (nI (k + 1))), (5, .int (nI (min (fl_ln σ x) (fl_ln σ y)))), (4, .int (nI (y * 10))), (3, .int (nI (x * 10))), (2, .int (nI (y))), (1, .int (nI (x))), (0, .ref (a 12))]) [0, 1, 2, 3, 4, 5, 6] rfl ?_
            exact ih_31 (k + 1)  (by omega) (by omega) (by have h := hres; rw [fl_agr_go _ _ _ _ _ (by omega), if_pos ⟨c_57, c_79⟩] at h; exact h)
  refine z_sub (L' := [(6, .int (nI (0))), (5, .int (nI (min (fl_ln σ x) (fl_ln σ y)))), (4, .int (nI (y * 10))), (3, .int (nI (x * 10))), (2, .int (nI (y))), (1, .int (nI (x))), (0, .ref (a 12))]) [0, 1, 2, 3, 6, 5, 4] rfl ?_
  exact loop_31 ((min (fl_ln σ x) (fl_ln σ y)) + 1) 0  (by omega) (by omega) rfl
set_option maxHeartbeats 4000000 in
set_option maxRecDepth 100000 in
theorem c_X1_asNew (l : Launch) (D : va_G) (cI cZ cJ : ClassId) (a : Nat → Nat) (σ : zF) (n : Nat) (hI : fl_Iv n σ) (x : Nat) (y : Nat) (hx : x < n) (hy : y < n) : zM l D (tyL cI cZ cJ) yX1_asNew cX1_asNew 5 (some .boolean) (zR 1 21) [.ref (a 12), .int (nI (x)), .int (nI (y))] [(shF a cI cZ, σ)] 0 0 (fun r u => r = some (.int (zb (fl_nw σ x y))) ∧ u = [(shF a cI cZ, σ)]) := by
  have hn3 := hI.n3
  have hn7 := hI.n7
  refine z_of (by decide) (Nat.le_of_ble_eq_true rfl) rfl ?_
  intro p e s m args below meth c A C hr hin
  obtain ⟨Q, hQ⟩ : ∃ Q, Q = MQ below (zQ (fun r u => r = some (.int (zb (fl_nw σ x y))) ∧ u = [(shF a cI cZ, σ)]) D (tyL cI cZ cJ) A) args s 0 0 A := ⟨_, rfl⟩
  rw [← hQ]
  refine z_aload_n C dX1_asNew_0 rfl 0 rfl ?_
  refine z_iload_n C dX1_asNew_1 rfl 1 rfl ?_
  refine z_cV C (st' := [.int (fl_last σ x)]) (B' := [(shF a cI cZ, σ)]) [true] rfl (c_X1_lastTerm l D cI cZ cJ a σ n hI x (by omega)) wq_yX1_lastTerm wm_X1_36 ⟨wn_yX1_lastTerm, wo_yX1_lastTerm⟩ ⟨rfl, rfl, Nat.le_of_ble_eq_true rfl, Nat.le_of_ble_eq_true rfl⟩ 0 rfl 12 rfl rfl rfl rfl (Nat.le_of_ble_eq_true rfl) dX1_asNew_2 ⟨Nat.le_of_ble_eq_true rfl, Nat.le_of_ble_eq_true rfl⟩ rfl rfl ?_
  refine z_istore_n C (L' := [(3, .int (fl_last σ x)), (0, .ref (a 12)), (1, .int (nI (x))), (2, .int (nI (y)))]) dX1_asNew_5 rfl (by decide) rfl ?_
  refine z_aload_n C dX1_asNew_6 rfl 1 rfl ?_
  refine z_iload_n C dX1_asNew_7 rfl 3 rfl ?_
  refine z_cV C (st' := [.int (fl_last σ y)]) (B' := [(shF a cI cZ, σ)]) [true] rfl (c_X1_lastTerm l D cI cZ cJ a σ n hI y (by omega)) wq_yX1_lastTerm wm_X1_36 ⟨wn_yX1_lastTerm, wo_yX1_lastTerm⟩ ⟨rfl, rfl, Nat.le_of_ble_eq_true rfl, Nat.le_of_ble_eq_true rfl⟩ 0 rfl 12 rfl rfl rfl rfl (Nat.le_of_ble_eq_true rfl) dX1_asNew_8 ⟨Nat.le_of_ble_eq_true rfl, Nat.le_of_ble_eq_true rfl⟩ rfl rfl ?_
  refine z_istore C (L' := [(4, .int (fl_last σ y)), (3, .int (fl_last σ x)), (0, .ref (a 12)), (1, .int (nI (x))), (2, .int (nI (y)))]) dX1_asNew_11 (by decide) rfl ?_
  refine z_iload_n C dX1_asNew_13 rfl 1 rfl ?_
  refine z_iload C dX1_asNew_14 0 rfl ?_
  refine z_icmp_gt C (tgt := 40) dX1_asNew_16 (by decide) (fun c_16 => ?_) (fun c_16 => ?_)
  · refine z_iconst C (v := nI (1)) (by decide) dX1_asNew_40 ?_
    refine z_goto C (tgt := 45) dX1_asNew_41 (by decide) ?_
    rw [hQ]; exact z_zret C hr (by decide) dX1_asNew_45 ⟨z_b1 (by first | (simp [fl_nw, c_16]; done) | (simp [fl_nw, c_16]; omega)), rfl⟩
  · refine z_iload_n C dX1_asNew_19 rfl 1 rfl ?_
    refine z_iload C dX1_asNew_20 0 rfl ?_
    refine z_icmp_ne C (tgt := 44) dX1_asNew_22 (by decide) (fun c_22 => ?_) (fun c_22 => ?_)
    · refine z_iconst C (v := nI (0)) (by decide) dX1_asNew_44 ?_
      rw [hQ]; exact z_zret C hr (by decide) dX1_asNew_45 ⟨z_b0 (by first | (simp [fl_nw, c_16, c_22]; done) | (simp [fl_nw, c_16, c_22]; omega)), rfl⟩
    · refine z_aload_n C dX1_asNew_25 rfl 2 rfl ?_
      refine z_getR C wu_X1 0 rfl 12 rfl rfl 0 (by decide) rfl wf_X1_9 dX1_asNew_26 ?_
      refine z_iload_n C dX1_asNew_29 rfl 3 rfl ?_
      refine z_iald C 0 rfl 8 0 rfl rfl dX1_asNew_30 (by omega) (by decide) ?_
      refine z_top (y := nI (fl_ln σ x)) (hI.ln (by omega)) ?_
      have hb_1 := hI.lnT (i := x) (by omega)
      refine z_aload_n C dX1_asNew_31 rfl 2 rfl ?_
      refine z_getR C wu_X1 0 rfl 12 rfl rfl 0 (by decide) rfl wf_X1_9 dX1_asNew_32 ?_
      refine z_iload_n C dX1_asNew_35 rfl 4 rfl ?_
      refine z_iald C 0 rfl 8 0 rfl rfl dX1_asNew_36 (by omega) (by decide) ?_
      refine z_top (y := nI (fl_ln σ y)) (hI.ln (by omega)) ?_
      have hb_2 := hI.lnT (i := y) (by omega)
      refine z_icmp_ltN C (tgt := 44) dX1_asNew_37 (by decide) (by omega) (by omega) (fun c_37 => ?_) (fun c_37 => ?_)
      · refine z_iconst C (v := nI (0)) (by decide) dX1_asNew_44 ?_
        rw [hQ]; exact z_zret C hr (by decide) dX1_asNew_45 ⟨z_b0 (by first | (simp [fl_nw, c_16, c_22, c_37]; done) | (simp [fl_nw, c_16, c_22, c_37]; omega)), rfl⟩
      · refine z_iconst C (v := nI (1)) (by decide) dX1_asNew_40 ?_
        refine z_goto C (tgt := 45) dX1_asNew_41 (by decide) ?_
        rw [hQ]; exact z_zret C hr (by decide) dX1_asNew_45 ⟨z_b1 (by first | (simp [fl_nw, c_16, c_22, c_37]; done) | (simp [fl_nw, c_16, c_22, c_37]; omega)), rfl⟩
set_option maxHeartbeats 4000000 in
set_option maxRecDepth 100000 in
theorem c_X1_mend (l : Launch) (D : va_G) (cI cZ cJ : ClassId) (a : Nat → Nat) (σ : zF) (n : Nat) (hI : fl_Iv n σ) (x : Nat) (y : Nat) (hx : x < n) (hy : y < n) : zM l D (tyL cI cZ cJ) yX1_mend cX1_mend 4 (some .boolean) (zR 2 47) [.ref (a 12), .int (nI (x)), .int (nI (y))] [(shF a cI cZ, σ)] 0 0 (fun r u => r = some (.int (zb (fl_cut σ x y))) ∧ u = [(shF a cI cZ, (fl_mend σ x y))]) := by
  have hn3 := hI.n3
  have hn7 := hI.n7
  refine z_of (by decide) (Nat.le_of_ble_eq_true rfl) rfl ?_
  intro p e s m args below meth c A C hr hin
  obtain ⟨Q, hQ⟩ : ∃ Q, Q = MQ below (zQ (fun r u => r = some (.int (zb (fl_cut σ x y))) ∧ u = [(shF a cI cZ, (fl_mend σ x y))]) D (tyL cI cZ cJ) A) args s 0 0 A := ⟨_, rfl⟩
  rw [← hQ]
  have hxy := hI.lnT hx
  refine z_aload_n C dX1_mend_0 rfl 0 rfl ?_
  refine z_iload_n C dX1_mend_1 rfl 1 rfl ?_
  refine z_iload_n C dX1_mend_2 rfl 2 rfl ?_
  have hf_1 := fl_agr_m σ x y
  have hf_2 := hI.lnT (i := x) (by omega)
  have hf_3 := hI.lnT (i := y) (by omega)
  refine z_cV C (st' := [.int (nI (fl_agr σ x y))]) (B' := [(shF a cI cZ, σ)]) [true] rfl (c_X1_agreement l D cI cZ cJ a σ n hI x y (by omega) (by omega)) wq_yX1_agreement wm_X1_40 ⟨wn_yX1_agreement, wo_yX1_agreement⟩ ⟨rfl, rfl, Nat.le_of_ble_eq_true rfl, Nat.le_of_ble_eq_true rfl⟩ 0 rfl 12 rfl rfl rfl rfl (Nat.le_of_ble_eq_true rfl) dX1_mend_3 ⟨Nat.le_of_ble_eq_true rfl, Nat.le_of_ble_eq_true rfl⟩ rfl rfl ?_
  refine z_istore_n C (L' := [(3, .int (nI (fl_agr σ x y))), (0, .ref (a 12)), (1, .int (nI (x))), (2, .int (nI (y)))]) dX1_mend_6 rfl (by decide) rfl ?_
  refine z_aload_n C dX1_mend_7 rfl 1 rfl ?_
  refine z_getR C wu_X1 0 rfl 12 rfl rfl 0 (by decide) rfl wf_X1_9 dX1_mend_8 ?_
  refine z_iload_n C dX1_mend_11 rfl 3 rfl ?_
  refine z_iald C 0 rfl 8 0 rfl rfl dX1_mend_12 (by omega) (by decide) ?_
  refine z_top (y := nI (fl_ln σ y)) (hI.ln (by omega)) ?_
  have hb_4 := hI.lnT (i := y) (by omega)
  refine z_iload_n C dX1_mend_13 rfl 0 rfl ?_
  refine z_icmp_leN C (tgt := 24) dX1_mend_14 (by decide) (by omega) (by omega) (fun c_14 => ?_) (fun c_14 => ?_)
  · refine z_iload_n C dX1_mend_24 rfl 0 rfl ?_
    refine z_aload_n C dX1_mend_25 rfl 1 rfl ?_
    refine z_getR C wu_X1 0 rfl 12 rfl rfl 0 (by decide) rfl wf_X1_9 dX1_mend_26 ?_
    refine z_iload_n C dX1_mend_29 rfl 2 rfl ?_
    refine z_iald C 0 rfl 8 0 rfl rfl dX1_mend_30 (by omega) (by decide) ?_
    refine z_top (y := nI (fl_ln σ x)) (hI.ln (by omega)) ?_
    have hb_5 := hI.lnT (i := x) (by omega)
    refine z_icmp_geN C (tgt := 51) dX1_mend_31 (by decide) (by omega) (by omega) (fun c_31 => ?_) (fun c_31 => ?_)
    · refine z_iconst C (v := nI (0)) (by decide) dX1_mend_51 ?_
      rw [hQ]; exact z_zret C hr (by decide) dX1_mend_52 ⟨z_b0 (by simp [fl_cut]; omega), congrArg (fun x => [(shF a cI cZ, x)]) (by unfold fl_mend; (first | rw [if_pos (by omega)] | (rw [if_neg (by omega)]; first | rw [if_pos (by omega)] | rw [if_neg (by omega)])))⟩
    · refine z_aload_n C dX1_mend_34 rfl 1 rfl ?_
      refine z_iload_n C dX1_mend_35 rfl 3 rfl ?_
      refine z_aload_n C dX1_mend_36 rfl 1 rfl ?_
      refine z_iload_n C dX1_mend_37 rfl 2 rfl ?_
      refine z_iload_n C dX1_mend_38 rfl 0 rfl ?_
      refine z_cV C (st' := [.int (σ 10 ((x * 10) + (fl_agr σ x y))), .int (nI (y)), .ref (a 12)]) (B' := [(shF a cI cZ, σ)]) [true] rfl (c_X1_termAt l D cI cZ cJ a σ n hI x (fl_agr σ x y) (by omega) (by omega)) wq_yX1_termAt wm_X1_47 ⟨wn_yX1_termAt, wo_yX1_termAt⟩ ⟨rfl, rfl, Nat.le_of_ble_eq_true rfl, Nat.le_of_ble_eq_true rfl⟩ 0 rfl 12 rfl rfl rfl rfl (Nat.le_of_ble_eq_true rfl) dX1_mend_39 ⟨Nat.le_of_ble_eq_true rfl, Nat.le_of_ble_eq_true rfl⟩ rfl rfl ?_
      refine z_aload_n C dX1_mend_42 rfl 1 rfl ?_
      refine z_iload_n C dX1_mend_43 rfl 2 rfl ?_
      refine z_iload_n C dX1_mend_44 rfl 0 rfl ?_
      refine z_cV C (st' := [.int (σ 11 ((x * 10) + (fl_agr σ x y))), .int (σ 10 ((x * 10) + (fl_agr σ x y))), .int (nI (y)), .ref (a 12)]) (B' := [(shF a cI cZ, σ)]) [true] rfl (c_X1_fishAt l D cI cZ cJ a σ n hI x (fl_agr σ x y) (by omega) (by omega)) wq_yX1_fishAt wm_X1_50 ⟨wn_yX1_fishAt, wo_yX1_fishAt⟩ ⟨rfl, rfl, Nat.le_of_ble_eq_true rfl, Nat.le_of_ble_eq_true rfl⟩ 0 rfl 12 rfl rfl rfl rfl (Nat.le_of_ble_eq_true rfl) dX1_mend_45 ⟨Nat.le_of_ble_eq_true rfl, Nat.le_of_ble_eq_true rfl⟩ rfl rfl ?_
      have hi_6 : fl_Iv n (fl_app σ y (σ 10 ((x * 10) + (fl_agr σ x y))) (σ 11 ((x * 10) + (fl_agr σ x y)))) := (((hI.U 10 _ _ (by decide) (by decide) (by decide) (by decide)).U 11 _ _ (by decide) (by decide) (by decide) (by decide)).U8 _ _ (by omega))
      refine z_cV C (st' := []) (B' := [(shF a cI cZ, (fl_app σ y (σ 10 ((x * 10) + (fl_agr σ x y))) (σ 11 ((x * 10) + (fl_agr σ x y)))))]) [true] rfl (c_X1_append l D cI cZ cJ a σ n hI y (σ 10 ((x * 10) + (fl_agr σ x y))) (σ 11 ((x * 10) + (fl_agr σ x y))) (by omega) (by omega)) wq_yX1_append wm_X1_53 ⟨wn_yX1_append, wo_yX1_append⟩ ⟨rfl, rfl, Nat.le_of_ble_eq_true rfl, Nat.le_of_ble_eq_true rfl⟩ 0 rfl 12 rfl rfl rfl rfl (Nat.le_of_ble_eq_true rfl) dX1_mend_48 ⟨Nat.le_of_ble_eq_true rfl, Nat.le_of_ble_eq_true rfl⟩ rfl rfl ?_
      refine z_iconst C (v := nI (0)) (by decide) dX1_mend_51 ?_
      rw [hQ]; exact z_zret C hr (by decide) dX1_mend_52 ⟨z_b0 (by simp [fl_cut]; omega), congrArg (fun x => [(shF a cI cZ, x)]) (by unfold fl_mend; (first | rw [if_pos (by omega)] | (rw [if_neg (by omega)]; first | rw [if_pos (by omega)] | rw [if_neg (by omega)])))⟩
  · refine z_aload_n C dX1_mend_17 rfl 1 rfl ?_
    refine z_iload_n C dX1_mend_18 rfl 3 rfl ?_
    have hi_7 : fl_Iv n (zU σ 8 y (nI (fl_ln σ y - 1))) := (hI.U8 _ _ (by omega))
    refine z_cV C (st' := []) (B' := [(shF a cI cZ, (zU σ 8 y (nI (fl_ln σ y - 1))))]) [true] rfl (c_X1_loseLast l D cI cZ cJ a σ n hI y (by omega) (by omega)) wq_yX1_loseLast wm_X1_43 ⟨wn_yX1_loseLast, wo_yX1_loseLast⟩ ⟨rfl, rfl, Nat.le_of_ble_eq_true rfl, Nat.le_of_ble_eq_true rfl⟩ 0 rfl 12 rfl rfl rfl rfl (Nat.le_of_ble_eq_true rfl) dX1_mend_19 ⟨Nat.le_of_ble_eq_true rfl, Nat.le_of_ble_eq_true rfl⟩ rfl rfl ?_
    refine z_iconst C (v := nI (1)) (by decide) dX1_mend_22 ?_
    rw [hQ]; exact z_zret C hr (by decide) dX1_mend_23 ⟨z_b1 (by simp [fl_cut]; omega), congrArg (fun x => [(shF a cI cZ, x)]) (by unfold fl_mend; (first | rw [if_pos (by omega)] | (rw [if_neg (by omega)]; first | rw [if_pos (by omega)] | rw [if_neg (by omega)])))⟩
set_option maxHeartbeats 4000000 in
set_option maxRecDepth 100000 in
theorem c_X1_learnCommitted (l : Launch) (D : va_G) (cI cZ cJ : ClassId) (a : Nat → Nat) (σ : zF) (n : Nat) (hI : fl_Iv n σ) (x : Nat) (y : Nat) (hx : x < n) (hy : y < n) : zM l D (tyL cI cZ cJ) yX1_learnCommitted cX1_learnCommitted 4 none (zR 2 47) [.ref (a 12), .int (nI (x)), .int (nI (y))] [(shF a cI cZ, σ)] 0 0 (fun r u => r = none ∧ u = [(shF a cI cZ, (fl_lrn σ x y))]) := by
  have hn3 := hI.n3
  have hn7 := hI.n7
  refine z_of (by decide) (Nat.le_of_ble_eq_true rfl) rfl ?_
  intro p e s m args below meth c A C hr hin
  obtain ⟨Q, hQ⟩ : ∃ Q, Q = MQ below (zQ (fun r u => r = none ∧ u = [(shF a cI cZ, (fl_lrn σ x y))]) D (tyL cI cZ cJ) A) args s 0 0 A := ⟨_, rfl⟩
  rw [← hQ]
  refine z_aload_n C dX1_learnCommitted_0 rfl 0 rfl ?_
  refine z_getR C wu_X1 0 rfl 12 rfl rfl 1 (by decide) rfl wf_X1_15 dX1_learnCommitted_1 ?_
  refine z_iload_n C dX1_learnCommitted_4 rfl 1 rfl ?_
  refine z_iald C 0 rfl 9 0 rfl rfl dX1_learnCommitted_5 (by omega) (by decide) ?_
  refine z_top (y := nI (fl_kn σ x)) (hI.kn (by omega)) ?_
  have hb_1 := hI.knT (i := x) (by omega)
  refine z_aload_n C dX1_learnCommitted_6 rfl 0 rfl ?_
  refine z_iload_n C dX1_learnCommitted_7 rfl 1 rfl ?_
  refine z_iload_n C dX1_learnCommitted_8 rfl 2 rfl ?_
  have hf_2 := fl_agr_m σ x y
  have hf_3 := hI.lnT (i := x) (by omega)
  have hf_4 := hI.lnT (i := y) (by omega)
  refine z_cV C (st' := [.int (nI (fl_agr σ x y)), .int (nI (fl_kn σ x))]) (B' := [(shF a cI cZ, σ)]) [true] rfl (c_X1_agreement l D cI cZ cJ a σ n hI x y (by omega) (by omega)) wq_yX1_agreement wm_X1_40 ⟨wn_yX1_agreement, wo_yX1_agreement⟩ ⟨rfl, rfl, Nat.le_of_ble_eq_true rfl, Nat.le_of_ble_eq_true rfl⟩ 0 rfl 12 rfl rfl rfl rfl (Nat.le_of_ble_eq_true rfl) dX1_learnCommitted_9 ⟨Nat.le_of_ble_eq_true rfl, Nat.le_of_ble_eq_true rfl⟩ rfl rfl ?_
  refine z_mminN C wm_X1_30 ws_min wi_J9 wk_min ⟨(Nat.le_of_ble_eq_true rfl), (Nat.le_of_ble_eq_true rfl), (Nat.le_of_ble_eq_true rfl), (Nat.le_of_ble_eq_true rfl)⟩ dX1_learnCommitted_12 (by omega) (by omega) ?_
  refine z_istore_n C (L' := [(3, .int (nI (min (fl_kn σ x) (fl_agr σ x y)))), (0, .ref (a 12)), (1, .int (nI (x))), (2, .int (nI (y)))]) dX1_learnCommitted_15 rfl (by decide) rfl ?_
  refine z_aload_n C dX1_learnCommitted_16 rfl 1 rfl ?_
  refine z_getR C wu_X1 0 rfl 12 rfl rfl 1 (by decide) rfl wf_X1_15 dX1_learnCommitted_17 ?_
  refine z_iload_n C dX1_learnCommitted_20 rfl 3 rfl ?_
  refine z_aload_n C dX1_learnCommitted_21 rfl 1 rfl ?_
  refine z_getR C wu_X1 0 rfl 12 rfl rfl 1 (by decide) rfl wf_X1_15 dX1_learnCommitted_22 ?_
  refine z_iload_n C dX1_learnCommitted_25 rfl 3 rfl ?_
  refine z_iald C 0 rfl 9 0 rfl rfl dX1_learnCommitted_26 (by omega) (by decide) ?_
  refine z_top (y := nI (fl_kn σ y)) (hI.kn (by omega)) ?_
  have hb_5 := hI.knT (i := y) (by omega)
  refine z_iload_n C dX1_learnCommitted_27 rfl 0 rfl ?_
  refine z_mmaxN C wm_X1_57 ws_max wi_J9 wk_max ⟨(Nat.le_of_ble_eq_true rfl), (Nat.le_of_ble_eq_true rfl), (Nat.le_of_ble_eq_true rfl), (Nat.le_of_ble_eq_true rfl)⟩ dX1_learnCommitted_28 (by omega) (by omega) ?_
  refine z_iast C (B' := [(shF a cI cZ, (zU σ 9 (y) (nI (max (fl_kn σ y) (min (fl_kn σ x) (fl_agr σ x y))))))]) 0 rfl 9 0 rfl rfl dX1_learnCommitted_31 (by omega) (by decide) rfl ?_
  rw [hQ]; exact z_vret C hr dX1_learnCommitted_32 ⟨rfl, congrArg (fun x => [(shF a cI cZ, x)]) (by rfl)⟩
end
section
theorem nI_ne_m1 {j : Nat} (h : j < 2 ^ 31) : ¬ nI j = -1 := fun q => by
  have h1 := nI_toInt h
  rw [q] at h1
  have h2 : (-1 : Int32).toInt = -1 := by decide
  omega
theorem fl_dk {x y : Int32} (h : (!decide (x < y)) = true) : ¬ x < y := by simpa using h
theorem fl_dn {x y : Int32} (h : (!decide (x < y)) = false) : x < y := by simpa using h
theorem fl_lose_t (σ : zF) : fl_lose σ true = zU σ 0 4 (σ 0 4 + nI 1) := if_pos rfl
theorem fl_lose_f (σ : zF) : fl_lose σ false = σ := if_neg (by decide)
theorem fl_nwst_lt (σ : zF) (h : Int32) : ∀ i j : Nat, fl_nwst σ h i = some j → j < i
  | 0, j, e => by simp [fl_nwst] at e
  | i + 1, j, e => by
    unfold fl_nwst at e
    split at e
    · split at e
      · simp at e; omega
      · rename_i k hk
        have := fl_nwst_lt σ h i k hk
        split at e <;> simp at e <;> omega
    · have := fl_nwst_lt σ h i j e
      omega
set_option maxHeartbeats 4000000 in
set_option maxRecDepth 100000 in
theorem c_X0_hear (l : Launch) (D : va_G) (cI cZ cJ : ClassId) (a : Nat → Nat) (σ : zF) (n : Nat) (hI : fl_Iv n σ) (x : Nat) (y : Nat) (hx : x < n) (hy : y < n) : zM l D (tyL cI cZ cJ) yX0_hear cX0_hear 3 (some .boolean) (zR 0 0) [.ref (a 0), .int (nI (x)), .int (nI (y))] [(shF a cI cZ, σ)] 0 0 (fun r u => r = some (.int (zb (fl_hear σ x y))) ∧ u = [(shF a cI cZ, σ)]) := by
  have hn3 := hI.n3
  have hn7 := hI.n7
  refine z_of (by decide) (Nat.le_of_ble_eq_true rfl) rfl ?_
  intro p e s m args below meth c A C hr hin
  obtain ⟨Q, hQ⟩ : ∃ Q, Q = MQ below (zQ (fun r u => r = some (.int (zb (fl_hear σ x y))) ∧ u = [(shF a cI cZ, σ)]) D (tyL cI cZ cJ) A) args s 0 0 A := ⟨_, rfl⟩
  rw [← hQ]
  refine z_aload_n C dX0_hear_0 rfl 0 rfl ?_
  refine z_getR C wu_X0 0 rfl 0 rfl rfl 11 (by decide) rfl wf_X0_30 dX0_hear_1 ?_
  refine z_iload_n C dX0_hear_4 rfl 1 rfl ?_
  refine z_zald C 0 rfl 7 1 rfl rfl dX0_hear_5 (by omega) (by decide) ?_
  refine z_if_eq C (tgt := 37) dX0_hear_6 (by decide) (fun c_6 => ?_) (fun c_6 => ?_)
  · refine z_iconst C (v := nI (0)) (by decide) dX0_hear_37 ?_
    rw [hQ]; exact z_zret C hr (by decide) dX0_hear_38 ⟨z_b0 (by simp [fl_hear, c_6]), rfl⟩
  · refine z_aload_n C dX0_hear_9 rfl 0 rfl ?_
    refine z_getR C wu_X0 0 rfl 0 rfl rfl 11 (by decide) rfl wf_X0_30 dX0_hear_10 ?_
    refine z_iload_n C dX0_hear_13 rfl 2 rfl ?_
    refine z_zald C 0 rfl 7 1 rfl rfl dX0_hear_14 (by omega) (by decide) ?_
    refine z_if_eq C (tgt := 37) dX0_hear_15 (by decide) (fun c_15 => ?_) (fun c_15 => ?_)
    · refine z_iconst C (v := nI (0)) (by decide) dX0_hear_37 ?_
      rw [hQ]; exact z_zret C hr (by decide) dX0_hear_38 ⟨z_b0 (by simp [fl_hear, c_6, c_15]), rfl⟩
    · refine z_aload_n C dX0_hear_18 rfl 0 rfl ?_
      refine z_getR C wu_X0 0 rfl 0 rfl rfl 10 (by decide) rfl wf_X0_27 dX0_hear_19 ?_
      refine z_iload_n C dX0_hear_22 rfl 1 rfl ?_
      refine z_iald C 0 rfl 6 0 rfl rfl dX0_hear_23 (by omega) (by decide) ?_
      refine z_aload_n C dX0_hear_24 rfl 0 rfl ?_
      refine z_getR C wu_X0 0 rfl 0 rfl rfl 10 (by decide) rfl wf_X0_27 dX0_hear_25 ?_
      refine z_iload_n C dX0_hear_28 rfl 2 rfl ?_
      refine z_iald C 0 rfl 6 0 rfl rfl dX0_hear_29 (by omega) (by decide) ?_
      refine z_icmp_ne C (tgt := 37) dX0_hear_30 (by decide) (fun c_30 => ?_) (fun c_30 => ?_)
      · refine z_iconst C (v := nI (0)) (by decide) dX0_hear_37 ?_
        rw [hQ]; exact z_zret C hr (by decide) dX0_hear_38 ⟨z_b0 (by simp [fl_hear, c_6, c_15, c_30]), rfl⟩
      · refine z_iconst C (v := nI (1)) (by decide) dX0_hear_33 ?_
        refine z_goto C (tgt := 38) dX0_hear_34 (by decide) ?_
        rw [hQ]; exact z_zret C hr (by decide) dX0_hear_38 ⟨z_b1 (by simp [fl_hear, c_6, c_15, c_30]), rfl⟩
set_option maxHeartbeats 4000000 in
set_option maxRecDepth 100000 in
theorem c_X0_leadsNow (l : Launch) (D : va_G) (cI cZ cJ : ClassId) (a : Nat → Nat) (σ : zF) (n : Nat) (hI : fl_Iv n σ) (b : Nat) (hb : b < n) : zM l D (tyL cI cZ cJ) yX0_leadsNow cX0_leadsNow 2 (some .boolean) (zR 0 0) [.ref (a 0), .int (nI (b))] [(shF a cI cZ, σ)] 0 0 (fun r u => r = some (.int (zb (fl_lead σ b))) ∧ u = [(shF a cI cZ, σ)]) := by
  have hn3 := hI.n3
  have hn7 := hI.n7
  refine z_of (by decide) (Nat.le_of_ble_eq_true rfl) rfl ?_
  intro p e s m args below meth c A C hr hin
  obtain ⟨Q, hQ⟩ : ∃ Q, Q = MQ below (zQ (fun r u => r = some (.int (zb (fl_lead σ b))) ∧ u = [(shF a cI cZ, σ)]) D (tyL cI cZ cJ) A) args s 0 0 A := ⟨_, rfl⟩
  rw [← hQ]
  refine z_aload_n C dX0_leadsNow_0 rfl 0 rfl ?_
  refine z_getR C wu_X0 0 rfl 0 rfl rfl 11 (by decide) rfl wf_X0_30 dX0_leadsNow_1 ?_
  refine z_iload_n C dX0_leadsNow_4 rfl 1 rfl ?_
  refine z_zald C 0 rfl 7 1 rfl rfl dX0_leadsNow_5 (by omega) (by decide) ?_
  refine z_if_eq C (tgt := 23) dX0_leadsNow_6 (by decide) (fun c_6 => ?_) (fun c_6 => ?_)
  · refine z_iconst C (v := nI (0)) (by decide) dX0_leadsNow_23 ?_
    rw [hQ]; exact z_zret C hr (by decide) dX0_leadsNow_24 ⟨z_b0 (by simp [fl_lead, c_6]), rfl⟩
  · refine z_aload_n C dX0_leadsNow_9 rfl 0 rfl ?_
    refine z_getR C wu_X0 0 rfl 0 rfl rfl 9 (by decide) rfl wf_X0_24 dX0_leadsNow_10 ?_
    refine z_iload_n C dX0_leadsNow_13 rfl 1 rfl ?_
    refine z_iald C 0 rfl 5 0 rfl rfl dX0_leadsNow_14 (by omega) (by decide) ?_
    refine z_iconst C (v := nI (2)) (by decide) dX0_leadsNow_15 ?_
    refine z_icmp_ne C (tgt := 23) dX0_leadsNow_16 (by decide) (fun c_16 => ?_) (fun c_16 => ?_)
    · refine z_iconst C (v := nI (0)) (by decide) dX0_leadsNow_23 ?_
      rw [hQ]; exact z_zret C hr (by decide) dX0_leadsNow_24 ⟨z_b0 (by simp [fl_lead, c_6, c_16]), rfl⟩
    · refine z_iconst C (v := nI (1)) (by decide) dX0_leadsNow_19 ?_
      refine z_goto C (tgt := 24) dX0_leadsNow_20 (by decide) ?_
      rw [hQ]; exact z_zret C hr (by decide) dX0_leadsNow_24 ⟨z_b1 (by simp [fl_lead, c_6, c_16]), rfl⟩
set_option maxHeartbeats 4000000 in
set_option maxRecDepth 100000 in
theorem c_X0_isMoreThanHalf (l : Launch) (D : va_G) (cI cZ cJ : ClassId) (a : Nat → Nat) (σ : zF) (n : Nat) (hI : fl_Iv n σ) (v : Nat) (hv : v < 2 ^ 31) : zM l D (tyL cI cZ cJ) yX0_isMoreThanHalf cX0_isMoreThanHalf 2 (some .boolean) (zR 0 0) [.ref (a 0), .int (nI (v))] [(shF a cI cZ, σ)] 0 0 (fun r u => r = some (.int (zb (decide (n / 2 < v)))) ∧ u = [(shF a cI cZ, σ)]) := by
  have hn3 := hI.n3
  have hn7 := hI.n7
  refine z_of (by decide) (Nat.le_of_ble_eq_true rfl) rfl ?_
  intro p e s m args below meth c A C hr hin
  obtain ⟨Q, hQ⟩ : ∃ Q, Q = MQ below (zQ (fun r u => r = some (.int (zb (decide (n / 2 < v)))) ∧ u = [(shF a cI cZ, σ)]) D (tyL cI cZ cJ) A) args s 0 0 A := ⟨_, rfl⟩
  rw [← hQ]
  refine z_iload_n C dX0_isMoreThanHalf_0 rfl 1 rfl ?_
  refine z_aload_n C dX0_isMoreThanHalf_1 rfl 0 rfl ?_
  refine z_getI C wu_X0 0 rfl 0 rfl rfl 0 (by decide) rfl wf_X0_50 dX0_isMoreThanHalf_2 ?_
  refine z_top (hI.n0 : _ = nI n) ?_
  refine z_iconst C (v := nI (2)) (by decide) dX0_isMoreThanHalf_5 ?_
  refine z_idivN C dX0_isMoreThanHalf_6 (by omega) (by omega) (by omega) ?_
  refine z_icmp_leN C (tgt := 14) dX0_isMoreThanHalf_7 (by decide) (by omega) (by omega) (fun c_7 => ?_) (fun c_7 => ?_)
  · refine z_iconst C (v := nI (0)) (by decide) dX0_isMoreThanHalf_14 ?_
    rw [hQ]; exact z_zret C hr (by decide) dX0_isMoreThanHalf_15 ⟨z_b0 (by (simp only [decide_eq_true_eq, decide_eq_false_iff_not]; omega)), rfl⟩
  · refine z_iconst C (v := nI (1)) (by decide) dX0_isMoreThanHalf_10 ?_
    refine z_goto C (tgt := 15) dX0_isMoreThanHalf_11 (by decide) ?_
    rw [hQ]; exact z_zret C hr (by decide) dX0_isMoreThanHalf_15 ⟨z_b1 (by (simp only [decide_eq_true_eq, decide_eq_false_iff_not]; omega)), rfl⟩
set_option maxHeartbeats 4000000 in
set_option maxRecDepth 100000 in
theorem c_X0_takeTerm (l : Launch) (D : va_G) (cI cZ cJ : ClassId) (a : Nat → Nat) (σ : zF) (n : Nat) (hI : fl_Iv n σ) (b : Nat) (g : Int32) (hb : b < n) : zM l D (tyL cI cZ cJ) yX0_takeTerm cX0_takeTerm 3 none (zR 0 0) [.ref (a 0), .int (nI (b)), .int (g)] [(shF a cI cZ, σ)] 0 0 (fun r u => r = none ∧ u = [(shF a cI cZ, (fl_take σ b g))]) := by
  have hn3 := hI.n3
  have hn7 := hI.n7
  refine z_of (by decide) (Nat.le_of_ble_eq_true rfl) rfl ?_
  intro p e s m args below meth c A C hr hin
  obtain ⟨Q, hQ⟩ : ∃ Q, Q = MQ below (zQ (fun r u => r = none ∧ u = [(shF a cI cZ, (fl_take σ b g))]) D (tyL cI cZ cJ) A) args s 0 0 A := ⟨_, rfl⟩
  rw [← hQ]
  refine z_aload_n C dX0_takeTerm_0 rfl 0 rfl ?_
  refine z_getR C wu_X0 0 rfl 0 rfl rfl 7 (by decide) rfl wf_X0_18 dX0_takeTerm_1 ?_
  refine z_iload_n C dX0_takeTerm_4 rfl 1 rfl ?_
  refine z_iload_n C dX0_takeTerm_5 rfl 2 rfl ?_
  refine z_iast C (B' := [(shF a cI cZ, (zU σ 3 (b) (g)))]) 0 rfl 3 0 rfl rfl dX0_takeTerm_6 (by omega) (by decide) rfl ?_
  refine z_aload_n C dX0_takeTerm_7 rfl 0 rfl ?_
  refine z_getR C wu_X0 0 rfl 0 rfl rfl 8 (by decide) rfl wf_X0_21 dX0_takeTerm_8 ?_
  refine z_iload_n C dX0_takeTerm_11 rfl 1 rfl ?_
  refine z_iconst C (v := -1) (by decide) dX0_takeTerm_12 ?_
  refine z_iast C (B' := [(shF a cI cZ, (zU (zU σ 3 (b) (g)) 4 (b) (-1)))]) 0 rfl 4 0 rfl rfl dX0_takeTerm_13 (by omega) (by decide) rfl ?_
  refine z_aload_n C dX0_takeTerm_14 rfl 0 rfl ?_
  refine z_getR C wu_X0 0 rfl 0 rfl rfl 9 (by decide) rfl wf_X0_24 dX0_takeTerm_15 ?_
  refine z_iload_n C dX0_takeTerm_18 rfl 1 rfl ?_
  refine z_iconst C (v := nI (0)) (by decide) dX0_takeTerm_19 ?_
  refine z_iast C (B' := [(shF a cI cZ, (zU (zU (zU σ 3 (b) (g)) 4 (b) (-1)) 5 (b) (nI (0))))]) 0 rfl 5 0 rfl rfl dX0_takeTerm_20 (by omega) (by decide) rfl ?_
  rw [hQ]; exact z_vret C hr dX0_takeTerm_21 ⟨rfl, congrArg (fun x => [(shF a cI cZ, x)]) (by rfl)⟩
set_option maxHeartbeats 4000000 in
set_option maxRecDepth 100000 in
theorem c_X0_meetTerms (l : Launch) (D : va_G) (cI cZ cJ : ClassId) (a : Nat → Nat) (σ : zF) (n : Nat) (hI : fl_Iv n σ) (x : Nat) (o : Nat) (hx : x < n) (ho : o < n) : zM l D (tyL cI cZ cJ) yX0_meetTerms cX0_meetTerms 3 (some .boolean) (zR 1 22) [.ref (a 0), .int (nI (x)), .int (nI (o))] [(shF a cI cZ, σ)] 0 0 (fun r u => r = some (.int (zb (!decide (σ 3 x < σ 3 o)))) ∧ u = [(shF a cI cZ, (fl_meet σ x o))]) := by
  have hn3 := hI.n3
  have hn7 := hI.n7
  refine z_of (by decide) (Nat.le_of_ble_eq_true rfl) rfl ?_
  intro p e s m args below meth c A C hr hin
  obtain ⟨Q, hQ⟩ : ∃ Q, Q = MQ below (zQ (fun r u => r = some (.int (zb (!decide (σ 3 x < σ 3 o)))) ∧ u = [(shF a cI cZ, (fl_meet σ x o))]) D (tyL cI cZ cJ) A) args s 0 0 A := ⟨_, rfl⟩
  rw [← hQ]
  refine z_aload_n C dX0_meetTerms_0 rfl 0 rfl ?_
  refine z_getR C wu_X0 0 rfl 0 rfl rfl 7 (by decide) rfl wf_X0_18 dX0_meetTerms_1 ?_
  refine z_iload_n C dX0_meetTerms_4 rfl 2 rfl ?_
  refine z_iald C 0 rfl 3 0 rfl rfl dX0_meetTerms_5 (by omega) (by decide) ?_
  refine z_aload_n C dX0_meetTerms_6 rfl 0 rfl ?_
  refine z_getR C wu_X0 0 rfl 0 rfl rfl 7 (by decide) rfl wf_X0_18 dX0_meetTerms_7 ?_
  refine z_iload_n C dX0_meetTerms_10 rfl 1 rfl ?_
  refine z_iald C 0 rfl 3 0 rfl rfl dX0_meetTerms_11 (by omega) (by decide) ?_
  refine z_icmp_le C (tgt := 28) dX0_meetTerms_12 (by decide) (fun c_12 => ?_) (fun c_12 => ?_)
  · refine z_aload_n C dX0_meetTerms_28 rfl 0 rfl ?_
    refine z_getR C wu_X0 0 rfl 0 rfl rfl 7 (by decide) rfl wf_X0_18 dX0_meetTerms_29 ?_
    refine z_iload_n C dX0_meetTerms_32 rfl 2 rfl ?_
    refine z_iald C 0 rfl 3 0 rfl rfl dX0_meetTerms_33 (by omega) (by decide) ?_
    refine z_aload_n C dX0_meetTerms_34 rfl 0 rfl ?_
    refine z_getR C wu_X0 0 rfl 0 rfl rfl 7 (by decide) rfl wf_X0_18 dX0_meetTerms_35 ?_
    refine z_iload_n C dX0_meetTerms_38 rfl 1 rfl ?_
    refine z_iald C 0 rfl 3 0 rfl rfl dX0_meetTerms_39 (by omega) (by decide) ?_
    refine z_icmp_ge C (tgt := 54) dX0_meetTerms_40 (by decide) (fun c_40 => ?_) (fun c_40 => ?_)
    · refine z_iconst C (v := nI (1)) (by decide) dX0_meetTerms_54 ?_
      rw [hQ]; exact z_zret C hr (by decide) dX0_meetTerms_55 ⟨z_b1 (by first | simp [Int32.not_lt.mpr c_12] | simp [Int32.not_le.mp c_12]), congrArg (fun x => [(shF a cI cZ, x)]) (by rw [fl_meet, if_neg (Int32.not_lt.mpr c_12), fl_hof, if_pos c_40])⟩
    · refine z_aload_n C dX0_meetTerms_43 rfl 0 rfl ?_
      refine z_iload_n C dX0_meetTerms_44 rfl 2 rfl ?_
      refine z_aload_n C dX0_meetTerms_45 rfl 0 rfl ?_
      refine z_getR C wu_X0 0 rfl 0 rfl rfl 7 (by decide) rfl wf_X0_18 dX0_meetTerms_46 ?_
      refine z_iload_n C dX0_meetTerms_49 rfl 1 rfl ?_
      refine z_iald C 0 rfl 3 0 rfl rfl dX0_meetTerms_50 (by omega) (by decide) ?_
      have hi_1 : fl_Iv n (fl_take σ o (σ 3 (x))) := fl_take_Iv hI _ _
      refine z_cV C (st' := []) (B' := [(shF a cI cZ, (fl_take σ o (σ 3 (x))))]) [true] rfl (c_X0_takeTerm l D cI cZ cJ a σ n hI o (σ 3 (x)) (by omega)) wq_yX0_takeTerm wm_X0_125 ⟨wn_yX0_takeTerm, wo_yX0_takeTerm⟩ ⟨rfl, rfl, Nat.le_of_ble_eq_true rfl, Nat.le_of_ble_eq_true rfl⟩ 0 rfl 0 rfl rfl rfl rfl (Nat.le_of_ble_eq_true rfl) dX0_meetTerms_51 ⟨Nat.le_of_ble_eq_true rfl, Nat.le_of_ble_eq_true rfl⟩ rfl rfl ?_
      refine z_iconst C (v := nI (1)) (by decide) dX0_meetTerms_54 ?_
      rw [hQ]; exact z_zret C hr (by decide) dX0_meetTerms_55 ⟨z_b1 (by first | simp [Int32.not_lt.mpr c_12] | simp [Int32.not_le.mp c_12]), congrArg (fun x => [(shF a cI cZ, x)]) (by rw [fl_meet, if_neg (Int32.not_lt.mpr c_12), fl_hof, if_neg c_40])⟩
  · refine z_aload_n C dX0_meetTerms_15 rfl 0 rfl ?_
    refine z_iload_n C dX0_meetTerms_16 rfl 1 rfl ?_
    refine z_aload_n C dX0_meetTerms_17 rfl 0 rfl ?_
    refine z_getR C wu_X0 0 rfl 0 rfl rfl 7 (by decide) rfl wf_X0_18 dX0_meetTerms_18 ?_
    refine z_iload_n C dX0_meetTerms_21 rfl 2 rfl ?_
    refine z_iald C 0 rfl 3 0 rfl rfl dX0_meetTerms_22 (by omega) (by decide) ?_
    have hi_2 : fl_Iv n (fl_take σ x (σ 3 (o))) := fl_take_Iv hI _ _
    refine z_cV C (st' := []) (B' := [(shF a cI cZ, (fl_take σ x (σ 3 (o))))]) [true] rfl (c_X0_takeTerm l D cI cZ cJ a σ n hI x (σ 3 (o)) (by omega)) wq_yX0_takeTerm wm_X0_125 ⟨wn_yX0_takeTerm, wo_yX0_takeTerm⟩ ⟨rfl, rfl, Nat.le_of_ble_eq_true rfl, Nat.le_of_ble_eq_true rfl⟩ 0 rfl 0 rfl rfl rfl rfl (Nat.le_of_ble_eq_true rfl) dX0_meetTerms_23 ⟨Nat.le_of_ble_eq_true rfl, Nat.le_of_ble_eq_true rfl⟩ rfl rfl ?_
    refine z_iconst C (v := nI (0)) (by decide) dX0_meetTerms_26 ?_
    rw [hQ]; exact z_zret C hr (by decide) dX0_meetTerms_27 ⟨z_b0 (by first | simp [Int32.not_lt.mpr c_12] | simp [Int32.not_le.mp c_12]), congrArg (fun x => [(shF a cI cZ, x)]) (by rw [fl_meet, if_pos (Int32.not_le.mp c_12)])⟩
set_option maxHeartbeats 4000000 in
set_option maxRecDepth 100000 in
theorem c_X0_givesVote (l : Launch) (D : va_G) (cI cZ cJ : ClassId) (a : Nat → Nat) (σ : zF) (n : Nat) (hI : fl_Iv n σ) (b : Nat) (o : Nat) (hb : b < n) (ho : o < n) : zM l D (tyL cI cZ cJ) yX0_givesVote cX0_givesVote 4 (some .boolean) (zR 2 45) [.ref (a 0), .int (nI (b)), .int (nI (o))] [(shF a cI cZ, σ)] 0 0 (fun r u => r = some (.int (zb (fl_votB σ b o))) ∧ u = [(shF a cI cZ, (fl_votS σ b o))]) := by
  have hn3 := hI.n3
  have hn7 := hI.n7
  refine z_of (by decide) (Nat.le_of_ble_eq_true rfl) rfl ?_
  intro p e s m args below meth c A C hr hin
  obtain ⟨Q, hQ⟩ : ∃ Q, Q = MQ below (zQ (fun r u => r = some (.int (zb (fl_votB σ b o))) ∧ u = [(shF a cI cZ, (fl_votS σ b o))]) D (tyL cI cZ cJ) A) args s 0 0 A := ⟨_, rfl⟩
  rw [← hQ]
  refine z_aload_n C dX0_givesVote_0 rfl 0 rfl ?_
  refine z_iload_n C dX0_givesVote_1 rfl 1 rfl ?_
  refine z_iload_n C dX0_givesVote_2 rfl 2 rfl ?_
  have hi_1 : fl_Iv n (fl_meet σ b o) := fl_meet_Iv hI _ _
  refine z_cV C (st' := [.int (zb (!decide (σ 3 b < σ 3 o)))]) (B' := [(shF a cI cZ, (fl_meet σ b o))]) [true] rfl (c_X0_meetTerms l D cI cZ cJ a σ n hI b o (by omega) (by omega)) wq_yX0_meetTerms wm_X0_109 ⟨wn_yX0_meetTerms, wo_yX0_meetTerms⟩ ⟨rfl, rfl, Nat.le_of_ble_eq_true rfl, Nat.le_of_ble_eq_true rfl⟩ 0 rfl 0 rfl rfl rfl rfl (Nat.le_of_ble_eq_true rfl) dX0_givesVote_3 ⟨Nat.le_of_ble_eq_true rfl, Nat.le_of_ble_eq_true rfl⟩ rfl rfl ?_
  refine z_if_neB C (tgt := 11) dX0_givesVote_6 (by decide) (fun c_6 => ?_) (fun c_6 => ?_)
  · have hg : ¬ σ 3 b < σ 3 o := fl_dk c_6
    rw [fl_meet_ge hg]
    have hi_h : fl_Iv n (fl_hof σ o (σ 3 b)) := fl_hof_Iv hI _ _
    generalize hT : fl_hof σ o (σ 3 b) = T at hi_h ⊢
    refine z_aload_n C dX0_givesVote_11 rfl 0 rfl ?_
    refine z_getR C wu_X0 0 rfl 0 rfl rfl 8 (by decide) rfl wf_X0_21 dX0_givesVote_12 ?_
    refine z_iload_n C dX0_givesVote_15 rfl 2 rfl ?_
    refine z_iald C 0 rfl 4 0 rfl rfl dX0_givesVote_16 (by omega) (by decide) ?_
    refine z_iconst C (v := -1) (by decide) dX0_givesVote_17 ?_
    refine z_icmp_eq C (tgt := 31) dX0_givesVote_18 (by decide) (fun c_18 => ?_) (fun c_18 => ?_)
    · refine z_iconst C (v := nI (1)) (by decide) dX0_givesVote_31 ?_
      refine z_goto C (tgt := 36) dX0_givesVote_32 (by decide) ?_
      refine z_istore_n C (L' := [(3, .int (nI (1))), (0, .ref (a 0)), (1, .int (nI (b))), (2, .int (nI (o)))]) dX0_givesVote_36 rfl (by decide) rfl ?_
      refine z_iload_n C dX0_givesVote_37 rfl 0 rfl ?_
      refine z_if_eqN C (tgt := 53) dX0_givesVote_38 (by decide) (by omega) (fun c_38 => ?_) (fun c_38 => ?_)
      · exact absurd c_38 (by omega)
      · refine z_aload_n C dX0_givesVote_41 rfl 1 rfl ?_
        refine z_getR C wu_X0 0 rfl 0 rfl rfl 12 (by decide) rfl wf_X0_37 dX0_givesVote_42 ?_
        refine z_iload_n C dX0_givesVote_45 rfl 2 rfl ?_
        refine z_iload_n C dX0_givesVote_46 rfl 3 rfl ?_
        refine z_cV C (st' := [.int (zb (fl_nw T b o))]) (B' := [(shF a cI cZ, T)]) [true] rfl (c_X1_asNew l D cI cZ cJ a T n hi_h b o (by omega) (by omega)) wq_yX1_asNew wm_X0_112 ⟨wn_yX1_asNew, wo_yX1_asNew⟩ ⟨rfl, rfl, Nat.le_of_ble_eq_true rfl, Nat.le_of_ble_eq_true rfl⟩ 0 rfl 12 rfl rfl rfl rfl (Nat.le_of_ble_eq_true rfl) dX0_givesVote_47 ⟨Nat.le_of_ble_eq_true rfl, Nat.le_of_ble_eq_true rfl⟩ rfl rfl ?_
        refine z_if_neB C (tgt := 55) dX0_givesVote_50 (by decide) (fun c_50 => ?_) (fun c_50 => ?_)
        · refine z_aload_n C dX0_givesVote_55 rfl 1 rfl ?_
          refine z_getR C wu_X0 0 rfl 0 rfl rfl 8 (by decide) rfl wf_X0_21 dX0_givesVote_56 ?_
          refine z_iload_n C dX0_givesVote_59 rfl 3 rfl ?_
          refine z_iload_n C dX0_givesVote_60 rfl 2 rfl ?_
          refine z_iast C (B' := [(shF a cI cZ, (zU T 4 (o) (nI (b))))]) 0 rfl 4 0 rfl rfl dX0_givesVote_61 (by omega) (by decide) rfl ?_
          refine z_aload_n C dX0_givesVote_62 rfl 1 rfl ?_
          refine z_getR C wu_X0 0 rfl 0 rfl rfl 6 (by decide) rfl wf_X0_15 dX0_givesVote_63 ?_
          refine z_iload_n C dX0_givesVote_66 rfl 3 rfl ?_
          refine z_aload_n C dX0_givesVote_67 rfl 1 rfl ?_
          refine z_getR C wu_X0 0 rfl 0 rfl rfl 5 (by decide) rfl wf_X0_9 dX0_givesVote_68 ?_
          refine z_iload_n C dX0_givesVote_71 rfl 3 rfl ?_
          refine z_iald C 0 rfl 1 0 rfl rfl dX0_givesVote_72 (by omega) (by decide) ?_
          refine z_top (y := T 1 (o)) rfl ?_
          refine z_iast C (B' := [(shF a cI cZ, (zU (zU T 4 (o) (nI (b))) 2 (o) (T 1 (o))))]) 0 rfl 2 0 rfl rfl dX0_givesVote_73 (by omega) (by decide) rfl ?_
          refine z_iconst C (v := nI (1)) (by decide) dX0_givesVote_74 ?_
          rw [hQ]; exact z_zret C hr (by decide) dX0_givesVote_75 ⟨z_b1 (by first | (simp [fl_votB, fl_dn c_6]; done) | (simp [fl_votB, hg, hT, fl_vok, c_6, c_18, c_50])), congrArg (fun x => [(shF a cI cZ, x)]) (by first | (simp [fl_meet, fl_votS, fl_dn c_6]; done) | (simp [fl_votS, hg, hT, fl_votT, fl_vok, c_6, c_18, c_50]))⟩
        · refine z_iconst C (v := nI (0)) (by decide) dX0_givesVote_53 ?_
          rw [hQ]; exact z_zret C hr (by decide) dX0_givesVote_54 ⟨z_b0 (by first | (simp [fl_votB, fl_dn c_6]; done) | (simp [fl_votB, hg, hT, fl_vok, c_6, c_18, c_50])), congrArg (fun x => [(shF a cI cZ, x)]) (by first | (simp [fl_meet, fl_votS, fl_dn c_6]; done) | (simp [fl_votS, hg, hT, fl_votT, fl_vok, c_6, c_18, c_50]))⟩
    · refine z_aload_n C dX0_givesVote_21 rfl 0 rfl ?_
      refine z_getR C wu_X0 0 rfl 0 rfl rfl 8 (by decide) rfl wf_X0_21 dX0_givesVote_22 ?_
      refine z_iload_n C dX0_givesVote_25 rfl 2 rfl ?_
      refine z_iald C 0 rfl 4 0 rfl rfl dX0_givesVote_26 (by omega) (by decide) ?_
      refine z_iload_n C dX0_givesVote_27 rfl 1 rfl ?_
      refine z_icmp_ne C (tgt := 35) dX0_givesVote_28 (by decide) (fun c_28 => ?_) (fun c_28 => ?_)
      · refine z_iconst C (v := nI (0)) (by decide) dX0_givesVote_35 ?_
        refine z_istore_n C (L' := [(3, .int (nI (0))), (0, .ref (a 0)), (1, .int (nI (b))), (2, .int (nI (o)))]) dX0_givesVote_36 rfl (by decide) rfl ?_
        refine z_iload_n C dX0_givesVote_37 rfl 0 rfl ?_
        refine z_if_eqN C (tgt := 53) dX0_givesVote_38 (by decide) (by omega) (fun c_38 => ?_) (fun c_38 => ?_)
        · refine z_iconst C (v := nI (0)) (by decide) dX0_givesVote_53 ?_
          rw [hQ]; exact z_zret C hr (by decide) dX0_givesVote_54 ⟨z_b0 (by first | (simp [fl_votB, fl_dn c_6]; done) | (simp [fl_votB, hg, hT, fl_vok, c_6, c_18, c_28])), congrArg (fun x => [(shF a cI cZ, x)]) (by first | (simp [fl_meet, fl_votS, fl_dn c_6]; done) | (simp [fl_votS, hg, hT, fl_votT, fl_vok, c_6, c_18, c_28]))⟩
        · exact absurd c_38 (by omega)
      · refine z_iconst C (v := nI (1)) (by decide) dX0_givesVote_31 ?_
        refine z_goto C (tgt := 36) dX0_givesVote_32 (by decide) ?_
        refine z_istore_n C (L' := [(3, .int (nI (1))), (0, .ref (a 0)), (1, .int (nI (b))), (2, .int (nI (o)))]) dX0_givesVote_36 rfl (by decide) rfl ?_
        refine z_iload_n C dX0_givesVote_37 rfl 0 rfl ?_
        refine z_if_eqN C (tgt := 53) dX0_givesVote_38 (by decide) (by omega) (fun c_38 => ?_) (fun c_38 => ?_)
        · exact absurd c_38 (by omega)
        · refine z_aload_n C dX0_givesVote_41 rfl 1 rfl ?_
          refine z_getR C wu_X0 0 rfl 0 rfl rfl 12 (by decide) rfl wf_X0_37 dX0_givesVote_42 ?_
          refine z_iload_n C dX0_givesVote_45 rfl 2 rfl ?_
          refine z_iload_n C dX0_givesVote_46 rfl 3 rfl ?_
          refine z_cV C (st' := [.int (zb (fl_nw T b o))]) (B' := [(shF a cI cZ, T)]) [true] rfl (c_X1_asNew l D cI cZ cJ a T n hi_h b o (by omega) (by omega)) wq_yX1_asNew wm_X0_112 ⟨wn_yX1_asNew, wo_yX1_asNew⟩ ⟨rfl, rfl, Nat.le_of_ble_eq_true rfl, Nat.le_of_ble_eq_true rfl⟩ 0 rfl 12 rfl rfl rfl rfl (Nat.le_of_ble_eq_true rfl) dX0_givesVote_47 ⟨Nat.le_of_ble_eq_true rfl, Nat.le_of_ble_eq_true rfl⟩ rfl rfl ?_
          refine z_if_neB C (tgt := 55) dX0_givesVote_50 (by decide) (fun c_50 => ?_) (fun c_50 => ?_)
          · refine z_aload_n C dX0_givesVote_55 rfl 1 rfl ?_
            refine z_getR C wu_X0 0 rfl 0 rfl rfl 8 (by decide) rfl wf_X0_21 dX0_givesVote_56 ?_
            refine z_iload_n C dX0_givesVote_59 rfl 3 rfl ?_
            refine z_iload_n C dX0_givesVote_60 rfl 2 rfl ?_
            refine z_iast C (B' := [(shF a cI cZ, (zU T 4 (o) (nI (b))))]) 0 rfl 4 0 rfl rfl dX0_givesVote_61 (by omega) (by decide) rfl ?_
            refine z_aload_n C dX0_givesVote_62 rfl 1 rfl ?_
            refine z_getR C wu_X0 0 rfl 0 rfl rfl 6 (by decide) rfl wf_X0_15 dX0_givesVote_63 ?_
            refine z_iload_n C dX0_givesVote_66 rfl 3 rfl ?_
            refine z_aload_n C dX0_givesVote_67 rfl 1 rfl ?_
            refine z_getR C wu_X0 0 rfl 0 rfl rfl 5 (by decide) rfl wf_X0_9 dX0_givesVote_68 ?_
            refine z_iload_n C dX0_givesVote_71 rfl 3 rfl ?_
            refine z_iald C 0 rfl 1 0 rfl rfl dX0_givesVote_72 (by omega) (by decide) ?_
            refine z_top (y := T 1 (o)) rfl ?_
            refine z_iast C (B' := [(shF a cI cZ, (zU (zU T 4 (o) (nI (b))) 2 (o) (T 1 (o))))]) 0 rfl 2 0 rfl rfl dX0_givesVote_73 (by omega) (by decide) rfl ?_
            refine z_iconst C (v := nI (1)) (by decide) dX0_givesVote_74 ?_
            rw [hQ]; exact z_zret C hr (by decide) dX0_givesVote_75 ⟨z_b1 (by first | (simp [fl_votB, fl_dn c_6]; done) | (simp [fl_votB, hg, hT, fl_vok, c_6, c_18, c_28, c_50])), congrArg (fun x => [(shF a cI cZ, x)]) (by first | (simp [fl_meet, fl_votS, fl_dn c_6]; done) | (simp [fl_votS, hg, hT, fl_votT, fl_vok, c_6, c_18, c_28, c_50]))⟩
          · refine z_iconst C (v := nI (0)) (by decide) dX0_givesVote_53 ?_
            rw [hQ]; exact z_zret C hr (by decide) dX0_givesVote_54 ⟨z_b0 (by first | (simp [fl_votB, fl_dn c_6]; done) | (simp [fl_votB, hg, hT, fl_vok, c_6, c_18, c_28, c_50])), congrArg (fun x => [(shF a cI cZ, x)]) (by first | (simp [fl_meet, fl_votS, fl_dn c_6]; done) | (simp [fl_votS, hg, hT, fl_votT, fl_vok, c_6, c_18, c_28, c_50]))⟩
  · refine z_iconst C (v := nI (0)) (by decide) dX0_givesVote_9 ?_
    rw [hQ]; exact z_zret C hr (by decide) dX0_givesVote_10 ⟨z_b0 (by first | (simp [fl_votB, fl_dn c_6]; done) | (simp [fl_votB, hg, hT, fl_vok, c_6])), congrArg (fun x => [(shF a cI cZ, x)]) (by first | (simp [fl_meet, fl_votS, fl_dn c_6]; done) | (simp [fl_votS, hg, hT, fl_votT, fl_vok, c_6]))⟩
set_option maxHeartbeats 4000000 in
set_option maxRecDepth 100000 in
theorem c_X0_stand (l : Launch) (D : va_G) (cI cZ cJ : ClassId) (a : Nat → Nat) (σ : zF) (n : Nat) (hI : fl_Iv n σ) (b : Nat) (hb : b < n) : zM l D (tyL cI cZ cJ) yX0_stand cX0_stand 4 none (zR 3 68) [.ref (a 0), .int (nI (b))] [(shF a cI cZ, σ)] 0 0 (fun r u => r = none ∧ u = [(shF a cI cZ, (fl_stand n σ b))]) := by
  have hn3 := hI.n3
  have hn7 := hI.n7
  refine z_of (by decide) (Nat.le_of_ble_eq_true rfl) rfl ?_
  intro p e s m args below meth c A C hr hin
  obtain ⟨Q, hQ⟩ : ∃ Q, Q = MQ below (zQ (fun r u => r = none ∧ u = [(shF a cI cZ, (fl_stand n σ b))]) D (tyL cI cZ cJ) A) args s 0 0 A := ⟨_, rfl⟩
  rw [← hQ]
  refine z_aload_n C dX0_stand_0 rfl 0 rfl ?_
  refine z_dup C rfl dX0_stand_1 ?_
  refine z_getI C wu_X0 0 rfl 0 rfl rfl 2 (by decide) rfl wf_X0_57 dX0_stand_2 ?_
  refine z_iconst C (v := nI (1)) (by decide) dX0_stand_5 ?_
  refine z_iadd C dX0_stand_6 ?_
  refine z_putI C (B' := [(shF a cI cZ, (zU σ 0 (2) (σ 0 (2) + nI (1))))]) wu_X0 tyX0_ok nmX0 0 rfl 0 rfl rfl 2 (by decide) rfl wf_X0_57 rfl (by decide +kernel) dX0_stand_7 rfl ?_
  refine z_aload_n C dX0_stand_10 rfl 0 rfl ?_
  refine z_getR C wu_X0 0 rfl 0 rfl rfl 7 (by decide) rfl wf_X0_18 dX0_stand_11 ?_
  refine z_iload_n C dX0_stand_14 rfl 1 rfl ?_
  refine z_dup2 C rfl rfl dX0_stand_15 ?_
  refine z_iald C 0 rfl 3 0 rfl rfl dX0_stand_16 (by omega) (by decide) ?_
  refine z_top (y := σ 3 (b)) rfl ?_
  refine z_iconst C (v := nI (1)) (by decide) dX0_stand_17 ?_
  refine z_iadd C dX0_stand_18 ?_
  refine z_iast C (B' := [(shF a cI cZ, (zU (zU σ 0 (2) (σ 0 (2) + nI (1))) 3 (b) (σ 3 (b) + nI (1))))]) 0 rfl 3 0 rfl rfl dX0_stand_19 (by omega) (by decide) rfl ?_
  refine z_aload_n C dX0_stand_20 rfl 0 rfl ?_
  refine z_getR C wu_X0 0 rfl 0 rfl rfl 9 (by decide) rfl wf_X0_24 dX0_stand_21 ?_
  refine z_iload_n C dX0_stand_24 rfl 1 rfl ?_
  refine z_iconst C (v := nI (1)) (by decide) dX0_stand_25 ?_
  refine z_iast C (B' := [(shF a cI cZ, (zU (zU (zU σ 0 (2) (σ 0 (2) + nI (1))) 3 (b) (σ 3 (b) + nI (1))) 5 (b) (nI (1))))]) 0 rfl 5 0 rfl rfl dX0_stand_26 (by omega) (by decide) rfl ?_
  refine z_aload_n C dX0_stand_27 rfl 0 rfl ?_
  refine z_getR C wu_X0 0 rfl 0 rfl rfl 8 (by decide) rfl wf_X0_21 dX0_stand_28 ?_
  refine z_iload_n C dX0_stand_31 rfl 1 rfl ?_
  refine z_iload_n C dX0_stand_32 rfl 1 rfl ?_
  refine z_iast C (B' := [(shF a cI cZ, (zU (zU (zU (zU σ 0 (2) (σ 0 (2) + nI (1))) 3 (b) (σ 3 (b) + nI (1))) 5 (b) (nI (1))) 4 (b) (nI (b))))]) 0 rfl 4 0 rfl rfl dX0_stand_33 (by omega) (by decide) rfl ?_
  refine z_aload_n C dX0_stand_34 rfl 0 rfl ?_
  refine z_getR C wu_X0 0 rfl 0 rfl rfl 6 (by decide) rfl wf_X0_15 dX0_stand_35 ?_
  refine z_iload_n C dX0_stand_38 rfl 1 rfl ?_
  refine z_aload_n C dX0_stand_39 rfl 0 rfl ?_
  refine z_getR C wu_X0 0 rfl 0 rfl rfl 5 (by decide) rfl wf_X0_9 dX0_stand_40 ?_
  refine z_iload_n C dX0_stand_43 rfl 1 rfl ?_
  refine z_iald C 0 rfl 1 0 rfl rfl dX0_stand_44 (by omega) (by decide) ?_
  refine z_top (y := σ 1 (b)) rfl ?_
  refine z_iast C (B' := [(shF a cI cZ, (zU (zU (zU (zU (zU σ 0 (2) (σ 0 (2) + nI (1))) 3 (b) (σ 3 (b) + nI (1))) 5 (b) (nI (1))) 4 (b) (nI (b))) 2 (b) (σ 1 (b))))]) 0 rfl 2 0 rfl rfl dX0_stand_45 (by omega) (by decide) rfl ?_
  refine z_iconst C (v := nI (1)) (by decide) dX0_stand_46 ?_
  refine z_istore_n C (L' := [(2, .int (nI (1))), (0, .ref (a 0)), (1, .int (nI (b)))]) dX0_stand_47 rfl (by decide) rfl ?_
  refine z_iconst C (v := nI (0)) (by decide) dX0_stand_48 ?_
  refine z_istore_n C (L' := [(3, .int (nI (0))), (2, .int (nI (1))), (0, .ref (a 0)), (1, .int (nI (b)))]) dX0_stand_49 rfl (by decide) rfl ?_
  have loop_50 : ∀ (k_50 o : Nat) (v : Nat) (τ : zF), n < o + k_50 → o ≤ n → (hres : fl_ask n b o v τ = (fl_ask n b 0 1 (fl_std0 σ b))) → (hτ : fl_Iv n τ) → (hv : v ≤ o + 1) → zK p l e (zR 3 68) s m args below meth c D A 4 Q 0 0 50 [(3, .int (nI (o))), (2, .int (nI (v))), (1, .int (nI (b))), (0, .ref (a 0))] [] [(shF a cI cZ, τ)] := by
    intro k_50
    induction k_50 with
    | zero => intro o v τ m1_50 m2_50; exact absurd m1_50 (by omega)
    | succ k_50 ih_50 =>
      intro o v τ m1_50 m2_50 hres hτ hv
      refine z_iload_n C dX0_stand_50 rfl 0 rfl ?_
      refine z_aload_n C dX0_stand_51 rfl 3 rfl ?_
      refine z_getI C wu_X0 0 rfl 0 rfl rfl 0 (by decide) rfl wf_X0_50 dX0_stand_52 ?_
      refine z_top (hτ.n0 : _ = nI n) ?_
      refine z_icmp_geN C (tgt := 100) dX0_stand_55 (by decide) (by omega) (by omega) (fun c_55 => ?_) (fun c_55 => ?_)
      · refine z_aload_n C dX0_stand_100 rfl 3 rfl ?_
        refine z_getR C wu_X0 0 rfl 0 rfl rfl 9 (by decide) rfl wf_X0_24 dX0_stand_101 ?_
        refine z_iload_n C dX0_stand_104 rfl 2 rfl ?_
        refine z_iald C 0 rfl 5 0 rfl rfl dX0_stand_105 (by omega) (by decide) ?_
        refine z_iconst C (v := nI (1)) (by decide) dX0_stand_106 ?_
        refine z_icmp_ne C (tgt := 135) dX0_stand_107 (by decide) (fun c_107 => ?_) (fun c_107 => ?_)
        · rw [hQ]; exact z_vret C hr dX0_stand_135 ⟨rfl, congrArg (fun x => [(shF a cI cZ, x)]) (by rw [fl_stand, ← hres]; (first | rw [fl_ask_stop _ _ _ _ _ c_65] | rw [fl_ask_end _ _ _ _ _ c_55]); first | exact (if_pos ⟨c_107, of_decide_eq_true c_115⟩).symm | exact (if_neg (fun q => absurd q.2 (of_decide_eq_false c_115))).symm | exact (if_neg (fun q => c_107 q.1)).symm)⟩
        · refine z_aload_n C dX0_stand_110 rfl 3 rfl ?_
          refine z_iload_n C dX0_stand_111 rfl 1 rfl ?_
          refine z_cV C (st' := [.int (zb (decide (n / 2 < v)))]) (B' := [(shF a cI cZ, τ)]) [true] rfl (c_X0_isMoreThanHalf l D cI cZ cJ a τ n hτ v (by omega)) wq_yX0_isMoreThanHalf wm_X0_106 ⟨wn_yX0_isMoreThanHalf, wo_yX0_isMoreThanHalf⟩ ⟨rfl, rfl, Nat.le_of_ble_eq_true rfl, Nat.le_of_ble_eq_true rfl⟩ 0 rfl 0 rfl rfl rfl rfl (Nat.le_of_ble_eq_true rfl) dX0_stand_112 ⟨Nat.le_of_ble_eq_true rfl, Nat.le_of_ble_eq_true rfl⟩ rfl rfl ?_
          refine z_if_eqB C (tgt := 135) dX0_stand_115 (by decide) (fun c_115 => ?_) (fun c_115 => ?_)
          · rw [hQ]; exact z_vret C hr dX0_stand_135 ⟨rfl, congrArg (fun x => [(shF a cI cZ, x)]) (by rw [fl_stand, ← hres]; (first | rw [fl_ask_stop _ _ _ _ _ c_65] | rw [fl_ask_end _ _ _ _ _ c_55]); first | exact (if_pos ⟨c_107, of_decide_eq_true c_115⟩).symm | exact (if_neg (fun q => absurd q.2 (of_decide_eq_false c_115))).symm | exact (if_neg (fun q => c_107 q.1)).symm)⟩
          · refine z_aload_n C dX0_stand_118 rfl 3 rfl ?_
            refine z_getR C wu_X0 0 rfl 0 rfl rfl 9 (by decide) rfl wf_X0_24 dX0_stand_119 ?_
            refine z_iload_n C dX0_stand_122 rfl 2 rfl ?_
            refine z_iconst C (v := nI (2)) (by decide) dX0_stand_123 ?_
            refine z_iast C (B' := [(shF a cI cZ, (zU τ 5 (b) (nI (2))))]) 0 rfl 5 0 rfl rfl dX0_stand_124 (by omega) (by decide) rfl ?_
            refine z_aload_n C dX0_stand_125 rfl 3 rfl ?_
            refine z_dup C rfl dX0_stand_126 ?_
            refine z_getI C wu_X0 0 rfl 0 rfl rfl 3 (by decide) rfl wf_X0_60 dX0_stand_127 ?_
            refine z_top (y := τ 0 (3)) rfl ?_
            refine z_iconst C (v := nI (1)) (by decide) dX0_stand_130 ?_
            refine z_iadd C dX0_stand_131 ?_
            refine z_putI C (B' := [(shF a cI cZ, (zU (zU τ 5 (b) (nI (2))) 0 (3) (τ 0 (3) + nI (1))))]) wu_X0 tyX0_ok nmX0 0 rfl 0 rfl rfl 3 (by decide) rfl wf_X0_60 rfl (by decide +kernel) dX0_stand_132 rfl ?_
            rw [hQ]; exact z_vret C hr dX0_stand_135 ⟨rfl, congrArg (fun x => [(shF a cI cZ, x)]) (by rw [fl_stand, ← hres]; (first | rw [fl_ask_stop _ _ _ _ _ c_65] | rw [fl_ask_end _ _ _ _ _ c_55]); first | exact (if_pos ⟨c_107, of_decide_eq_true c_115⟩).symm | exact (if_neg (fun q => absurd q.2 (of_decide_eq_false c_115))).symm | exact (if_neg (fun q => c_107 q.1)).symm)⟩
      · refine z_aload_n C dX0_stand_58 rfl 3 rfl ?_
        refine z_getR C wu_X0 0 rfl 0 rfl rfl 9 (by decide) rfl wf_X0_24 dX0_stand_59 ?_
        refine z_iload_n C dX0_stand_62 rfl 2 rfl ?_
        refine z_iald C 0 rfl 5 0 rfl rfl dX0_stand_63 (by omega) (by decide) ?_
        refine z_iconst C (v := nI (1)) (by decide) dX0_stand_64 ?_
        refine z_icmp_ne C (tgt := 100) dX0_stand_65 (by decide) (fun c_65 => ?_) (fun c_65 => ?_)
        · refine z_aload_n C dX0_stand_100 rfl 3 rfl ?_
          refine z_getR C wu_X0 0 rfl 0 rfl rfl 9 (by decide) rfl wf_X0_24 dX0_stand_101 ?_
          refine z_iload_n C dX0_stand_104 rfl 2 rfl ?_
          refine z_iald C 0 rfl 5 0 rfl rfl dX0_stand_105 (by omega) (by decide) ?_
          refine z_iconst C (v := nI (1)) (by decide) dX0_stand_106 ?_
          refine z_icmp_ne C (tgt := 135) dX0_stand_107 (by decide) (fun c_107 => ?_) (fun c_107 => ?_)
          · rw [hQ]; exact z_vret C hr dX0_stand_135 ⟨rfl, congrArg (fun x => [(shF a cI cZ, x)]) (by rw [fl_stand, ← hres]; (first | rw [fl_ask_stop _ _ _ _ _ c_65] | rw [fl_ask_end _ _ _ _ _ c_55]); first | exact (if_pos ⟨c_107, of_decide_eq_true c_115⟩).symm | exact (if_neg (fun q => absurd q.2 (of_decide_eq_false c_115))).symm | exact (if_neg (fun q => c_107 q.1)).symm)⟩
          · refine z_aload_n C dX0_stand_110 rfl 3 rfl ?_
            refine z_iload_n C dX0_stand_111 rfl 1 rfl ?_
            refine z_cV C (st' := [.int (zb (decide (n / 2 < v)))]) (B' := [(shF a cI cZ, τ)]) [true] rfl (c_X0_isMoreThanHalf l D cI cZ cJ a τ n hτ v (by omega)) wq_yX0_isMoreThanHalf wm_X0_106 ⟨wn_yX0_isMoreThanHalf, wo_yX0_isMoreThanHalf⟩ ⟨rfl, rfl, Nat.le_of_ble_eq_true rfl, Nat.le_of_ble_eq_true rfl⟩ 0 rfl 0 rfl rfl rfl rfl (Nat.le_of_ble_eq_true rfl) dX0_stand_112 ⟨Nat.le_of_ble_eq_true rfl, Nat.le_of_ble_eq_true rfl⟩ rfl rfl ?_
            refine z_if_eqB C (tgt := 135) dX0_stand_115 (by decide) (fun c_115 => ?_) (fun c_115 => ?_)
            · rw [hQ]; exact z_vret C hr dX0_stand_135 ⟨rfl, congrArg (fun x => [(shF a cI cZ, x)]) (by rw [fl_stand, ← hres]; (first | rw [fl_ask_stop _ _ _ _ _ c_65] | rw [fl_ask_end _ _ _ _ _ c_55]); first | exact (if_pos ⟨c_107, of_decide_eq_true c_115⟩).symm | exact (if_neg (fun q => absurd q.2 (of_decide_eq_false c_115))).symm | exact (if_neg (fun q => c_107 q.1)).symm)⟩
            · refine z_aload_n C dX0_stand_118 rfl 3 rfl ?_
              refine z_getR C wu_X0 0 rfl 0 rfl rfl 9 (by decide) rfl wf_X0_24 dX0_stand_119 ?_
              refine z_iload_n C dX0_stand_122 rfl 2 rfl ?_
              refine z_iconst C (v := nI (2)) (by decide) dX0_stand_123 ?_
              refine z_iast C (B' := [(shF a cI cZ, (zU τ 5 (b) (nI (2))))]) 0 rfl 5 0 rfl rfl dX0_stand_124 (by omega) (by decide) rfl ?_
              refine z_aload_n C dX0_stand_125 rfl 3 rfl ?_
              refine z_dup C rfl dX0_stand_126 ?_
              refine z_getI C wu_X0 0 rfl 0 rfl rfl 3 (by decide) rfl wf_X0_60 dX0_stand_127 ?_
              refine z_top (y := τ 0 (3)) rfl ?_
              refine z_iconst C (v := nI (1)) (by decide) dX0_stand_130 ?_
              refine z_iadd C dX0_stand_131 ?_
              refine z_putI C (B' := [(shF a cI cZ, (zU (zU τ 5 (b) (nI (2))) 0 (3) (τ 0 (3) + nI (1))))]) wu_X0 tyX0_ok nmX0 0 rfl 0 rfl rfl 3 (by decide) rfl wf_X0_60 rfl (by decide +kernel) dX0_stand_132 rfl ?_
              rw [hQ]; exact z_vret C hr dX0_stand_135 ⟨rfl, congrArg (fun x => [(shF a cI cZ, x)]) (by rw [fl_stand, ← hres]; (first | rw [fl_ask_stop _ _ _ _ _ c_65] | rw [fl_ask_end _ _ _ _ _ c_55]); first | exact (if_pos ⟨c_107, of_decide_eq_true c_115⟩).symm | exact (if_neg (fun q => absurd q.2 (of_decide_eq_false c_115))).symm | exact (if_neg (fun q => c_107 q.1)).symm)⟩
        · refine z_iload_n C dX0_stand_68 rfl 0 rfl ?_
          refine z_iload_n C dX0_stand_69 rfl 2 rfl ?_
          refine z_icmp_eqN C (tgt := 94) dX0_stand_70 (by decide) (by omega) (by omega) (fun c_70 => ?_) (fun c_70 => ?_)
          · refine z_iinc C (L' := [(3, .int (nI (o + 1))), (2, .int (nI (v))), (1, .int (nI (b))), (0, .ref (a 0))]) dX0_stand_94 0 rfl (z_inc1 _) (by decide) rfl ?_
            refine z_goto C (tgt := 50) dX0_stand_97 (by decide) ?_
            refine z_sub (L' := [(3, .int (nI (o + 1))), (2, .int (nI (v))), (1, .int (nI (b))), (0, .ref (a 0))]) [0, 1, 2, 3] rfl ?_
            exact ih_50 (o + 1) _ _ (by omega) (by omega) (Eq.trans (by rw [fl_ask_go n b o v τ (by omega) c_65]; simp [c_70]) hres) hτ (by omega)
          · refine z_aload_n C dX0_stand_73 rfl 3 rfl ?_
            refine z_iload_n C dX0_stand_74 rfl 2 rfl ?_
            refine z_iload_n C dX0_stand_75 rfl 0 rfl ?_
            refine z_cV C (st' := [.int (zb (fl_hear τ b o))]) (B' := [(shF a cI cZ, τ)]) [true] rfl (c_X0_hear l D cI cZ cJ a τ n hτ b o (by omega) (by omega)) wq_yX0_hear wm_X0_99 ⟨wn_yX0_hear, wo_yX0_hear⟩ ⟨rfl, rfl, Nat.le_of_ble_eq_true rfl, Nat.le_of_ble_eq_true rfl⟩ 0 rfl 0 rfl rfl rfl rfl (Nat.le_of_ble_eq_true rfl) dX0_stand_76 ⟨Nat.le_of_ble_eq_true rfl, Nat.le_of_ble_eq_true rfl⟩ rfl rfl ?_
            refine z_if_eqB C (tgt := 94) dX0_stand_79 (by decide) (fun c_79 => ?_) (fun c_79 => ?_)
            · refine z_iinc C (L' := [(3, .int (nI (o + 1))), (2, .int (nI (v))), (1, .int (nI (b))), (0, .ref (a 0))]) dX0_stand_94 0 rfl (z_inc1 _) (by decide) rfl ?_
              refine z_goto C (tgt := 50) dX0_stand_97 (by decide) ?_
              refine z_sub (L' := [(3, .int (nI (o + 1))), (2, .int (nI (v))), (1, .int (nI (b))), (0, .ref (a 0))]) [0, 1, 2, 3] rfl ?_
              exact ih_50 (o + 1) _ _ (by omega) (by omega) (Eq.trans (by rw [fl_ask_go n b o v τ (by omega) c_65]; simp [c_70, c_79]) hres) hτ (by omega)
            · refine z_aload_n C dX0_stand_82 rfl 3 rfl ?_
              refine z_iload_n C dX0_stand_83 rfl 2 rfl ?_
              refine z_iload_n C dX0_stand_84 rfl 0 rfl ?_
              have hi_1 : fl_Iv n (fl_votS τ b o) := fl_votS_Iv hτ _ _
              refine z_cV C (st' := [.int (zb (fl_votB τ b o))]) (B' := [(shF a cI cZ, (fl_votS τ b o))]) [true] rfl (c_X0_givesVote l D cI cZ cJ a τ n hτ b o (by omega) (by omega)) wq_yX0_givesVote wm_X0_103 ⟨wn_yX0_givesVote, wo_yX0_givesVote⟩ ⟨rfl, rfl, Nat.le_of_ble_eq_true rfl, Nat.le_of_ble_eq_true rfl⟩ 0 rfl 0 rfl rfl rfl rfl (Nat.le_of_ble_eq_true rfl) dX0_stand_85 ⟨Nat.le_of_ble_eq_true rfl, Nat.le_of_ble_eq_true rfl⟩ rfl rfl ?_
              refine z_if_eqB C (tgt := 94) dX0_stand_88 (by decide) (fun c_88 => ?_) (fun c_88 => ?_)
              · refine z_iinc C (L' := [(3, .int (nI (o + 1))), (2, .int (nI (v))), (1, .int (nI (b))), (0, .ref (a 0))]) dX0_stand_94 0 rfl (z_inc1 _) (by decide) rfl ?_
                refine z_goto C (tgt := 50) dX0_stand_97 (by decide) ?_
                refine z_sub (L' := [(3, .int (nI (o + 1))), (2, .int (nI (v))), (1, .int (nI (b))), (0, .ref (a 0))]) [0, 1, 2, 3] rfl ?_
                exact ih_50 (o + 1) _ _ (by omega) (by omega) (Eq.trans (by rw [fl_ask_go n b o v τ (by omega) c_65]; simp [c_70, c_79, c_88]) hres) hi_1 (by omega)
              · refine z_iinc C (L' := [(2, .int (nI (v + 1))), (3, .int (nI (o))), (1, .int (nI (b))), (0, .ref (a 0))]) dX0_stand_91 1 rfl (z_inc1 _) (by decide) rfl ?_
                refine z_iinc C (L' := [(3, .int (nI (o + 1))), (2, .int (nI (v + 1))), (1, .int (nI (b))), (0, .ref (a 0))]) dX0_stand_94 1 rfl (z_inc1 _) (by decide) rfl ?_
                refine z_goto C (tgt := 50) dX0_stand_97 (by decide) ?_
                refine z_sub (L' := [(3, .int (nI (o + 1))), (2, .int (nI (v + 1))), (1, .int (nI (b))), (0, .ref (a 0))]) [0, 1, 2, 3] rfl ?_
                exact ih_50 (o + 1) _ _ (by omega) (by omega) (Eq.trans (by rw [fl_ask_go n b o v τ (by omega) c_65]; simp [c_70, c_79, c_88]) hres) hi_1 (by omega)
  refine z_sub (L' := [(3, .int (nI (0))), (2, .int (nI (1))), (1, .int (nI (b))), (0, .ref (a 0))]) [0, 1, 3, 2] rfl ?_
  exact loop_50 (n + 1) 0 _ _ (by omega) (by omega) rfl (fl_std0_Iv hI b) (by omega)
set_option maxHeartbeats 4000000 in
set_option maxRecDepth 100000 in
theorem c_X0_tell (l : Launch) (D : va_G) (cI cZ cJ : ClassId) (a : Nat → Nat) (σ : zF) (n : Nat) (hI : fl_Iv n σ) (t : Nat) (o : Nat) (ht : t < n) (ho : o < n) : zM l D (tyL cI cZ cJ) yX0_tell cX0_tell 3 none (zR 3 70) [.ref (a 0), .int (nI (t)), .int (nI (o))] [(shF a cI cZ, σ)] 0 0 (fun r u => r = none ∧ u = [(shF a cI cZ, (fl_tel σ t o))]) := by
  have hn3 := hI.n3
  have hn7 := hI.n7
  refine z_of (by decide) (Nat.le_of_ble_eq_true rfl) rfl ?_
  intro p e s m args below meth c A C hr hin
  obtain ⟨Q, hQ⟩ : ∃ Q, Q = MQ below (zQ (fun r u => r = none ∧ u = [(shF a cI cZ, (fl_tel σ t o))]) D (tyL cI cZ cJ) A) args s 0 0 A := ⟨_, rfl⟩
  rw [← hQ]
  refine z_aload_n C dX0_tell_0 rfl 0 rfl ?_
  refine z_iload_n C dX0_tell_1 rfl 1 rfl ?_
  refine z_iload_n C dX0_tell_2 rfl 2 rfl ?_
  have hi_1 : fl_Iv n (fl_meet σ t o) := fl_meet_Iv hI _ _
  refine z_cV C (st' := [.int (zb (!decide (σ 3 t < σ 3 o)))]) (B' := [(shF a cI cZ, (fl_meet σ t o))]) [true] rfl (c_X0_meetTerms l D cI cZ cJ a σ n hI t o (by omega) (by omega)) wq_yX0_meetTerms wm_X0_109 ⟨wn_yX0_meetTerms, wo_yX0_meetTerms⟩ ⟨rfl, rfl, Nat.le_of_ble_eq_true rfl, Nat.le_of_ble_eq_true rfl⟩ 0 rfl 0 rfl rfl rfl rfl (Nat.le_of_ble_eq_true rfl) dX0_tell_3 ⟨Nat.le_of_ble_eq_true rfl, Nat.le_of_ble_eq_true rfl⟩ rfl rfl ?_
  refine z_if_neB C (tgt := 10) dX0_tell_6 (by decide) (fun c_6 => ?_) (fun c_6 => ?_)
  · have hg : ¬ σ 3 t < σ 3 o := fl_dk c_6
    rw [fl_meet_ge hg]
    have hi_h : fl_Iv n (fl_hof σ o (σ 3 t)) := fl_hof_Iv hI _ _
    generalize hT : fl_hof σ o (σ 3 t) = T at hi_h ⊢
    refine z_aload_n C dX0_tell_10 rfl 0 rfl ?_
    refine z_getR C wu_X0 0 rfl 0 rfl rfl 9 (by decide) rfl wf_X0_24 dX0_tell_11 ?_
    refine z_iload_n C dX0_tell_14 rfl 2 rfl ?_
    refine z_iconst C (v := nI (0)) (by decide) dX0_tell_15 ?_
    refine z_iast C (B' := [(shF a cI cZ, (zU T 5 (o) (nI (0))))]) 0 rfl 5 0 rfl rfl dX0_tell_16 (by omega) (by decide) rfl ?_
    refine z_aload_n C dX0_tell_17 rfl 0 rfl ?_
    refine z_getR C wu_X0 0 rfl 0 rfl rfl 6 (by decide) rfl wf_X0_15 dX0_tell_18 ?_
    refine z_iload_n C dX0_tell_21 rfl 2 rfl ?_
    refine z_aload_n C dX0_tell_22 rfl 0 rfl ?_
    refine z_getR C wu_X0 0 rfl 0 rfl rfl 5 (by decide) rfl wf_X0_9 dX0_tell_23 ?_
    refine z_iload_n C dX0_tell_26 rfl 2 rfl ?_
    refine z_iald C 0 rfl 1 0 rfl rfl dX0_tell_27 (by omega) (by decide) ?_
    refine z_top (y := T 1 (o)) rfl ?_
    refine z_iast C (B' := [(shF a cI cZ, (zU (zU T 5 (o) (nI (0))) 2 (o) (T 1 (o))))]) 0 rfl 2 0 rfl rfl dX0_tell_28 (by omega) (by decide) rfl ?_
    refine z_eq (B' := [(shF a cI cZ, fl_got T o)]) rfl ?_
    have hi_g := fl_got_Iv hi_h o
    refine z_aload_n C dX0_tell_29 rfl 0 rfl ?_
    refine z_getR C wu_X0 0 rfl 0 rfl rfl 12 (by decide) rfl wf_X0_37 dX0_tell_30 ?_
    refine z_iload_n C dX0_tell_33 rfl 1 rfl ?_
    refine z_iload_n C dX0_tell_34 rfl 2 rfl ?_
    have hi_2 : fl_Iv n (fl_mend ((fl_got T o)) t o) := fl_mend_Iv hi_g (by omega) (by omega)
    refine z_cV C (st' := [.int (zb (fl_cut ((fl_got T o)) t o))]) (B' := [(shF a cI cZ, (fl_mend ((fl_got T o)) t o))]) [true] rfl (c_X1_mend l D cI cZ cJ a ((fl_got T o)) n hi_g t o (by omega) (by omega)) wq_yX1_mend wm_X0_119 ⟨wn_yX1_mend, wo_yX1_mend⟩ ⟨rfl, rfl, Nat.le_of_ble_eq_true rfl, Nat.le_of_ble_eq_true rfl⟩ 0 rfl 12 rfl rfl rfl rfl (Nat.le_of_ble_eq_true rfl) dX0_tell_35 ⟨Nat.le_of_ble_eq_true rfl, Nat.le_of_ble_eq_true rfl⟩ rfl rfl ?_
    refine z_if_eqB C (tgt := 51) dX0_tell_38 (by decide) (fun c_38 => ?_) (fun c_38 => ?_)
    · refine z_aload_n C dX0_tell_51 rfl 0 rfl ?_
      refine z_getR C wu_X0 0 rfl 0 rfl rfl 12 (by decide) rfl wf_X0_37 dX0_tell_52 ?_
      refine z_iload_n C dX0_tell_55 rfl 1 rfl ?_
      refine z_iload_n C dX0_tell_56 rfl 2 rfl ?_
      have hi_3 : fl_Iv n (fl_lrn ((fl_mend ((fl_got T o)) t o)) t o) := fl_lrn_Iv hi_2 (by omega) (by omega)
      refine z_cV C (st' := []) (B' := [(shF a cI cZ, (fl_lrn ((fl_mend ((fl_got T o)) t o)) t o))]) [true] rfl (c_X1_learnCommitted l D cI cZ cJ a ((fl_mend ((fl_got T o)) t o)) n hi_2 t o (by omega) (by omega)) wq_yX1_learnCommitted wm_X0_122 ⟨wn_yX1_learnCommitted, wo_yX1_learnCommitted⟩ ⟨rfl, rfl, Nat.le_of_ble_eq_true rfl, Nat.le_of_ble_eq_true rfl⟩ 0 rfl 12 rfl rfl rfl rfl (Nat.le_of_ble_eq_true rfl) dX0_tell_57 ⟨Nat.le_of_ble_eq_true rfl, Nat.le_of_ble_eq_true rfl⟩ rfl rfl ?_
      rw [hQ]; exact z_vret C hr dX0_tell_60 ⟨rfl, congrArg (fun x => [(shF a cI cZ, x)]) (by rw [fl_tel, if_neg hg, hT, fl_telT, c_38, fl_lose_f])⟩
    · refine z_aload_n C dX0_tell_41 rfl 0 rfl ?_
      refine z_dup C rfl dX0_tell_42 ?_
      refine z_getI C wu_X0 0 rfl 0 rfl rfl 4 (by decide) rfl wf_X0_63 dX0_tell_43 ?_
      refine z_iconst C (v := nI (1)) (by decide) dX0_tell_46 ?_
      refine z_iadd C dX0_tell_47 ?_
      refine z_putI C (B' := [(shF a cI cZ, (zU (fl_mend ((fl_got T o)) t o) 0 (4) ((fl_mend ((fl_got T o)) t o) 0 (4) + nI (1))))]) wu_X0 tyX0_ok nmX0 0 rfl 0 rfl rfl 4 (by decide) rfl wf_X0_63 rfl (by decide +kernel) dX0_tell_48 rfl ?_
      refine z_aload_n C dX0_tell_51 rfl 0 rfl ?_
      refine z_getR C wu_X0 0 rfl 0 rfl rfl 12 (by decide) rfl wf_X0_37 dX0_tell_52 ?_
      refine z_iload_n C dX0_tell_55 rfl 1 rfl ?_
      refine z_iload_n C dX0_tell_56 rfl 2 rfl ?_
      have hi_4 : fl_Iv n (zU (fl_mend ((fl_got T o)) t o) 0 (4) ((fl_mend ((fl_got T o)) t o) 0 (4) + nI (1))) := (hi_2.U0 (4) ((fl_mend ((fl_got T o)) t o) 0 (4) + nI (1)) (by decide))
      have hi_5 : fl_Iv n (fl_lrn ((zU (fl_mend ((fl_got T o)) t o) 0 (4) ((fl_mend ((fl_got T o)) t o) 0 (4) + nI (1)))) t o) := fl_lrn_Iv hi_4 (by omega) (by omega)
      refine z_cV C (st' := []) (B' := [(shF a cI cZ, (fl_lrn ((zU (fl_mend ((fl_got T o)) t o) 0 (4) ((fl_mend ((fl_got T o)) t o) 0 (4) + nI (1)))) t o))]) [true] rfl (c_X1_learnCommitted l D cI cZ cJ a ((zU (fl_mend ((fl_got T o)) t o) 0 (4) ((fl_mend ((fl_got T o)) t o) 0 (4) + nI (1)))) n hi_4 t o (by omega) (by omega)) wq_yX1_learnCommitted wm_X0_122 ⟨wn_yX1_learnCommitted, wo_yX1_learnCommitted⟩ ⟨rfl, rfl, Nat.le_of_ble_eq_true rfl, Nat.le_of_ble_eq_true rfl⟩ 0 rfl 12 rfl rfl rfl rfl (Nat.le_of_ble_eq_true rfl) dX0_tell_57 ⟨Nat.le_of_ble_eq_true rfl, Nat.le_of_ble_eq_true rfl⟩ rfl rfl ?_
      rw [hQ]; exact z_vret C hr dX0_tell_60 ⟨rfl, congrArg (fun x => [(shF a cI cZ, x)]) (by rw [fl_tel, if_neg hg, hT, fl_telT, c_38, fl_lose_t])⟩
  · rw [hQ]; exact z_vret C hr dX0_tell_9 ⟨rfl, congrArg (fun x => [(shF a cI cZ, x)]) (by rw [fl_meet_lt (fl_dn c_6), fl_tel, if_pos (fl_dn c_6)])⟩
set_option maxHeartbeats 4000000 in
set_option maxRecDepth 100000 in
theorem c_X0_tellOthers (l : Launch) (D : va_G) (cI cZ cJ : ClassId) (a : Nat → Nat) (σ : zF) (n : Nat) (hI : fl_Iv n σ) (t : Nat) (ht : t < n) : zM l D (tyL cI cZ cJ) yX0_tellOthers cX0_tellOthers 3 none (zR 4 92) [.ref (a 0), .int (nI (t))] [(shF a cI cZ, σ)] 0 0 (fun r u => r = none ∧ u = [(shF a cI cZ, (fl_tells n t 0 σ))]) := by
  have hn3 := hI.n3
  have hn7 := hI.n7
  refine z_of (by decide) (Nat.le_of_ble_eq_true rfl) rfl ?_
  intro p e s m args below meth c A C hr hin
  obtain ⟨Q, hQ⟩ : ∃ Q, Q = MQ below (zQ (fun r u => r = none ∧ u = [(shF a cI cZ, (fl_tells n t 0 σ))]) D (tyL cI cZ cJ) A) args s 0 0 A := ⟨_, rfl⟩
  rw [← hQ]
  refine z_iconst C (v := nI (0)) (by decide) dX0_tellOthers_0 ?_
  refine z_istore_n C (L' := [(2, .int (nI (0))), (0, .ref (a 0)), (1, .int (nI (t)))]) dX0_tellOthers_1 rfl (by decide) rfl ?_
  have loop_2 : ∀ (k_2 o : Nat) (τ : zF), n < o + k_2 → o ≤ n → (hres : fl_tells n t o τ = fl_tells n t 0 σ) → (hτ : fl_Iv n τ) → zK p l e (zR 4 92) s m args below meth c D A 3 Q 0 0 2 [(2, .int (nI (o))), (1, .int (nI (t))), (0, .ref (a 0))] [] [(shF a cI cZ, τ)] := by
    intro k_2
    induction k_2 with
    | zero => intro o τ m1_2 m2_2; exact absurd m1_2 (by omega)
    | succ k_2 ih_2 =>
      intro o τ m1_2 m2_2 hres hτ
      refine z_iload_n C dX0_tellOthers_2 rfl 0 rfl ?_
      refine z_aload_n C dX0_tellOthers_3 rfl 2 rfl ?_
      refine z_getI C wu_X0 0 rfl 0 rfl rfl 0 (by decide) rfl wf_X0_50 dX0_tellOthers_4 ?_
      refine z_top (hτ.n0 : _ = nI n) ?_
      refine z_icmp_geN C (tgt := 46) dX0_tellOthers_7 (by decide) (by omega) (by omega) (fun c_7 => ?_) (fun c_7 => ?_)
      · rw [hQ]; exact z_vret C hr dX0_tellOthers_46 ⟨rfl, congrArg (fun x => [(shF a cI cZ, x)]) (by rw [← hres]; (first | rw [fl_tells_stop _ _ _ _ c_17] | rw [fl_tells_end _ _ _ _ c_7]))⟩
      · refine z_aload_n C dX0_tellOthers_10 rfl 2 rfl ?_
        refine z_getR C wu_X0 0 rfl 0 rfl rfl 9 (by decide) rfl wf_X0_24 dX0_tellOthers_11 ?_
        refine z_iload_n C dX0_tellOthers_14 rfl 1 rfl ?_
        refine z_iald C 0 rfl 5 0 rfl rfl dX0_tellOthers_15 (by omega) (by decide) ?_
        refine z_iconst C (v := nI (2)) (by decide) dX0_tellOthers_16 ?_
        refine z_icmp_ne C (tgt := 46) dX0_tellOthers_17 (by decide) (fun c_17 => ?_) (fun c_17 => ?_)
        · rw [hQ]; exact z_vret C hr dX0_tellOthers_46 ⟨rfl, congrArg (fun x => [(shF a cI cZ, x)]) (by rw [← hres]; (first | rw [fl_tells_stop _ _ _ _ c_17] | rw [fl_tells_end _ _ _ _ c_7]))⟩
        · refine z_iload_n C dX0_tellOthers_20 rfl 0 rfl ?_
          refine z_iload_n C dX0_tellOthers_21 rfl 1 rfl ?_
          refine z_icmp_eqN C (tgt := 40) dX0_tellOthers_22 (by decide) (by omega) (by omega) (fun c_22 => ?_) (fun c_22 => ?_)
          · refine z_iinc C (L' := [(2, .int (nI (o + 1))), (1, .int (nI (t))), (0, .ref (a 0))]) dX0_tellOthers_40 0 rfl (z_inc1 _) (by decide) rfl ?_
            refine z_goto C (tgt := 2) dX0_tellOthers_43 (by decide) ?_
            refine z_sub (L' := [(2, .int (nI (o + 1))), (1, .int (nI (t))), (0, .ref (a 0))]) [0, 1, 2] rfl ?_
            exact ih_2 (o + 1) _ (by omega) (by omega) (Eq.trans (by rw [fl_tells_go n t o τ (by omega) c_17]; simp [c_22]) hres) hτ
          · refine z_aload_n C dX0_tellOthers_25 rfl 2 rfl ?_
            refine z_iload_n C dX0_tellOthers_26 rfl 1 rfl ?_
            refine z_iload_n C dX0_tellOthers_27 rfl 0 rfl ?_
            refine z_cV C (st' := [.int (zb (fl_hear τ t o))]) (B' := [(shF a cI cZ, τ)]) [true] rfl (c_X0_hear l D cI cZ cJ a τ n hτ t o (by omega) (by omega)) wq_yX0_hear wm_X0_99 ⟨wn_yX0_hear, wo_yX0_hear⟩ ⟨rfl, rfl, Nat.le_of_ble_eq_true rfl, Nat.le_of_ble_eq_true rfl⟩ 0 rfl 0 rfl rfl rfl rfl (Nat.le_of_ble_eq_true rfl) dX0_tellOthers_28 ⟨Nat.le_of_ble_eq_true rfl, Nat.le_of_ble_eq_true rfl⟩ rfl rfl ?_
            refine z_if_eqB C (tgt := 40) dX0_tellOthers_31 (by decide) (fun c_31 => ?_) (fun c_31 => ?_)
            · refine z_iinc C (L' := [(2, .int (nI (o + 1))), (1, .int (nI (t))), (0, .ref (a 0))]) dX0_tellOthers_40 0 rfl (z_inc1 _) (by decide) rfl ?_
              refine z_goto C (tgt := 2) dX0_tellOthers_43 (by decide) ?_
              refine z_sub (L' := [(2, .int (nI (o + 1))), (1, .int (nI (t))), (0, .ref (a 0))]) [0, 1, 2] rfl ?_
              exact ih_2 (o + 1) _ (by omega) (by omega) (Eq.trans (by rw [fl_tells_go n t o τ (by omega) c_17]; simp [c_22, c_31]) hres) hτ
            · refine z_aload_n C dX0_tellOthers_34 rfl 2 rfl ?_
              refine z_iload_n C dX0_tellOthers_35 rfl 1 rfl ?_
              refine z_iload_n C dX0_tellOthers_36 rfl 0 rfl ?_
              have hi_1 : fl_Iv n (fl_tel τ t o) := fl_tel_Iv hτ (by omega) (by omega)
              refine z_cV C (st' := []) (B' := [(shF a cI cZ, (fl_tel τ t o))]) [true] rfl (c_X0_tell l D cI cZ cJ a τ n hτ t o (by omega) (by omega)) wq_yX0_tell wm_X0_115 ⟨wn_yX0_tell, wo_yX0_tell⟩ ⟨rfl, rfl, Nat.le_of_ble_eq_true rfl, Nat.le_of_ble_eq_true rfl⟩ 0 rfl 0 rfl rfl rfl rfl (Nat.le_of_ble_eq_true rfl) dX0_tellOthers_37 ⟨Nat.le_of_ble_eq_true rfl, Nat.le_of_ble_eq_true rfl⟩ rfl rfl ?_
              refine z_iinc C (L' := [(2, .int (nI (o + 1))), (1, .int (nI (t))), (0, .ref (a 0))]) dX0_tellOthers_40 0 rfl (z_inc1 _) (by decide) rfl ?_
              refine z_goto C (tgt := 2) dX0_tellOthers_43 (by decide) ?_
              refine z_sub (L' := [(2, .int (nI (o + 1))), (1, .int (nI (t))), (0, .ref (a 0))]) [0, 1, 2] rfl ?_
              exact ih_2 (o + 1) _ (by omega) (by omega) (Eq.trans (by rw [fl_tells_go n t o τ (by omega) c_17]; simp [c_22, c_31]) hres) hi_1
  refine z_sub (L' := [(2, .int (nI (0))), (1, .int (nI (t))), (0, .ref (a 0))]) [0, 2, 1] rfl ?_
  exact loop_2 (n + 1) 0 _ (by omega) (by omega) rfl hI
set_option maxHeartbeats 4000000 in
set_option maxRecDepth 100000 in
theorem c_X0_hearersThatAgree (l : Launch) (D : va_G) (cI cZ cJ : ClassId) (a : Nat → Nat) (σ : zF) (n : Nat) (hI : fl_Iv n σ) (b : Nat) (k : Nat) (hb : b < n) (hk : k < 2 ^ 31) : zM l D (tyL cI cZ cJ) yX0_hearersThatAgree cX0_hearersThatAgree 5 (some .int) (zR 2 47) [.ref (a 0), .int (nI (b)), .int (nI (k))] [(shF a cI cZ, σ)] 0 0 (fun r u => r = some (.int (nI (fl_cnt n σ b k))) ∧ u = [(shF a cI cZ, σ)]) := by
  have hn3 := hI.n3
  have hn7 := hI.n7
  refine z_of (by decide) (Nat.le_of_ble_eq_true rfl) rfl ?_
  intro p e s m args below meth c A C hr hin
  obtain ⟨Q, hQ⟩ : ∃ Q, Q = MQ below (zQ (fun r u => r = some (.int (nI (fl_cnt n σ b k))) ∧ u = [(shF a cI cZ, σ)]) D (tyL cI cZ cJ) A) args s 0 0 A := ⟨_, rfl⟩
  rw [← hQ]
  refine z_iconst C (v := nI (0)) (by decide) dX0_hearersThatAgree_0 ?_
  refine z_istore_n C (L' := [(3, .int (nI (0))), (0, .ref (a 0)), (1, .int (nI (b))), (2, .int (nI (k)))]) dX0_hearersThatAgree_1 rfl (by decide) rfl ?_
  refine z_iconst C (v := nI (0)) (by decide) dX0_hearersThatAgree_2 ?_
  refine z_istore C (L' := [(4, .int (nI (0))), (3, .int (nI (0))), (0, .ref (a 0)), (1, .int (nI (b))), (2, .int (nI (k)))]) dX0_hearersThatAgree_3 (by decide) rfl ?_
  have loop_5 : ∀ (k_5 o : Nat) (v : Nat), n < o + k_5 → o ≤ n → (hv : v = fl_ct (fl_agrees σ b k) o) → zK p l e (zR 2 47) s m args below meth c D A 5 Q 0 0 5 [(4, .int (nI (o))), (3, .int (nI (v))), (2, .int (nI (k))), (1, .int (nI (b))), (0, .ref (a 0))] [] [(shF a cI cZ, σ)] := by
    intro k_5
    induction k_5 with
    | zero => intro o v m1_5 m2_5; exact absurd m1_5 (by omega)
    | succ k_5 ih_5 =>
      intro o v m1_5 m2_5 hv
      refine z_iload C dX0_hearersThatAgree_5 0 rfl ?_
      refine z_aload_n C dX0_hearersThatAgree_7 rfl 4 rfl ?_
      refine z_getI C wu_X0 0 rfl 0 rfl rfl 0 (by decide) rfl wf_X0_50 dX0_hearersThatAgree_8 ?_
      refine z_top (hI.n0 : _ = nI n) ?_
      refine z_icmp_geN C (tgt := 47) dX0_hearersThatAgree_11 (by decide) (by omega) (by omega) (fun c_11 => ?_) (fun c_11 => ?_)
      · refine z_iload_n C dX0_hearersThatAgree_47 rfl 1 rfl ?_
        rw [hQ]; exact z_iret C hr dX0_hearersThatAgree_48 ⟨congrArg (fun x => some (Value.int (nI x))) (by rw [hv, show o = n by omega]; try rfl), rfl⟩
      · refine z_aload_n C dX0_hearersThatAgree_14 rfl 4 rfl ?_
        refine z_iload_n C dX0_hearersThatAgree_15 rfl 3 rfl ?_
        refine z_iload C dX0_hearersThatAgree_16 0 rfl ?_
        refine z_cV C (st' := [.int (zb (fl_hear σ b o))]) (B' := [(shF a cI cZ, σ)]) [true] rfl (c_X0_hear l D cI cZ cJ a σ n hI b o (by omega) (by omega)) wq_yX0_hear wm_X0_99 ⟨wn_yX0_hear, wo_yX0_hear⟩ ⟨rfl, rfl, Nat.le_of_ble_eq_true rfl, Nat.le_of_ble_eq_true rfl⟩ 0 rfl 0 rfl rfl rfl rfl (Nat.le_of_ble_eq_true rfl) dX0_hearersThatAgree_18 ⟨Nat.le_of_ble_eq_true rfl, Nat.le_of_ble_eq_true rfl⟩ rfl rfl ?_
        refine z_if_eqB C (tgt := 41) dX0_hearersThatAgree_21 (by decide) (fun c_21 => ?_) (fun c_21 => ?_)
        · refine z_iinc C (L' := [(4, .int (nI (o + 1))), (3, .int (nI (v))), (2, .int (nI (k))), (1, .int (nI (b))), (0, .ref (a 0))]) dX0_hearersThatAgree_41 0 rfl (z_inc1 _) (by decide) rfl ?_
          refine z_goto C (tgt := 5) dX0_hearersThatAgree_44 (by decide) ?_
          refine z_sub (L' := [(4, .int (nI (o + 1))), (3, .int (nI (v))), (2, .int (nI (k))), (1, .int (nI (b))), (0, .ref (a 0))]) [0, 1, 2, 3, 4] rfl ?_
          exact ih_5 (o + 1) _ (by omega) (by omega) (by rw [fl_ct, ← hv]; simp [fl_agrees, Nat.not_le.mpr, c_21])
        · refine z_aload_n C dX0_hearersThatAgree_24 rfl 4 rfl ?_
          refine z_getR C wu_X0 0 rfl 0 rfl rfl 12 (by decide) rfl wf_X0_37 dX0_hearersThatAgree_25 ?_
          refine z_iload_n C dX0_hearersThatAgree_28 rfl 3 rfl ?_
          refine z_iload C dX0_hearersThatAgree_29 0 rfl ?_
          have hf_1 := fl_agr_m σ b o
          have hf_2 := hI.lnT (i := b) (by omega)
          have hf_3 := hI.lnT (i := o) (by omega)
          refine z_cV C (st' := [.int (nI (fl_agr σ b o))]) (B' := [(shF a cI cZ, σ)]) [true] rfl (c_X1_agreement l D cI cZ cJ a σ n hI b o (by omega) (by omega)) wq_yX1_agreement wm_X0_137 ⟨wn_yX1_agreement, wo_yX1_agreement⟩ ⟨rfl, rfl, Nat.le_of_ble_eq_true rfl, Nat.le_of_ble_eq_true rfl⟩ 0 rfl 12 rfl rfl rfl rfl (Nat.le_of_ble_eq_true rfl) dX0_hearersThatAgree_31 ⟨Nat.le_of_ble_eq_true rfl, Nat.le_of_ble_eq_true rfl⟩ rfl rfl ?_
          refine z_iload_n C dX0_hearersThatAgree_34 rfl 2 rfl ?_
          refine z_icmp_ltN C (tgt := 41) dX0_hearersThatAgree_35 (by decide) (by omega) (by omega) (fun c_35 => ?_) (fun c_35 => ?_)
          · refine z_iinc C (L' := [(4, .int (nI (o + 1))), (3, .int (nI (v))), (2, .int (nI (k))), (1, .int (nI (b))), (0, .ref (a 0))]) dX0_hearersThatAgree_41 0 rfl (z_inc1 _) (by decide) rfl ?_
            refine z_goto C (tgt := 5) dX0_hearersThatAgree_44 (by decide) ?_
            refine z_sub (L' := [(4, .int (nI (o + 1))), (3, .int (nI (v))), (2, .int (nI (k))), (1, .int (nI (b))), (0, .ref (a 0))]) [0, 1, 2, 3, 4] rfl ?_
            exact ih_5 (o + 1) _ (by omega) (by omega) (by rw [fl_ct, ← hv]; simp [fl_agrees, Nat.not_le.mpr, c_21, c_35])
          · refine z_iinc C (L' := [(3, .int (nI (v + 1))), (4, .int (nI (o))), (2, .int (nI (k))), (1, .int (nI (b))), (0, .ref (a 0))]) dX0_hearersThatAgree_38 1 rfl (z_inc1 _) (by decide) rfl ?_
            refine z_iinc C (L' := [(4, .int (nI (o + 1))), (3, .int (nI (v + 1))), (2, .int (nI (k))), (1, .int (nI (b))), (0, .ref (a 0))]) dX0_hearersThatAgree_41 1 rfl (z_inc1 _) (by decide) rfl ?_
            refine z_goto C (tgt := 5) dX0_hearersThatAgree_44 (by decide) ?_
            refine z_sub (L' := [(4, .int (nI (o + 1))), (3, .int (nI (v + 1))), (2, .int (nI (k))), (1, .int (nI (b))), (0, .ref (a 0))]) [0, 1, 2, 3, 4] rfl ?_
            exact ih_5 (o + 1) _ (by omega) (by omega) (by rw [fl_ct, ← hv]; simp [fl_agrees, Nat.not_le.mpr, c_21, c_35])
  refine z_sub (L' := [(4, .int (nI (0))), (3, .int (nI (0))), (2, .int (nI (k))), (1, .int (nI (b))), (0, .ref (a 0))]) [0, 1, 4, 3, 2] rfl ?_
  exact loop_5 (n + 1) 0 _ (by omega) (by omega) rfl
set_option maxHeartbeats 4000000 in
set_option maxRecDepth 100000 in
theorem c_X0_upIn (l : Launch) (D : va_G) (cI cZ cJ : ClassId) (a : Nat → Nat) (σ : zF) (n : Nat) (hI : fl_Iv n σ) (h : Int32) : zM l D (tyL cI cZ cJ) yX0_upIn cX0_upIn 4 (some .int) (zR 0 0) [.ref (a 0), .int (h)] [(shF a cI cZ, σ)] 0 0 (fun r u => r = some (.int (nI (fl_upIn n σ h))) ∧ u = [(shF a cI cZ, σ)]) := by
  have hn3 := hI.n3
  have hn7 := hI.n7
  refine z_of (by decide) (Nat.le_of_ble_eq_true rfl) rfl ?_
  intro p e s m args below meth c A C hr hin
  obtain ⟨Q, hQ⟩ : ∃ Q, Q = MQ below (zQ (fun r u => r = some (.int (nI (fl_upIn n σ h))) ∧ u = [(shF a cI cZ, σ)]) D (tyL cI cZ cJ) A) args s 0 0 A := ⟨_, rfl⟩
  rw [← hQ]
  refine z_iconst C (v := nI (0)) (by decide) dX0_upIn_0 ?_
  refine z_istore_n C (L' := [(2, .int (nI (0))), (0, .ref (a 0)), (1, .int (h))]) dX0_upIn_1 rfl (by decide) rfl ?_
  refine z_iconst C (v := nI (0)) (by decide) dX0_upIn_2 ?_
  refine z_istore_n C (L' := [(3, .int (nI (0))), (2, .int (nI (0))), (0, .ref (a 0)), (1, .int (h))]) dX0_upIn_3 rfl (by decide) rfl ?_
  have loop_4 : ∀ (k_4 o : Nat) (v : Nat), n < o + k_4 → o ≤ n → (hv : v = fl_ct (fun b => decide (¬ σ 7 b = 0 ∧ σ 6 b = h)) o) → zK p l e (zR 0 0) s m args below meth c D A 4 Q 0 0 4 [(3, .int (nI (o))), (2, .int (nI (v))), (1, .int (h)), (0, .ref (a 0))] [] [(shF a cI cZ, σ)] := by
    intro k_4
    induction k_4 with
    | zero => intro o v m1_4 m2_4; exact absurd m1_4 (by omega)
    | succ k_4 ih_4 =>
      intro o v m1_4 m2_4 hv
      refine z_iload_n C dX0_upIn_4 rfl 0 rfl ?_
      refine z_aload_n C dX0_upIn_5 rfl 3 rfl ?_
      refine z_getI C wu_X0 0 rfl 0 rfl rfl 0 (by decide) rfl wf_X0_50 dX0_upIn_6 ?_
      refine z_top (hI.n0 : _ = nI n) ?_
      refine z_icmp_geN C (tgt := 40) dX0_upIn_9 (by decide) (by omega) (by omega) (fun c_9 => ?_) (fun c_9 => ?_)
      · refine z_iload_n C dX0_upIn_40 rfl 1 rfl ?_
        rw [hQ]; exact z_iret C hr dX0_upIn_41 ⟨congrArg (fun x => some (Value.int (nI x))) (by rw [hv, show o = n by omega]; try rfl), rfl⟩
      · refine z_aload_n C dX0_upIn_12 rfl 3 rfl ?_
        refine z_getR C wu_X0 0 rfl 0 rfl rfl 11 (by decide) rfl wf_X0_30 dX0_upIn_13 ?_
        refine z_iload_n C dX0_upIn_16 rfl 0 rfl ?_
        refine z_zald C 0 rfl 7 1 rfl rfl dX0_upIn_17 (by omega) (by decide) ?_
        refine z_if_eq C (tgt := 34) dX0_upIn_18 (by decide) (fun c_18 => ?_) (fun c_18 => ?_)
        · refine z_iinc C (L' := [(3, .int (nI (o + 1))), (2, .int (nI (v))), (1, .int (h)), (0, .ref (a 0))]) dX0_upIn_34 0 rfl (z_inc1 _) (by decide) rfl ?_
          refine z_goto C (tgt := 4) dX0_upIn_37 (by decide) ?_
          refine z_sub (L' := [(3, .int (nI (o + 1))), (2, .int (nI (v))), (1, .int (h)), (0, .ref (a 0))]) [0, 1, 2, 3] rfl ?_
          exact ih_4 (o + 1) _ (by omega) (by omega) (by rw [fl_ct, ← hv]; simp [Nat.not_le.mpr, c_18])
        · refine z_aload_n C dX0_upIn_21 rfl 3 rfl ?_
          refine z_getR C wu_X0 0 rfl 0 rfl rfl 10 (by decide) rfl wf_X0_27 dX0_upIn_22 ?_
          refine z_iload_n C dX0_upIn_25 rfl 0 rfl ?_
          refine z_iald C 0 rfl 6 0 rfl rfl dX0_upIn_26 (by omega) (by decide) ?_
          refine z_iload_n C dX0_upIn_27 rfl 2 rfl ?_
          refine z_icmp_ne C (tgt := 34) dX0_upIn_28 (by decide) (fun c_28 => ?_) (fun c_28 => ?_)
          · refine z_iinc C (L' := [(3, .int (nI (o + 1))), (2, .int (nI (v))), (1, .int (h)), (0, .ref (a 0))]) dX0_upIn_34 0 rfl (z_inc1 _) (by decide) rfl ?_
            refine z_goto C (tgt := 4) dX0_upIn_37 (by decide) ?_
            refine z_sub (L' := [(3, .int (nI (o + 1))), (2, .int (nI (v))), (1, .int (h)), (0, .ref (a 0))]) [0, 1, 2, 3] rfl ?_
            exact ih_4 (o + 1) _ (by omega) (by omega) (by rw [fl_ct, ← hv]; simp [Nat.not_le.mpr, c_18, c_28])
          · refine z_iinc C (L' := [(2, .int (nI (v + 1))), (3, .int (nI (o))), (1, .int (h)), (0, .ref (a 0))]) dX0_upIn_31 1 rfl (z_inc1 _) (by decide) rfl ?_
            refine z_iinc C (L' := [(3, .int (nI (o + 1))), (2, .int (nI (v + 1))), (1, .int (h)), (0, .ref (a 0))]) dX0_upIn_34 1 rfl (z_inc1 _) (by decide) rfl ?_
            refine z_goto C (tgt := 4) dX0_upIn_37 (by decide) ?_
            refine z_sub (L' := [(3, .int (nI (o + 1))), (2, .int (nI (v + 1))), (1, .int (h)), (0, .ref (a 0))]) [0, 1, 2, 3] rfl ?_
            exact ih_4 (o + 1) _ (by omega) (by omega) (by rw [fl_ct, ← hv]; simp [Nat.not_le.mpr, c_18, c_28])
  refine z_sub (L' := [(3, .int (nI (0))), (2, .int (nI (0))), (1, .int (h)), (0, .ref (a 0))]) [0, 1, 3, 2] rfl ?_
  exact loop_4 (n + 1) 0 _ (by omega) (by omega) rfl
set_option maxHeartbeats 4000000 in
set_option maxRecDepth 100000 in
theorem c_X0_boatsThatAgree (l : Launch) (D : va_G) (cI cZ cJ : ClassId) (a : Nat → Nat) (σ : zF) (n : Nat) (hI : fl_Iv n σ) (b : Nat) (k : Nat) (hb : b < n) (hk : k < 2 ^ 31) : zM l D (tyL cI cZ cJ) yX0_boatsThatAgree cX0_boatsThatAgree 5 (some .int) (zR 2 47) [.ref (a 0), .int (nI (b)), .int (nI (k))] [(shF a cI cZ, σ)] 0 0 (fun r u => r = some (.int (nI (fl_ct (fun o => decide (k ≤ fl_agr σ b o)) n))) ∧ u = [(shF a cI cZ, σ)]) := by
  have hn3 := hI.n3
  have hn7 := hI.n7
  refine z_of (by decide) (Nat.le_of_ble_eq_true rfl) rfl ?_
  intro p e s m args below meth c A C hr hin
  obtain ⟨Q, hQ⟩ : ∃ Q, Q = MQ below (zQ (fun r u => r = some (.int (nI (fl_ct (fun o => decide (k ≤ fl_agr σ b o)) n))) ∧ u = [(shF a cI cZ, σ)]) D (tyL cI cZ cJ) A) args s 0 0 A := ⟨_, rfl⟩
  rw [← hQ]
  refine z_iconst C (v := nI (0)) (by decide) dX0_boatsThatAgree_0 ?_
  refine z_istore_n C (L' := [(3, .int (nI (0))), (0, .ref (a 0)), (1, .int (nI (b))), (2, .int (nI (k)))]) dX0_boatsThatAgree_1 rfl (by decide) rfl ?_
  refine z_iconst C (v := nI (0)) (by decide) dX0_boatsThatAgree_2 ?_
  refine z_istore C (L' := [(4, .int (nI (0))), (3, .int (nI (0))), (0, .ref (a 0)), (1, .int (nI (b))), (2, .int (nI (k)))]) dX0_boatsThatAgree_3 (by decide) rfl ?_
  have loop_5 : ∀ (k_5 o : Nat) (v : Nat), n < o + k_5 → o ≤ n → (hv : v = fl_ct (fun o => decide (k ≤ fl_agr σ b o)) o) → zK p l e (zR 2 47) s m args below meth c D A 5 Q 0 0 5 [(4, .int (nI (o))), (3, .int (nI (v))), (2, .int (nI (k))), (1, .int (nI (b))), (0, .ref (a 0))] [] [(shF a cI cZ, σ)] := by
    intro k_5
    induction k_5 with
    | zero => intro o v m1_5 m2_5; exact absurd m1_5 (by omega)
    | succ k_5 ih_5 =>
      intro o v m1_5 m2_5 hv
      refine z_iload C dX0_boatsThatAgree_5 0 rfl ?_
      refine z_aload_n C dX0_boatsThatAgree_7 rfl 4 rfl ?_
      refine z_getI C wu_X0 0 rfl 0 rfl rfl 0 (by decide) rfl wf_X0_50 dX0_boatsThatAgree_8 ?_
      refine z_top (hI.n0 : _ = nI n) ?_
      refine z_icmp_geN C (tgt := 37) dX0_boatsThatAgree_11 (by decide) (by omega) (by omega) (fun c_11 => ?_) (fun c_11 => ?_)
      · refine z_iload_n C dX0_boatsThatAgree_37 rfl 1 rfl ?_
        rw [hQ]; exact z_iret C hr dX0_boatsThatAgree_38 ⟨congrArg (fun x => some (Value.int (nI x))) (by rw [hv, show o = n by omega]; try rfl), rfl⟩
      · refine z_aload_n C dX0_boatsThatAgree_14 rfl 4 rfl ?_
        refine z_getR C wu_X0 0 rfl 0 rfl rfl 12 (by decide) rfl wf_X0_37 dX0_boatsThatAgree_15 ?_
        refine z_iload_n C dX0_boatsThatAgree_18 rfl 3 rfl ?_
        refine z_iload C dX0_boatsThatAgree_19 0 rfl ?_
        have hf_1 := fl_agr_m σ b o
        have hf_2 := hI.lnT (i := b) (by omega)
        have hf_3 := hI.lnT (i := o) (by omega)
        refine z_cV C (st' := [.int (nI (fl_agr σ b o))]) (B' := [(shF a cI cZ, σ)]) [true] rfl (c_X1_agreement l D cI cZ cJ a σ n hI b o (by omega) (by omega)) wq_yX1_agreement wm_X0_137 ⟨wn_yX1_agreement, wo_yX1_agreement⟩ ⟨rfl, rfl, Nat.le_of_ble_eq_true rfl, Nat.le_of_ble_eq_true rfl⟩ 0 rfl 12 rfl rfl rfl rfl (Nat.le_of_ble_eq_true rfl) dX0_boatsThatAgree_21 ⟨Nat.le_of_ble_eq_true rfl, Nat.le_of_ble_eq_true rfl⟩ rfl rfl ?_
        refine z_iload_n C dX0_boatsThatAgree_24 rfl 2 rfl ?_
        refine z_icmp_ltN C (tgt := 31) dX0_boatsThatAgree_25 (by decide) (by omega) (by omega) (fun c_25 => ?_) (fun c_25 => ?_)
        · refine z_iinc C (L' := [(4, .int (nI (o + 1))), (3, .int (nI (v))), (2, .int (nI (k))), (1, .int (nI (b))), (0, .ref (a 0))]) dX0_boatsThatAgree_31 0 rfl (z_inc1 _) (by decide) rfl ?_
          refine z_goto C (tgt := 5) dX0_boatsThatAgree_34 (by decide) ?_
          refine z_sub (L' := [(4, .int (nI (o + 1))), (3, .int (nI (v))), (2, .int (nI (k))), (1, .int (nI (b))), (0, .ref (a 0))]) [0, 1, 2, 3, 4] rfl ?_
          exact ih_5 (o + 1) _ (by omega) (by omega) (by rw [fl_ct, ← hv]; simp [Nat.not_le.mpr, c_25])
        · refine z_iinc C (L' := [(3, .int (nI (v + 1))), (4, .int (nI (o))), (2, .int (nI (k))), (1, .int (nI (b))), (0, .ref (a 0))]) dX0_boatsThatAgree_28 1 rfl (z_inc1 _) (by decide) rfl ?_
          refine z_iinc C (L' := [(4, .int (nI (o + 1))), (3, .int (nI (v + 1))), (2, .int (nI (k))), (1, .int (nI (b))), (0, .ref (a 0))]) dX0_boatsThatAgree_31 1 rfl (z_inc1 _) (by decide) rfl ?_
          refine z_goto C (tgt := 5) dX0_boatsThatAgree_34 (by decide) ?_
          refine z_sub (L' := [(4, .int (nI (o + 1))), (3, .int (nI (v + 1))), (2, .int (nI (k))), (1, .int (nI (b))), (0, .ref (a 0))]) [0, 1, 2, 3, 4] rfl ?_
          exact ih_5 (o + 1) _ (by omega) (by omega) (by rw [fl_ct, ← hv]; simp [Nat.not_le.mpr, c_25])
  refine z_sub (L' := [(4, .int (nI (0))), (3, .int (nI (0))), (2, .int (nI (k))), (1, .int (nI (b))), (0, .ref (a 0))]) [0, 1, 4, 3, 2] rfl ?_
  exact loop_5 (n + 1) 0 _ (by omega) (by omega) rfl
set_option maxHeartbeats 4000000 in
set_option maxRecDepth 100000 in
theorem c_X0_boatsUp (l : Launch) (D : va_G) (cI cZ cJ : ClassId) (a : Nat → Nat) (σ : zF) (n : Nat) (hI : fl_Iv n σ) : zM l D (tyL cI cZ cJ) yX0_boatsUp cX0_boatsUp 3 (some .int) (zR 0 0) [.ref (a 0)] [(shF a cI cZ, σ)] 0 0 (fun r u => r = some (.int (nI (fl_ct (fun b => decide (¬ σ 7 b = 0)) n))) ∧ u = [(shF a cI cZ, σ)]) := by
  have hn3 := hI.n3
  have hn7 := hI.n7
  refine z_of (by decide) (Nat.le_of_ble_eq_true rfl) rfl ?_
  intro p e s m args below meth c A C hr hin
  obtain ⟨Q, hQ⟩ : ∃ Q, Q = MQ below (zQ (fun r u => r = some (.int (nI (fl_ct (fun b => decide (¬ σ 7 b = 0)) n))) ∧ u = [(shF a cI cZ, σ)]) D (tyL cI cZ cJ) A) args s 0 0 A := ⟨_, rfl⟩
  rw [← hQ]
  refine z_iconst C (v := nI (0)) (by decide) dX0_boatsUp_0 ?_
  refine z_istore_n C (L' := [(1, .int (nI (0))), (0, .ref (a 0))]) dX0_boatsUp_1 rfl (by decide) rfl ?_
  refine z_iconst C (v := nI (0)) (by decide) dX0_boatsUp_2 ?_
  refine z_istore_n C (L' := [(2, .int (nI (0))), (1, .int (nI (0))), (0, .ref (a 0))]) dX0_boatsUp_3 rfl (by decide) rfl ?_
  have loop_4 : ∀ (k_4 o : Nat) (v : Nat), n < o + k_4 → o ≤ n → (hv : v = fl_ct (fun b => decide (¬ σ 7 b = 0)) o) → zK p l e (zR 0 0) s m args below meth c D A 3 Q 0 0 4 [(2, .int (nI (o))), (1, .int (nI (v))), (0, .ref (a 0))] [] [(shF a cI cZ, σ)] := by
    intro k_4
    induction k_4 with
    | zero => intro o v m1_4 m2_4; exact absurd m1_4 (by omega)
    | succ k_4 ih_4 =>
      intro o v m1_4 m2_4 hv
      refine z_iload_n C dX0_boatsUp_4 rfl 0 rfl ?_
      refine z_aload_n C dX0_boatsUp_5 rfl 2 rfl ?_
      refine z_getI C wu_X0 0 rfl 0 rfl rfl 0 (by decide) rfl wf_X0_50 dX0_boatsUp_6 ?_
      refine z_top (hI.n0 : _ = nI n) ?_
      refine z_icmp_geN C (tgt := 30) dX0_boatsUp_9 (by decide) (by omega) (by omega) (fun c_9 => ?_) (fun c_9 => ?_)
      · refine z_iload_n C dX0_boatsUp_30 rfl 1 rfl ?_
        rw [hQ]; exact z_iret C hr dX0_boatsUp_31 ⟨congrArg (fun x => some (Value.int (nI x))) (by rw [hv, show o = n by omega]; try rfl), rfl⟩
      · refine z_aload_n C dX0_boatsUp_12 rfl 2 rfl ?_
        refine z_getR C wu_X0 0 rfl 0 rfl rfl 11 (by decide) rfl wf_X0_30 dX0_boatsUp_13 ?_
        refine z_iload_n C dX0_boatsUp_16 rfl 0 rfl ?_
        refine z_zald C 0 rfl 7 1 rfl rfl dX0_boatsUp_17 (by omega) (by decide) ?_
        refine z_if_eq C (tgt := 24) dX0_boatsUp_18 (by decide) (fun c_18 => ?_) (fun c_18 => ?_)
        · refine z_iinc C (L' := [(2, .int (nI (o + 1))), (1, .int (nI (v))), (0, .ref (a 0))]) dX0_boatsUp_24 0 rfl (z_inc1 _) (by decide) rfl ?_
          refine z_goto C (tgt := 4) dX0_boatsUp_27 (by decide) ?_
          refine z_sub (L' := [(2, .int (nI (o + 1))), (1, .int (nI (v))), (0, .ref (a 0))]) [0, 1, 2] rfl ?_
          exact ih_4 (o + 1) _ (by omega) (by omega) (by rw [fl_ct, ← hv]; simp [Nat.not_le.mpr, c_18])
        · refine z_iinc C (L' := [(1, .int (nI (v + 1))), (2, .int (nI (o))), (0, .ref (a 0))]) dX0_boatsUp_21 1 rfl (z_inc1 _) (by decide) rfl ?_
          refine z_iinc C (L' := [(2, .int (nI (o + 1))), (1, .int (nI (v + 1))), (0, .ref (a 0))]) dX0_boatsUp_24 1 rfl (z_inc1 _) (by decide) rfl ?_
          refine z_goto C (tgt := 4) dX0_boatsUp_27 (by decide) ?_
          refine z_sub (L' := [(2, .int (nI (o + 1))), (1, .int (nI (v + 1))), (0, .ref (a 0))]) [0, 1, 2] rfl ?_
          exact ih_4 (o + 1) _ (by omega) (by omega) (by rw [fl_ct, ← hv]; simp [Nat.not_le.mpr, c_18])
  refine z_sub (L' := [(2, .int (nI (0))), (1, .int (nI (0))), (0, .ref (a 0))]) [0, 1, 2] rfl ?_
  exact loop_4 (n + 1) 0 _ (by omega) (by omega) rfl
set_option maxHeartbeats 4000000 in
set_option maxRecDepth 100000 in
theorem c_X0_boatsLeading (l : Launch) (D : va_G) (cI cZ cJ : ClassId) (a : Nat → Nat) (σ : zF) (n : Nat) (hI : fl_Iv n σ) : zM l D (tyL cI cZ cJ) yX0_boatsLeading cX0_boatsLeading 3 (some .int) (zR 1 21) [.ref (a 0)] [(shF a cI cZ, σ)] 0 0 (fun r u => r = some (.int (nI (fl_ct (fl_lead σ) n))) ∧ u = [(shF a cI cZ, σ)]) := by
  have hn3 := hI.n3
  have hn7 := hI.n7
  refine z_of (by decide) (Nat.le_of_ble_eq_true rfl) rfl ?_
  intro p e s m args below meth c A C hr hin
  obtain ⟨Q, hQ⟩ : ∃ Q, Q = MQ below (zQ (fun r u => r = some (.int (nI (fl_ct (fl_lead σ) n))) ∧ u = [(shF a cI cZ, σ)]) D (tyL cI cZ cJ) A) args s 0 0 A := ⟨_, rfl⟩
  rw [← hQ]
  refine z_iconst C (v := nI (0)) (by decide) dX0_boatsLeading_0 ?_
  refine z_istore_n C (L' := [(1, .int (nI (0))), (0, .ref (a 0))]) dX0_boatsLeading_1 rfl (by decide) rfl ?_
  refine z_iconst C (v := nI (0)) (by decide) dX0_boatsLeading_2 ?_
  refine z_istore_n C (L' := [(2, .int (nI (0))), (1, .int (nI (0))), (0, .ref (a 0))]) dX0_boatsLeading_3 rfl (by decide) rfl ?_
  have loop_4 : ∀ (k_4 o : Nat) (v : Nat), n < o + k_4 → o ≤ n → (hv : v = fl_ct (fl_lead σ) o) → zK p l e (zR 1 21) s m args below meth c D A 3 Q 0 0 4 [(2, .int (nI (o))), (1, .int (nI (v))), (0, .ref (a 0))] [] [(shF a cI cZ, σ)] := by
    intro k_4
    induction k_4 with
    | zero => intro o v m1_4 m2_4; exact absurd m1_4 (by omega)
    | succ k_4 ih_4 =>
      intro o v m1_4 m2_4 hv
      refine z_iload_n C dX0_boatsLeading_4 rfl 0 rfl ?_
      refine z_aload_n C dX0_boatsLeading_5 rfl 2 rfl ?_
      refine z_getI C wu_X0 0 rfl 0 rfl rfl 0 (by decide) rfl wf_X0_50 dX0_boatsLeading_6 ?_
      refine z_top (hI.n0 : _ = nI n) ?_
      refine z_icmp_geN C (tgt := 29) dX0_boatsLeading_9 (by decide) (by omega) (by omega) (fun c_9 => ?_) (fun c_9 => ?_)
      · refine z_iload_n C dX0_boatsLeading_29 rfl 1 rfl ?_
        rw [hQ]; exact z_iret C hr dX0_boatsLeading_30 ⟨congrArg (fun x => some (Value.int (nI x))) (by rw [hv, show o = n by omega]; try rfl), rfl⟩
      · refine z_aload_n C dX0_boatsLeading_12 rfl 2 rfl ?_
        refine z_iload_n C dX0_boatsLeading_13 rfl 0 rfl ?_
        refine z_cV C (st' := [.int (zb (fl_lead σ o))]) (B' := [(shF a cI cZ, σ)]) [true] rfl (c_X0_leadsNow l D cI cZ cJ a σ n hI o (by omega)) wq_yX0_leadsNow wm_X0_89 ⟨wn_yX0_leadsNow, wo_yX0_leadsNow⟩ ⟨rfl, rfl, Nat.le_of_ble_eq_true rfl, Nat.le_of_ble_eq_true rfl⟩ 0 rfl 0 rfl rfl rfl rfl (Nat.le_of_ble_eq_true rfl) dX0_boatsLeading_14 ⟨Nat.le_of_ble_eq_true rfl, Nat.le_of_ble_eq_true rfl⟩ rfl rfl ?_
        refine z_if_eqB C (tgt := 23) dX0_boatsLeading_17 (by decide) (fun c_17 => ?_) (fun c_17 => ?_)
        · refine z_iinc C (L' := [(2, .int (nI (o + 1))), (1, .int (nI (v))), (0, .ref (a 0))]) dX0_boatsLeading_23 0 rfl (z_inc1 _) (by decide) rfl ?_
          refine z_goto C (tgt := 4) dX0_boatsLeading_26 (by decide) ?_
          refine z_sub (L' := [(2, .int (nI (o + 1))), (1, .int (nI (v))), (0, .ref (a 0))]) [0, 1, 2] rfl ?_
          exact ih_4 (o + 1) _ (by omega) (by omega) (by rw [fl_ct, ← hv]; simp [Nat.not_le.mpr, c_17])
        · refine z_iinc C (L' := [(1, .int (nI (v + 1))), (2, .int (nI (o))), (0, .ref (a 0))]) dX0_boatsLeading_20 1 rfl (z_inc1 _) (by decide) rfl ?_
          refine z_iinc C (L' := [(2, .int (nI (o + 1))), (1, .int (nI (v + 1))), (0, .ref (a 0))]) dX0_boatsLeading_23 1 rfl (z_inc1 _) (by decide) rfl ?_
          refine z_goto C (tgt := 4) dX0_boatsLeading_26 (by decide) ?_
          refine z_sub (L' := [(2, .int (nI (o + 1))), (1, .int (nI (v + 1))), (0, .ref (a 0))]) [0, 1, 2] rfl ?_
          exact ih_4 (o + 1) _ (by omega) (by omega) (by rw [fl_ct, ← hv]; simp [Nat.not_le.mpr, c_17])
  refine z_sub (L' := [(2, .int (nI (0))), (1, .int (nI (0))), (0, .ref (a 0))]) [0, 1, 2] rfl ?_
  exact loop_4 (n + 1) 0 _ (by omega) (by omega) rfl
set_option maxHeartbeats 4000000 in
set_option maxRecDepth 100000 in
theorem c_X0_greatestTerm (l : Launch) (D : va_G) (cI cZ cJ : ClassId) (a : Nat → Nat) (σ : zF) (n : Nat) (hI : fl_Iv n σ) : zM l D (tyL cI cZ cJ) yX0_greatestTerm cX0_greatestTerm 3 (some .int) (zR 1 21) [.ref (a 0)] [(shF a cI cZ, σ)] 0 0 (fun r u => r = some (.int (fl_max (σ 3) n)) ∧ u = [(shF a cI cZ, σ)]) := by
  have hn3 := hI.n3
  have hn7 := hI.n7
  refine z_of (by decide) (Nat.le_of_ble_eq_true rfl) rfl ?_
  intro p e s m args below meth c A C hr hin
  obtain ⟨Q, hQ⟩ : ∃ Q, Q = MQ below (zQ (fun r u => r = some (.int (fl_max (σ 3) n)) ∧ u = [(shF a cI cZ, σ)]) D (tyL cI cZ cJ) A) args s 0 0 A := ⟨_, rfl⟩
  rw [← hQ]
  refine z_iconst C (v := nI (0)) (by decide) dX0_greatestTerm_0 ?_
  refine z_istore_n C (L' := [(1, .int (nI (0))), (0, .ref (a 0))]) dX0_greatestTerm_1 rfl (by decide) rfl ?_
  refine z_iconst C (v := nI (0)) (by decide) dX0_greatestTerm_2 ?_
  refine z_istore_n C (L' := [(2, .int (nI (0))), (1, .int (nI (0))), (0, .ref (a 0))]) dX0_greatestTerm_3 rfl (by decide) rfl ?_
  have loop_4 : ∀ (k_4 o : Nat) (v : Int32), n < o + k_4 → o ≤ n → (hv : v = fl_max (σ 3) o) → zK p l e (zR 1 21) s m args below meth c D A 3 Q 0 0 4 [(2, .int (nI (o))), (1, .int (v)), (0, .ref (a 0))] [] [(shF a cI cZ, σ)] := by
    intro k_4
    induction k_4 with
    | zero => intro o v m1_4 m2_4; exact absurd m1_4 (by omega)
    | succ k_4 ih_4 =>
      intro o v m1_4 m2_4 hv
      refine z_iload_n C dX0_greatestTerm_4 rfl 0 rfl ?_
      refine z_aload_n C dX0_greatestTerm_5 rfl 2 rfl ?_
      refine z_getI C wu_X0 0 rfl 0 rfl rfl 0 (by decide) rfl wf_X0_50 dX0_greatestTerm_6 ?_
      refine z_top (hI.n0 : _ = nI n) ?_
      refine z_icmp_geN C (tgt := 29) dX0_greatestTerm_9 (by decide) (by omega) (by omega) (fun c_9 => ?_) (fun c_9 => ?_)
      · refine z_iload_n C dX0_greatestTerm_29 rfl 1 rfl ?_
        rw [hQ]; exact z_iret C hr dX0_greatestTerm_30 ⟨congrArg (fun x => some (Value.int x)) (by rw [hv, show o = n by omega]), rfl⟩
      · refine z_iload_n C dX0_greatestTerm_12 rfl 1 rfl ?_
        refine z_aload_n C dX0_greatestTerm_13 rfl 2 rfl ?_
        refine z_getR C wu_X0 0 rfl 0 rfl rfl 7 (by decide) rfl wf_X0_18 dX0_greatestTerm_14 ?_
        refine z_iload_n C dX0_greatestTerm_17 rfl 0 rfl ?_
        refine z_iald C 0 rfl 3 0 rfl rfl dX0_greatestTerm_18 (by omega) (by decide) ?_
        refine z_mmax C wm_X0_47 ws_max wi_J9 wk_max ⟨(Nat.le_of_ble_eq_true rfl), (Nat.le_of_ble_eq_true rfl), (Nat.le_of_ble_eq_true rfl), (Nat.le_of_ble_eq_true rfl)⟩ dX0_greatestTerm_19 ?_
        refine z_istore_n C (L' := [(1, .int (if v < σ 3 (o) then σ 3 (o) else v)), (2, .int (nI (o))), (0, .ref (a 0))]) dX0_greatestTerm_22 rfl (by decide) rfl ?_
        refine z_iinc C (L' := [(2, .int (nI (o + 1))), (1, .int (if v < σ 3 (o) then σ 3 (o) else v)), (0, .ref (a 0))]) dX0_greatestTerm_23 1 rfl (z_inc1 _) (by decide) rfl ?_
        refine z_goto C (tgt := 4) dX0_greatestTerm_26 (by decide) ?_
        refine z_sub (L' := [(2, .int (nI (o + 1))), (1, .int (if v < σ 3 (o) then σ 3 (o) else v)), (0, .ref (a 0))]) [0, 1, 2] rfl ?_
        exact ih_4 (o + 1) _ (by omega) (by omega) (by rw [fl_max, ← hv])
  refine z_sub (L' := [(2, .int (nI (0))), (1, .int (nI (0))), (0, .ref (a 0))]) [0, 1, 2] rfl ?_
  exact loop_4 (n + 1) 0 _ (by omega) (by omega) rfl
set_option maxHeartbeats 4000000 in
set_option maxRecDepth 100000 in
theorem c_X0_mostKnown (l : Launch) (D : va_G) (cI cZ cJ : ClassId) (a : Nat → Nat) (σ : zF) (n : Nat) (hI : fl_Iv n σ) : zM l D (tyL cI cZ cJ) yX0_mostKnown cX0_mostKnown 3 (some .int) (zR 1 21) [.ref (a 0)] [(shF a cI cZ, σ)] 0 0 (fun r u => r = some (.int (fl_max (σ 9) n)) ∧ u = [(shF a cI cZ, σ)]) := by
  have hn3 := hI.n3
  have hn7 := hI.n7
  refine z_of (by decide) (Nat.le_of_ble_eq_true rfl) rfl ?_
  intro p e s m args below meth c A C hr hin
  obtain ⟨Q, hQ⟩ : ∃ Q, Q = MQ below (zQ (fun r u => r = some (.int (fl_max (σ 9) n)) ∧ u = [(shF a cI cZ, σ)]) D (tyL cI cZ cJ) A) args s 0 0 A := ⟨_, rfl⟩
  rw [← hQ]
  refine z_iconst C (v := nI (0)) (by decide) dX0_mostKnown_0 ?_
  refine z_istore_n C (L' := [(1, .int (nI (0))), (0, .ref (a 0))]) dX0_mostKnown_1 rfl (by decide) rfl ?_
  refine z_iconst C (v := nI (0)) (by decide) dX0_mostKnown_2 ?_
  refine z_istore_n C (L' := [(2, .int (nI (0))), (1, .int (nI (0))), (0, .ref (a 0))]) dX0_mostKnown_3 rfl (by decide) rfl ?_
  have loop_4 : ∀ (k_4 o : Nat) (v : Int32), n < o + k_4 → o ≤ n → (hv : v = fl_max (σ 9) o) → zK p l e (zR 1 21) s m args below meth c D A 3 Q 0 0 4 [(2, .int (nI (o))), (1, .int (v)), (0, .ref (a 0))] [] [(shF a cI cZ, σ)] := by
    intro k_4
    induction k_4 with
    | zero => intro o v m1_4 m2_4; exact absurd m1_4 (by omega)
    | succ k_4 ih_4 =>
      intro o v m1_4 m2_4 hv
      refine z_iload_n C dX0_mostKnown_4 rfl 0 rfl ?_
      refine z_aload_n C dX0_mostKnown_5 rfl 2 rfl ?_
      refine z_getI C wu_X0 0 rfl 0 rfl rfl 0 (by decide) rfl wf_X0_50 dX0_mostKnown_6 ?_
      refine z_top (hI.n0 : _ = nI n) ?_
      refine z_icmp_geN C (tgt := 32) dX0_mostKnown_9 (by decide) (by omega) (by omega) (fun c_9 => ?_) (fun c_9 => ?_)
      · refine z_iload_n C dX0_mostKnown_32 rfl 1 rfl ?_
        rw [hQ]; exact z_iret C hr dX0_mostKnown_33 ⟨congrArg (fun x => some (Value.int x)) (by rw [hv, show o = n by omega]), rfl⟩
      · refine z_iload_n C dX0_mostKnown_12 rfl 1 rfl ?_
        refine z_aload_n C dX0_mostKnown_13 rfl 2 rfl ?_
        refine z_getR C wu_X0 0 rfl 0 rfl rfl 12 (by decide) rfl wf_X0_37 dX0_mostKnown_14 ?_
        refine z_getR C wu_X1 0 rfl 12 rfl rfl 1 (by decide) rfl wf_X0_74 dX0_mostKnown_17 ?_
        refine z_iload_n C dX0_mostKnown_20 rfl 0 rfl ?_
        refine z_iald C 0 rfl 9 0 rfl rfl dX0_mostKnown_21 (by omega) (by decide) ?_
        refine z_top (y := nI (fl_kn σ o)) (hI.kn (by omega)) ?_
        have hb_1 := hI.knT (i := o) (by omega)
        refine z_mmax C wm_X0_47 ws_max wi_J9 wk_max ⟨(Nat.le_of_ble_eq_true rfl), (Nat.le_of_ble_eq_true rfl), (Nat.le_of_ble_eq_true rfl), (Nat.le_of_ble_eq_true rfl)⟩ dX0_mostKnown_22 ?_
        refine z_istore_n C (L' := [(1, .int (if v < nI (fl_kn σ o) then nI (fl_kn σ o) else v)), (2, .int (nI (o))), (0, .ref (a 0))]) dX0_mostKnown_25 rfl (by decide) rfl ?_
        refine z_iinc C (L' := [(2, .int (nI (o + 1))), (1, .int (if v < nI (fl_kn σ o) then nI (fl_kn σ o) else v)), (0, .ref (a 0))]) dX0_mostKnown_26 1 rfl (z_inc1 _) (by decide) rfl ?_
        refine z_goto C (tgt := 4) dX0_mostKnown_29 (by decide) ?_
        refine z_sub (L' := [(2, .int (nI (o + 1))), (1, .int (if v < nI (fl_kn σ o) then nI (fl_kn σ o) else v)), (0, .ref (a 0))]) [0, 1, 2] rfl ?_
        exact ih_4 (o + 1) _ (by omega) (by omega) (by rw [fl_max, ← hv, hI.kn (by omega)])
  refine z_sub (L' := [(2, .int (nI (0))), (1, .int (nI (0))), (0, .ref (a 0))]) [0, 1, 2] rfl ?_
  exact loop_4 (n + 1) 0 _ (by omega) (by omega) rfl
set_option maxHeartbeats 4000000 in
set_option maxRecDepth 100000 in
theorem c_X0_fewestKnown (l : Launch) (D : va_G) (cI cZ cJ : ClassId) (a : Nat → Nat) (σ : zF) (n : Nat) (hI : fl_Iv n σ) : zM l D (tyL cI cZ cJ) yX0_fewestKnown cX0_fewestKnown 3 (some .int) (zR 1 21) [.ref (a 0)] [(shF a cI cZ, σ)] 0 0 (fun r u => r = some (.int (fl_min (σ 9) n)) ∧ u = [(shF a cI cZ, σ)]) := by
  have hn3 := hI.n3
  have hn7 := hI.n7
  refine z_of (by decide) (Nat.le_of_ble_eq_true rfl) rfl ?_
  intro p e s m args below meth c A C hr hin
  obtain ⟨Q, hQ⟩ : ∃ Q, Q = MQ below (zQ (fun r u => r = some (.int (fl_min (σ 9) n)) ∧ u = [(shF a cI cZ, σ)]) D (tyL cI cZ cJ) A) args s 0 0 A := ⟨_, rfl⟩
  rw [← hQ]
  refine z_bipush C (v := nI (10)) (by decide) dX0_fewestKnown_0 ?_
  refine z_istore_n C (L' := [(1, .int (nI (10))), (0, .ref (a 0))]) dX0_fewestKnown_2 rfl (by decide) rfl ?_
  refine z_iconst C (v := nI (0)) (by decide) dX0_fewestKnown_3 ?_
  refine z_istore_n C (L' := [(2, .int (nI (0))), (1, .int (nI (10))), (0, .ref (a 0))]) dX0_fewestKnown_4 rfl (by decide) rfl ?_
  have loop_5 : ∀ (k_5 o : Nat) (v : Int32), n < o + k_5 → o ≤ n → (hv : v = fl_min (σ 9) o) → zK p l e (zR 1 21) s m args below meth c D A 3 Q 0 0 5 [(2, .int (nI (o))), (1, .int (v)), (0, .ref (a 0))] [] [(shF a cI cZ, σ)] := by
    intro k_5
    induction k_5 with
    | zero => intro o v m1_5 m2_5; exact absurd m1_5 (by omega)
    | succ k_5 ih_5 =>
      intro o v m1_5 m2_5 hv
      refine z_iload_n C dX0_fewestKnown_5 rfl 0 rfl ?_
      refine z_aload_n C dX0_fewestKnown_6 rfl 2 rfl ?_
      refine z_getI C wu_X0 0 rfl 0 rfl rfl 0 (by decide) rfl wf_X0_50 dX0_fewestKnown_7 ?_
      refine z_top (hI.n0 : _ = nI n) ?_
      refine z_icmp_geN C (tgt := 33) dX0_fewestKnown_10 (by decide) (by omega) (by omega) (fun c_10 => ?_) (fun c_10 => ?_)
      · refine z_iload_n C dX0_fewestKnown_33 rfl 1 rfl ?_
        rw [hQ]; exact z_iret C hr dX0_fewestKnown_34 ⟨congrArg (fun x => some (Value.int x)) (by rw [hv, show o = n by omega]), rfl⟩
      · refine z_iload_n C dX0_fewestKnown_13 rfl 1 rfl ?_
        refine z_aload_n C dX0_fewestKnown_14 rfl 2 rfl ?_
        refine z_getR C wu_X0 0 rfl 0 rfl rfl 12 (by decide) rfl wf_X0_37 dX0_fewestKnown_15 ?_
        refine z_getR C wu_X1 0 rfl 12 rfl rfl 1 (by decide) rfl wf_X0_74 dX0_fewestKnown_18 ?_
        refine z_iload_n C dX0_fewestKnown_21 rfl 0 rfl ?_
        refine z_iald C 0 rfl 9 0 rfl rfl dX0_fewestKnown_22 (by omega) (by decide) ?_
        refine z_top (y := nI (fl_kn σ o)) (hI.kn (by omega)) ?_
        have hb_1 := hI.knT (i := o) (by omega)
        refine z_mmin C wm_X0_41 ws_min wi_J9 wk_min ⟨(Nat.le_of_ble_eq_true rfl), (Nat.le_of_ble_eq_true rfl), (Nat.le_of_ble_eq_true rfl), (Nat.le_of_ble_eq_true rfl)⟩ dX0_fewestKnown_23 ?_
        refine z_istore_n C (L' := [(1, .int (if nI (fl_kn σ o) < v then nI (fl_kn σ o) else v)), (2, .int (nI (o))), (0, .ref (a 0))]) dX0_fewestKnown_26 rfl (by decide) rfl ?_
        refine z_iinc C (L' := [(2, .int (nI (o + 1))), (1, .int (if nI (fl_kn σ o) < v then nI (fl_kn σ o) else v)), (0, .ref (a 0))]) dX0_fewestKnown_27 1 rfl (z_inc1 _) (by decide) rfl ?_
        refine z_goto C (tgt := 5) dX0_fewestKnown_30 (by decide) ?_
        refine z_sub (L' := [(2, .int (nI (o + 1))), (1, .int (if nI (fl_kn σ o) < v then nI (fl_kn σ o) else v)), (0, .ref (a 0))]) [0, 1, 2] rfl ?_
        exact ih_5 (o + 1) _ (by omega) (by omega) (by rw [fl_min, ← hv, hI.kn (by omega)])
  refine z_sub (L' := [(2, .int (nI (0))), (1, .int (nI (10))), (0, .ref (a 0))]) [0, 1, 2] rfl ?_
  exact loop_5 (n + 1) 0 _ (by omega) (by omega) rfl
end
section
def fl_raise (σ : zF) (b : Nat) : zF := zU (zU (zU (zU σ 7 b (nI 1)) 5 b (nI 0)) 2 b (σ 1 b)) 9 b (nI 0)
theorem fl_raise_Iv {n : Nat} {σ : zF} (h : fl_Iv n σ) (b : Nat) : fl_Iv n (fl_raise σ b) := (((h.U7 b (Or.inr rfl)).P 5 b _ (by omega)).P 2 b _ (by omega)).U9 b 0 (by omega)
theorem fl_any_no {p : Nat → Bool} {i : Nat} (h : fl_any p i = false) (hp : p i = false) : fl_any p (i + 1) = false := by rw [fl_any, h, hp]; rfl
theorem fl_com_0 (n : Nat) (σ : zF) (b k : Nat) (h : k ≤ fl_kn σ b) : fl_comL n σ b k = σ := by
  cases k with
  | zero => rfl
  | succ k => rw [fl_comL, if_neg (by omega)]
set_option maxHeartbeats 4000000 in
set_option maxRecDepth 100000 in
theorem c_X0_raise (l : Launch) (D : va_G) (cI cZ cJ : ClassId) (a : Nat → Nat) (σ : zF) (n : Nat) (hI : fl_Iv n σ) (b : Nat) (hb : b < n) : zM l D (tyL cI cZ cJ) yX0_raise cX0_raise 2 none (zR 0 0) [.ref (a 0), .int (nI (b))] [(shF a cI cZ, σ)] 0 0 (fun r u => r = none ∧ u = [(shF a cI cZ, (fl_raise σ b))]) := by
  have hn3 := hI.n3
  have hn7 := hI.n7
  refine z_of (by decide) (Nat.le_of_ble_eq_true rfl) rfl ?_
  intro p e s m args below meth c A C hr hin
  obtain ⟨Q, hQ⟩ : ∃ Q, Q = MQ below (zQ (fun r u => r = none ∧ u = [(shF a cI cZ, (fl_raise σ b))]) D (tyL cI cZ cJ) A) args s 0 0 A := ⟨_, rfl⟩
  rw [← hQ]
  refine z_aload_n C dX0_raise_0 rfl 0 rfl ?_
  refine z_getR C wu_X0 0 rfl 0 rfl rfl 11 (by decide) rfl wf_X0_30 dX0_raise_1 ?_
  refine z_iload_n C dX0_raise_4 rfl 1 rfl ?_
  refine z_iconst C (v := nI (1)) (by decide) dX0_raise_5 ?_
  refine z_zast C (B' := [(shF a cI cZ, (zU σ 7 (b) (nI (1))))]) 0 rfl 7 1 rfl rfl dX0_raise_6 (by omega) (by decide) (by decide) rfl ?_
  refine z_aload_n C dX0_raise_7 rfl 0 rfl ?_
  refine z_getR C wu_X0 0 rfl 0 rfl rfl 9 (by decide) rfl wf_X0_24 dX0_raise_8 ?_
  refine z_iload_n C dX0_raise_11 rfl 1 rfl ?_
  refine z_iconst C (v := nI (0)) (by decide) dX0_raise_12 ?_
  refine z_iast C (B' := [(shF a cI cZ, (zU (zU σ 7 (b) (nI (1))) 5 (b) (nI (0))))]) 0 rfl 5 0 rfl rfl dX0_raise_13 (by omega) (by decide) rfl ?_
  refine z_aload_n C dX0_raise_14 rfl 0 rfl ?_
  refine z_getR C wu_X0 0 rfl 0 rfl rfl 6 (by decide) rfl wf_X0_15 dX0_raise_15 ?_
  refine z_iload_n C dX0_raise_18 rfl 1 rfl ?_
  refine z_aload_n C dX0_raise_19 rfl 0 rfl ?_
  refine z_getR C wu_X0 0 rfl 0 rfl rfl 5 (by decide) rfl wf_X0_9 dX0_raise_20 ?_
  refine z_iload_n C dX0_raise_23 rfl 1 rfl ?_
  refine z_iald C 0 rfl 1 0 rfl rfl dX0_raise_24 (by omega) (by decide) ?_
  refine z_top (y := σ 1 (b)) rfl ?_
  refine z_iast C (B' := [(shF a cI cZ, (zU (zU (zU σ 7 (b) (nI (1))) 5 (b) (nI (0))) 2 (b) (σ 1 (b))))]) 0 rfl 2 0 rfl rfl dX0_raise_25 (by omega) (by decide) rfl ?_
  refine z_aload_n C dX0_raise_26 rfl 0 rfl ?_
  refine z_getR C wu_X0 0 rfl 0 rfl rfl 12 (by decide) rfl wf_X0_37 dX0_raise_27 ?_
  refine z_getR C wu_X1 0 rfl 12 rfl rfl 1 (by decide) rfl wf_X0_74 dX0_raise_30 ?_
  refine z_iload_n C dX0_raise_33 rfl 1 rfl ?_
  refine z_iconst C (v := nI (0)) (by decide) dX0_raise_34 ?_
  refine z_iast C (B' := [(shF a cI cZ, (zU (zU (zU (zU σ 7 (b) (nI (1))) 5 (b) (nI (0))) 2 (b) (σ 1 (b))) 9 (b) (nI (0))))]) 0 rfl 9 0 rfl rfl dX0_raise_35 (by omega) (by decide) rfl ?_
  rw [hQ]; exact z_vret C hr dX0_raise_36 ⟨rfl, congrArg (fun x => [(shF a cI cZ, x)]) (by rfl)⟩
set_option maxHeartbeats 4000000 in
set_option maxRecDepth 100000 in
theorem c_X0_commit (l : Launch) (D : va_G) (cI cZ cJ : ClassId) (a : Nat → Nat) (σ : zF) (n : Nat) (hI : fl_Iv n σ) (b : Nat) (hb : b < n) : zM l D (tyL cI cZ cJ) yX0_commit cX0_commit 3 none (zR 3 71) [.ref (a 0), .int (nI (b))] [(shF a cI cZ, σ)] 0 0 (fun r u => r = none ∧ u = [(shF a cI cZ, (fl_com n σ b))]) := by
  have hn3 := hI.n3
  have hn7 := hI.n7
  refine z_of (by decide) (Nat.le_of_ble_eq_true rfl) rfl ?_
  intro p e s m args below meth c A C hr hin
  obtain ⟨Q, hQ⟩ : ∃ Q, Q = MQ below (zQ (fun r u => r = none ∧ u = [(shF a cI cZ, (fl_com n σ b))]) D (tyL cI cZ cJ) A) args s 0 0 A := ⟨_, rfl⟩
  rw [← hQ]
  refine z_aload_n C dX0_commit_0 rfl 0 rfl ?_
  refine z_getR C wu_X0 0 rfl 0 rfl rfl 12 (by decide) rfl wf_X0_37 dX0_commit_1 ?_
  refine z_getR C wu_X1 0 rfl 12 rfl rfl 0 (by decide) rfl wf_X0_128 dX0_commit_4 ?_
  refine z_iload_n C dX0_commit_7 rfl 1 rfl ?_
  refine z_iald C 0 rfl 8 0 rfl rfl dX0_commit_8 (by omega) (by decide) ?_
  refine z_top (y := nI (fl_ln σ b)) (hI.ln (by omega)) ?_
  have hb_1 := hI.lnT (i := b) (by omega)
  refine z_istore_n C (L' := [(2, .int (nI (fl_ln σ b))), (0, .ref (a 0)), (1, .int (nI (b)))]) dX0_commit_9 rfl (by decide) rfl ?_
  have loop_10 : ∀ (k : Nat), (hk : k ≤ 10) → (hres : fl_comL n σ b k = fl_com n σ b) → zK p l e (zR 3 71) s m args below meth c D A 3 Q 0 0 10 [(2, .int (nI (k))), (1, .int (nI (b))), (0, .ref (a 0))] [] [(shF a cI cZ, σ)] := by
    intro k
    induction k with
    | zero =>
      intro  hk hres
      refine z_iload_n C dX0_commit_10 rfl 0 rfl ?_
      refine z_aload_n C dX0_commit_11 rfl 2 rfl ?_
      refine z_getR C wu_X0 0 rfl 0 rfl rfl 12 (by decide) rfl wf_X0_37 dX0_commit_12 ?_
      refine z_getR C wu_X1 0 rfl 12 rfl rfl 1 (by decide) rfl wf_X0_74 dX0_commit_15 ?_
      refine z_iload_n C dX0_commit_18 rfl 1 rfl ?_
      refine z_iald C 0 rfl 9 0 rfl rfl dX0_commit_19 (by omega) (by decide) ?_
      refine z_top (y := nI (fl_kn σ b)) (hI.kn (by omega)) ?_
      have hb_2 := hI.knT (i := b) (by omega)
      refine z_icmp_leN C (tgt := 73) dX0_commit_20 (by decide) (by omega) (by omega) (fun c_20 => ?_) (fun c_20 => ?_)
      · rw [hQ]; exact z_vret C hr dX0_commit_73 ⟨rfl, congrArg (fun x => [(shF a cI cZ, x)]) (by refine Eq.trans ?_ hres; first | exact (fl_com_0 _ _ _ _ (by omega)).symm | (rw [fl_comL, if_pos c_20]; exact (if_pos ⟨c_40, of_decide_eq_true c_53⟩).symm))⟩
      · exact absurd c_20 (by omega)
    | succ k ih_10 =>
      intro  hk hres
      refine z_iload_n C dX0_commit_10 rfl 0 rfl ?_
      refine z_aload_n C dX0_commit_11 rfl 2 rfl ?_
      refine z_getR C wu_X0 0 rfl 0 rfl rfl 12 (by decide) rfl wf_X0_37 dX0_commit_12 ?_
      refine z_getR C wu_X1 0 rfl 12 rfl rfl 1 (by decide) rfl wf_X0_74 dX0_commit_15 ?_
      refine z_iload_n C dX0_commit_18 rfl 1 rfl ?_
      refine z_iald C 0 rfl 9 0 rfl rfl dX0_commit_19 (by omega) (by decide) ?_
      refine z_top (y := nI (fl_kn σ b)) (hI.kn (by omega)) ?_
      have hb_3 := hI.knT (i := b) (by omega)
      refine z_icmp_leN C (tgt := 73) dX0_commit_20 (by decide) (by omega) (by omega) (fun c_20 => ?_) (fun c_20 => ?_)
      · rw [hQ]; exact z_vret C hr dX0_commit_73 ⟨rfl, congrArg (fun x => [(shF a cI cZ, x)]) (by refine Eq.trans ?_ hres; first | exact (fl_com_0 _ _ _ _ (by omega)).symm | (rw [fl_comL, if_pos c_20]; exact (if_pos ⟨c_40, of_decide_eq_true c_53⟩).symm))⟩
      · refine z_aload_n C dX0_commit_23 rfl 2 rfl ?_
        refine z_getR C wu_X0 0 rfl 0 rfl rfl 12 (by decide) rfl wf_X0_37 dX0_commit_24 ?_
        refine z_iload_n C dX0_commit_27 rfl 1 rfl ?_
        refine z_iload_n C dX0_commit_28 rfl 0 rfl ?_
        refine z_iconst C (v := nI (1)) (by decide) dX0_commit_29 ?_
        refine z_isubN C dX0_commit_30 (by omega) ?_
        refine z_cV C (st' := [.int (σ 10 ((b * 10) + ((k + 1) - 1)))]) (B' := [(shF a cI cZ, σ)]) [true] rfl (c_X1_termAt l D cI cZ cJ a σ n hI b ((k + 1) - 1) (by omega) (by omega)) wq_yX1_termAt wm_X0_131 ⟨wn_yX1_termAt, wo_yX1_termAt⟩ ⟨rfl, rfl, Nat.le_of_ble_eq_true rfl, Nat.le_of_ble_eq_true rfl⟩ 0 rfl 12 rfl rfl rfl rfl (Nat.le_of_ble_eq_true rfl) dX0_commit_31 ⟨Nat.le_of_ble_eq_true rfl, Nat.le_of_ble_eq_true rfl⟩ rfl rfl ?_
        refine z_aload_n C dX0_commit_34 rfl 2 rfl ?_
        refine z_getR C wu_X0 0 rfl 0 rfl rfl 7 (by decide) rfl wf_X0_18 dX0_commit_35 ?_
        refine z_iload_n C dX0_commit_38 rfl 1 rfl ?_
        refine z_iald C 0 rfl 3 0 rfl rfl dX0_commit_39 (by omega) (by decide) ?_
        refine z_icmp_ne C (tgt := 67) dX0_commit_40 (by decide) (fun c_40 => ?_) (fun c_40 => ?_)
        · refine z_iinc C (L' := [(2, .int (nI (k + 1 - 1))), (1, .int (nI (b))), (0, .ref (a 0))]) dX0_commit_67 0 rfl (z_dec1 (by omega)) (by decide) rfl ?_
          refine z_goto C (tgt := 10) dX0_commit_70 (by decide) ?_
          refine z_sub (L' := [(2, .int (nI (k + 1 - 1))), (1, .int (nI (b))), (0, .ref (a 0))]) [0, 1, 2] rfl ?_
          exact ih_10  (by omega) (Eq.trans (by rw [fl_comL, if_pos c_20]; simp at c_40; simp [c_40]) hres)
        · refine z_aload_n C dX0_commit_43 rfl 2 rfl ?_
          refine z_aload_n C dX0_commit_44 rfl 2 rfl ?_
          refine z_iload_n C dX0_commit_45 rfl 1 rfl ?_
          refine z_iload_n C dX0_commit_46 rfl 0 rfl ?_
          have hf_4 : fl_cnt n σ b (k + 1) ≤ n  :=  fl_ct_le _ n
          refine z_cV C (st' := [.int (nI (fl_cnt n σ b (k + 1))), .ref (a 0)]) (B' := [(shF a cI cZ, σ)]) [true] rfl (c_X0_hearersThatAgree l D cI cZ cJ a σ n hI b (k + 1) (by omega) (by omega)) wq_yX0_hearersThatAgree wm_X0_134 ⟨wn_yX0_hearersThatAgree, wo_yX0_hearersThatAgree⟩ ⟨rfl, rfl, Nat.le_of_ble_eq_true rfl, Nat.le_of_ble_eq_true rfl⟩ 0 rfl 0 rfl rfl rfl rfl (Nat.le_of_ble_eq_true rfl) dX0_commit_47 ⟨Nat.le_of_ble_eq_true rfl, Nat.le_of_ble_eq_true rfl⟩ rfl rfl ?_
          refine z_cV C (st' := [.int (zb (decide (n / 2 < (fl_cnt n σ b (k + 1)))))]) (B' := [(shF a cI cZ, σ)]) [true] rfl (c_X0_isMoreThanHalf l D cI cZ cJ a σ n hI (fl_cnt n σ b (k + 1)) (by omega)) wq_yX0_isMoreThanHalf wm_X0_106 ⟨wn_yX0_isMoreThanHalf, wo_yX0_isMoreThanHalf⟩ ⟨rfl, rfl, Nat.le_of_ble_eq_true rfl, Nat.le_of_ble_eq_true rfl⟩ 0 rfl 0 rfl rfl rfl rfl (Nat.le_of_ble_eq_true rfl) dX0_commit_50 ⟨Nat.le_of_ble_eq_true rfl, Nat.le_of_ble_eq_true rfl⟩ rfl rfl ?_
          refine z_if_eqB C (tgt := 67) dX0_commit_53 (by decide) (fun c_53 => ?_) (fun c_53 => ?_)
          · refine z_iinc C (L' := [(2, .int (nI (k + 1 - 1))), (1, .int (nI (b))), (0, .ref (a 0))]) dX0_commit_67 0 rfl (z_dec1 (by omega)) (by decide) rfl ?_
            refine z_goto C (tgt := 10) dX0_commit_70 (by decide) ?_
            refine z_sub (L' := [(2, .int (nI (k + 1 - 1))), (1, .int (nI (b))), (0, .ref (a 0))]) [0, 1, 2] rfl ?_
            exact ih_10  (by omega) (Eq.trans (by rw [fl_comL, if_pos c_20, if_neg (fun q => absurd q.2 (of_decide_eq_false c_53))]) hres)
          · refine z_aload_n C dX0_commit_56 rfl 2 rfl ?_
            refine z_getR C wu_X0 0 rfl 0 rfl rfl 12 (by decide) rfl wf_X0_37 dX0_commit_57 ?_
            refine z_getR C wu_X1 0 rfl 12 rfl rfl 1 (by decide) rfl wf_X0_74 dX0_commit_60 ?_
            refine z_iload_n C dX0_commit_63 rfl 1 rfl ?_
            refine z_iload_n C dX0_commit_64 rfl 0 rfl ?_
            refine z_iast C (B' := [(shF a cI cZ, (zU σ 9 (b) (nI (k + 1))))]) 0 rfl 9 0 rfl rfl dX0_commit_65 (by omega) (by decide) rfl ?_
            rw [hQ]; exact z_vret C hr dX0_commit_66 ⟨rfl, congrArg (fun x => [(shF a cI cZ, x)]) (by refine Eq.trans ?_ hres; first | exact (fl_com_0 _ _ _ _ (by omega)).symm | (rw [fl_comL, if_pos c_20]; exact (if_pos ⟨c_40, of_decide_eq_true c_53⟩).symm))⟩
  refine z_sub (L' := [(2, .int (nI (fl_ln σ b))), (1, .int (nI (b))), (0, .ref (a 0))]) [0, 2, 1] rfl ?_
  exact loop_10 _  (hI.lnT hb) rfl
set_option maxHeartbeats 4000000 in
set_option maxRecDepth 100000 in
theorem c_X0_runClocks (l : Launch) (D : va_G) (cI cZ cJ : ClassId) (a : Nat → Nat) (σ : zF) (n : Nat) (hI : fl_Iv n σ) : zM l D (tyL cI cZ cJ) yX0_runClocks cX0_runClocks 2 none (zR 4 91) [.ref (a 0)] [(shF a cI cZ, σ)] 0 0 (fun r u => r = none ∧ u = [(shF a cI cZ, (fl_fold (fl_clk1 n) n σ))]) := by
  have hn3 := hI.n3
  have hn7 := hI.n7
  refine z_of (by decide) (Nat.le_of_ble_eq_true rfl) rfl ?_
  intro p e s m args below meth c A C hr hin
  obtain ⟨Q, hQ⟩ : ∃ Q, Q = MQ below (zQ (fun r u => r = none ∧ u = [(shF a cI cZ, (fl_fold (fl_clk1 n) n σ))]) D (tyL cI cZ cJ) A) args s 0 0 A := ⟨_, rfl⟩
  rw [← hQ]
  refine z_iconst C (v := nI (0)) (by decide) dX0_runClocks_0 ?_
  refine z_istore_n C (L' := [(1, .int (nI (0))), (0, .ref (a 0))]) dX0_runClocks_1 rfl (by decide) rfl ?_
  have loop_2 : ∀ (k_2 o : Nat) (τ : zF), n < o + k_2 → o ≤ n → (hres : τ = fl_fold (fl_clk1 n) o σ) → (hτ : fl_Iv n τ) → zK p l e (zR 4 91) s m args below meth c D A 2 Q 0 0 2 [(1, .int (nI (o))), (0, .ref (a 0))] [] [(shF a cI cZ, τ)] := by
    intro k_2
    induction k_2 with
    | zero => intro o τ m1_2 m2_2; exact absurd m1_2 (by omega)
    | succ k_2 ih_2 =>
      intro o τ m1_2 m2_2 hres hτ
      refine z_iload_n C dX0_runClocks_2 rfl 0 rfl ?_
      refine z_aload_n C dX0_runClocks_3 rfl 1 rfl ?_
      refine z_getI C wu_X0 0 rfl 0 rfl rfl 0 (by decide) rfl wf_X0_50 dX0_runClocks_4 ?_
      refine z_top (hτ.n0 : _ = nI n) ?_
      refine z_icmp_geN C (tgt := 59) dX0_runClocks_7 (by decide) (by omega) (by omega) (fun c_7 => ?_) (fun c_7 => ?_)
      · rw [hQ]; exact z_vret C hr dX0_runClocks_59 ⟨rfl, congrArg (fun x => [(shF a cI cZ, x)]) (by rw [hres, show o = n by omega])⟩
      · refine z_aload_n C dX0_runClocks_10 rfl 1 rfl ?_
        refine z_getR C wu_X0 0 rfl 0 rfl rfl 11 (by decide) rfl wf_X0_30 dX0_runClocks_11 ?_
        refine z_iload_n C dX0_runClocks_14 rfl 0 rfl ?_
        refine z_zald C 0 rfl 7 1 rfl rfl dX0_runClocks_15 (by omega) (by decide) ?_
        refine z_if_eq C (tgt := 53) dX0_runClocks_16 (by decide) (fun c_16 => ?_) (fun c_16 => ?_)
        · refine z_iinc C (L' := [(1, .int (nI (o + 1))), (0, .ref (a 0))]) dX0_runClocks_53 0 rfl (z_inc1 _) (by decide) rfl ?_
          refine z_goto C (tgt := 2) dX0_runClocks_56 (by decide) ?_
          refine z_sub (L' := [(1, .int (nI (o + 1))), (0, .ref (a 0))]) [0, 1] rfl ?_
          exact ih_2 (o + 1) _ (by omega) (by omega) (by rw [fl_fold, ← hres, fl_clk1]; simp [c_16]) hτ
        · refine z_aload_n C dX0_runClocks_19 rfl 1 rfl ?_
          refine z_getR C wu_X0 0 rfl 0 rfl rfl 9 (by decide) rfl wf_X0_24 dX0_runClocks_20 ?_
          refine z_iload_n C dX0_runClocks_23 rfl 0 rfl ?_
          refine z_iald C 0 rfl 5 0 rfl rfl dX0_runClocks_24 (by omega) (by decide) ?_
          refine z_iconst C (v := nI (2)) (by decide) dX0_runClocks_25 ?_
          refine z_icmp_eq C (tgt := 53) dX0_runClocks_26 (by decide) (fun c_26 => ?_) (fun c_26 => ?_)
          · refine z_iinc C (L' := [(1, .int (nI (o + 1))), (0, .ref (a 0))]) dX0_runClocks_53 0 rfl (z_inc1 _) (by decide) rfl ?_
            refine z_goto C (tgt := 2) dX0_runClocks_56 (by decide) ?_
            refine z_sub (L' := [(1, .int (nI (o + 1))), (0, .ref (a 0))]) [0, 1] rfl ?_
            exact ih_2 (o + 1) _ (by omega) (by omega) (by rw [fl_fold, ← hres, fl_clk1]; simp [c_16, c_26]) hτ
          · refine z_aload_n C dX0_runClocks_29 rfl 1 rfl ?_
            refine z_getR C wu_X0 0 rfl 0 rfl rfl 6 (by decide) rfl wf_X0_15 dX0_runClocks_30 ?_
            refine z_iload_n C dX0_runClocks_33 rfl 0 rfl ?_
            refine z_dup2 C rfl rfl dX0_runClocks_34 ?_
            refine z_iald C 0 rfl 2 0 rfl rfl dX0_runClocks_35 (by omega) (by decide) ?_
            refine z_iconst C (v := nI (1)) (by decide) dX0_runClocks_36 ?_
            refine z_isub C dX0_runClocks_37 ?_
            refine z_iast C (B' := [(shF a cI cZ, (zU τ 2 (o) (τ 2 (o) - nI (1))))]) 0 rfl 2 0 rfl rfl dX0_runClocks_38 (by omega) (by decide) rfl ?_
            refine z_aload_n C dX0_runClocks_39 rfl 1 rfl ?_
            refine z_getR C wu_X0 0 rfl 0 rfl rfl 6 (by decide) rfl wf_X0_15 dX0_runClocks_40 ?_
            refine z_iload_n C dX0_runClocks_43 rfl 0 rfl ?_
            refine z_iald C 0 rfl 2 0 rfl rfl dX0_runClocks_44 (by omega) (by decide) ?_
            refine z_top (y := τ 2 (o) - nI (1)) (zU_self _ _ _ _) ?_
            refine z_if_ne C (tgt := 53) dX0_runClocks_45 (by decide) (fun c_45 => ?_) (fun c_45 => ?_)
            · refine z_iinc C (L' := [(1, .int (nI (o + 1))), (0, .ref (a 0))]) dX0_runClocks_53 0 rfl (z_inc1 _) (by decide) rfl ?_
              refine z_goto C (tgt := 2) dX0_runClocks_56 (by decide) ?_
              refine z_sub (L' := [(1, .int (nI (o + 1))), (0, .ref (a 0))]) [0, 1] rfl ?_
              exact ih_2 (o + 1) _ (by omega) (by omega) (by rw [fl_fold, ← hres, fl_clk1]; simp [c_16, c_26, c_45]) (hτ.U 2 (o) (τ 2 (o) - nI (1)) (by decide) (by decide) (by decide) (by decide))
            · refine z_aload_n C dX0_runClocks_48 rfl 1 rfl ?_
              refine z_iload_n C dX0_runClocks_49 rfl 0 rfl ?_
              have hi_1 : fl_Iv n (zU τ 2 (o) (τ 2 (o) - nI (1))) := (hτ.U 2 (o) (τ 2 (o) - nI (1)) (by decide) (by decide) (by decide) (by decide))
              have hi_2 : fl_Iv n (fl_stand n ((zU τ 2 (o) (τ 2 (o) - nI (1)))) o) := fl_stand_Iv hi_1 _
              refine z_cV C (st' := []) (B' := [(shF a cI cZ, (fl_stand n ((zU τ 2 (o) (τ 2 (o) - nI (1)))) o))]) [true] rfl (c_X0_stand l D cI cZ cJ a ((zU τ 2 (o) (τ 2 (o) - nI (1)))) n hi_1 o (by omega)) wq_yX0_stand wm_X0_86 ⟨wn_yX0_stand, wo_yX0_stand⟩ ⟨rfl, rfl, Nat.le_of_ble_eq_true rfl, Nat.le_of_ble_eq_true rfl⟩ 0 rfl 0 rfl rfl rfl rfl (Nat.le_of_ble_eq_true rfl) dX0_runClocks_50 ⟨Nat.le_of_ble_eq_true rfl, Nat.le_of_ble_eq_true rfl⟩ rfl rfl ?_
              refine z_iinc C (L' := [(1, .int (nI (o + 1))), (0, .ref (a 0))]) dX0_runClocks_53 0 rfl (z_inc1 _) (by decide) rfl ?_
              refine z_goto C (tgt := 2) dX0_runClocks_56 (by decide) ?_
              refine z_sub (L' := [(1, .int (nI (o + 1))), (0, .ref (a 0))]) [0, 1] rfl ?_
              exact ih_2 (o + 1) _ (by omega) (by omega) (by rw [fl_fold, ← hres, fl_clk1]; simp [c_16, c_26, c_45]) hi_2
  refine z_sub (L' := [(1, .int (nI (0))), (0, .ref (a 0))]) [0, 1] rfl ?_
  exact loop_2 (n + 1) 0 _ (by omega) (by omega) rfl hI
set_option maxHeartbeats 4000000 in
set_option maxRecDepth 100000 in
theorem c_X0_tellAll (l : Launch) (D : va_G) (cI cZ cJ : ClassId) (a : Nat → Nat) (σ : zF) (n : Nat) (hI : fl_Iv n σ) : zM l D (tyL cI cZ cJ) yX0_tellAll cX0_tellAll 2 none (zR 5 114) [.ref (a 0)] [(shF a cI cZ, σ)] 0 0 (fun r u => r = none ∧ u = [(shF a cI cZ, (fl_fold (fl_tls1 n) n σ))]) := by
  have hn3 := hI.n3
  have hn7 := hI.n7
  refine z_of (by decide) (Nat.le_of_ble_eq_true rfl) rfl ?_
  intro p e s m args below meth c A C hr hin
  obtain ⟨Q, hQ⟩ : ∃ Q, Q = MQ below (zQ (fun r u => r = none ∧ u = [(shF a cI cZ, (fl_fold (fl_tls1 n) n σ))]) D (tyL cI cZ cJ) A) args s 0 0 A := ⟨_, rfl⟩
  rw [← hQ]
  refine z_iconst C (v := nI (0)) (by decide) dX0_tellAll_0 ?_
  refine z_istore_n C (L' := [(1, .int (nI (0))), (0, .ref (a 0))]) dX0_tellAll_1 rfl (by decide) rfl ?_
  have loop_2 : ∀ (k_2 o : Nat) (τ : zF), n < o + k_2 → o ≤ n → (hres : τ = fl_fold (fl_tls1 n) o σ) → (hτ : fl_Iv n τ) → zK p l e (zR 5 114) s m args below meth c D A 2 Q 0 0 2 [(1, .int (nI (o))), (0, .ref (a 0))] [] [(shF a cI cZ, τ)] := by
    intro k_2
    induction k_2 with
    | zero => intro o τ m1_2 m2_2; exact absurd m1_2 (by omega)
    | succ k_2 ih_2 =>
      intro o τ m1_2 m2_2 hres hτ
      refine z_iload_n C dX0_tellAll_2 rfl 0 rfl ?_
      refine z_aload_n C dX0_tellAll_3 rfl 1 rfl ?_
      refine z_getI C wu_X0 0 rfl 0 rfl rfl 0 (by decide) rfl wf_X0_50 dX0_tellAll_4 ?_
      refine z_top (hτ.n0 : _ = nI n) ?_
      refine z_icmp_geN C (tgt := 29) dX0_tellAll_7 (by decide) (by omega) (by omega) (fun c_7 => ?_) (fun c_7 => ?_)
      · rw [hQ]; exact z_vret C hr dX0_tellAll_29 ⟨rfl, congrArg (fun x => [(shF a cI cZ, x)]) (by rw [hres, show o = n by omega])⟩
      · refine z_aload_n C dX0_tellAll_10 rfl 1 rfl ?_
        refine z_iload_n C dX0_tellAll_11 rfl 0 rfl ?_
        refine z_cV C (st' := [.int (zb (fl_lead τ o))]) (B' := [(shF a cI cZ, τ)]) [true] rfl (c_X0_leadsNow l D cI cZ cJ a τ n hτ o (by omega)) wq_yX0_leadsNow wm_X0_89 ⟨wn_yX0_leadsNow, wo_yX0_leadsNow⟩ ⟨rfl, rfl, Nat.le_of_ble_eq_true rfl, Nat.le_of_ble_eq_true rfl⟩ 0 rfl 0 rfl rfl rfl rfl (Nat.le_of_ble_eq_true rfl) dX0_tellAll_12 ⟨Nat.le_of_ble_eq_true rfl, Nat.le_of_ble_eq_true rfl⟩ rfl rfl ?_
        refine z_if_eqB C (tgt := 23) dX0_tellAll_15 (by decide) (fun c_15 => ?_) (fun c_15 => ?_)
        · refine z_iinc C (L' := [(1, .int (nI (o + 1))), (0, .ref (a 0))]) dX0_tellAll_23 0 rfl (z_inc1 _) (by decide) rfl ?_
          refine z_goto C (tgt := 2) dX0_tellAll_26 (by decide) ?_
          refine z_sub (L' := [(1, .int (nI (o + 1))), (0, .ref (a 0))]) [0, 1] rfl ?_
          exact ih_2 (o + 1) _ (by omega) (by omega) (by rw [fl_fold, ← hres, fl_tls1]; simp [c_15]) hτ
        · refine z_aload_n C dX0_tellAll_18 rfl 1 rfl ?_
          refine z_iload_n C dX0_tellAll_19 rfl 0 rfl ?_
          have hi_1 : fl_Iv n (fl_tells n o 0 τ) := fl_tells_Iv hτ (by omega)
          refine z_cV C (st' := []) (B' := [(shF a cI cZ, (fl_tells n o 0 τ))]) [true] rfl (c_X0_tellOthers l D cI cZ cJ a τ n hτ o (by omega)) wq_yX0_tellOthers wm_X0_93 ⟨wn_yX0_tellOthers, wo_yX0_tellOthers⟩ ⟨rfl, rfl, Nat.le_of_ble_eq_true rfl, Nat.le_of_ble_eq_true rfl⟩ 0 rfl 0 rfl rfl rfl rfl (Nat.le_of_ble_eq_true rfl) dX0_tellAll_20 ⟨Nat.le_of_ble_eq_true rfl, Nat.le_of_ble_eq_true rfl⟩ rfl rfl ?_
          refine z_iinc C (L' := [(1, .int (nI (o + 1))), (0, .ref (a 0))]) dX0_tellAll_23 0 rfl (z_inc1 _) (by decide) rfl ?_
          refine z_goto C (tgt := 2) dX0_tellAll_26 (by decide) ?_
          refine z_sub (L' := [(1, .int (nI (o + 1))), (0, .ref (a 0))]) [0, 1] rfl ?_
          exact ih_2 (o + 1) _ (by omega) (by omega) (by rw [fl_fold, ← hres, fl_tls1]; simp [c_15]) hi_1
  refine z_sub (L' := [(1, .int (nI (0))), (0, .ref (a 0))]) [0, 1] rfl ?_
  exact loop_2 (n + 1) 0 _ (by omega) (by omega) rfl hI
set_option maxHeartbeats 4000000 in
set_option maxRecDepth 100000 in
theorem c_X0_commitAll (l : Launch) (D : va_G) (cI cZ cJ : ClassId) (a : Nat → Nat) (σ : zF) (n : Nat) (hI : fl_Iv n σ) : zM l D (tyL cI cZ cJ) yX0_commitAll cX0_commitAll 2 none (zR 4 93) [.ref (a 0)] [(shF a cI cZ, σ)] 0 0 (fun r u => r = none ∧ u = [(shF a cI cZ, (fl_fold (fl_coms1 n) n σ))]) := by
  have hn3 := hI.n3
  have hn7 := hI.n7
  refine z_of (by decide) (Nat.le_of_ble_eq_true rfl) rfl ?_
  intro p e s m args below meth c A C hr hin
  obtain ⟨Q, hQ⟩ : ∃ Q, Q = MQ below (zQ (fun r u => r = none ∧ u = [(shF a cI cZ, (fl_fold (fl_coms1 n) n σ))]) D (tyL cI cZ cJ) A) args s 0 0 A := ⟨_, rfl⟩
  rw [← hQ]
  refine z_iconst C (v := nI (0)) (by decide) dX0_commitAll_0 ?_
  refine z_istore_n C (L' := [(1, .int (nI (0))), (0, .ref (a 0))]) dX0_commitAll_1 rfl (by decide) rfl ?_
  have loop_2 : ∀ (k_2 o : Nat) (τ : zF), n < o + k_2 → o ≤ n → (hres : τ = fl_fold (fl_coms1 n) o σ) → (hτ : fl_Iv n τ) → zK p l e (zR 4 93) s m args below meth c D A 2 Q 0 0 2 [(1, .int (nI (o))), (0, .ref (a 0))] [] [(shF a cI cZ, τ)] := by
    intro k_2
    induction k_2 with
    | zero => intro o τ m1_2 m2_2; exact absurd m1_2 (by omega)
    | succ k_2 ih_2 =>
      intro o τ m1_2 m2_2 hres hτ
      refine z_iload_n C dX0_commitAll_2 rfl 0 rfl ?_
      refine z_aload_n C dX0_commitAll_3 rfl 1 rfl ?_
      refine z_getI C wu_X0 0 rfl 0 rfl rfl 0 (by decide) rfl wf_X0_50 dX0_commitAll_4 ?_
      refine z_top (hτ.n0 : _ = nI n) ?_
      refine z_icmp_geN C (tgt := 29) dX0_commitAll_7 (by decide) (by omega) (by omega) (fun c_7 => ?_) (fun c_7 => ?_)
      · rw [hQ]; exact z_vret C hr dX0_commitAll_29 ⟨rfl, congrArg (fun x => [(shF a cI cZ, x)]) (by rw [hres, show o = n by omega])⟩
      · refine z_aload_n C dX0_commitAll_10 rfl 1 rfl ?_
        refine z_iload_n C dX0_commitAll_11 rfl 0 rfl ?_
        refine z_cV C (st' := [.int (zb (fl_lead τ o))]) (B' := [(shF a cI cZ, τ)]) [true] rfl (c_X0_leadsNow l D cI cZ cJ a τ n hτ o (by omega)) wq_yX0_leadsNow wm_X0_89 ⟨wn_yX0_leadsNow, wo_yX0_leadsNow⟩ ⟨rfl, rfl, Nat.le_of_ble_eq_true rfl, Nat.le_of_ble_eq_true rfl⟩ 0 rfl 0 rfl rfl rfl rfl (Nat.le_of_ble_eq_true rfl) dX0_commitAll_12 ⟨Nat.le_of_ble_eq_true rfl, Nat.le_of_ble_eq_true rfl⟩ rfl rfl ?_
        refine z_if_eqB C (tgt := 23) dX0_commitAll_15 (by decide) (fun c_15 => ?_) (fun c_15 => ?_)
        · refine z_iinc C (L' := [(1, .int (nI (o + 1))), (0, .ref (a 0))]) dX0_commitAll_23 0 rfl (z_inc1 _) (by decide) rfl ?_
          refine z_goto C (tgt := 2) dX0_commitAll_26 (by decide) ?_
          refine z_sub (L' := [(1, .int (nI (o + 1))), (0, .ref (a 0))]) [0, 1] rfl ?_
          exact ih_2 (o + 1) _ (by omega) (by omega) (by rw [fl_fold, ← hres, fl_coms1]; simp [c_15]) hτ
        · refine z_aload_n C dX0_commitAll_18 rfl 1 rfl ?_
          refine z_iload_n C dX0_commitAll_19 rfl 0 rfl ?_
          have hi_1 : fl_Iv n (fl_com n τ o) := fl_com_Iv hτ (by omega)
          refine z_cV C (st' := []) (B' := [(shF a cI cZ, (fl_com n τ o))]) [true] rfl (c_X0_commit l D cI cZ cJ a τ n hτ o (by omega)) wq_yX0_commit wm_X0_96 ⟨wn_yX0_commit, wo_yX0_commit⟩ ⟨rfl, rfl, Nat.le_of_ble_eq_true rfl, Nat.le_of_ble_eq_true rfl⟩ 0 rfl 0 rfl rfl rfl rfl (Nat.le_of_ble_eq_true rfl) dX0_commitAll_20 ⟨Nat.le_of_ble_eq_true rfl, Nat.le_of_ble_eq_true rfl⟩ rfl rfl ?_
          refine z_iinc C (L' := [(1, .int (nI (o + 1))), (0, .ref (a 0))]) dX0_commitAll_23 0 rfl (z_inc1 _) (by decide) rfl ?_
          refine z_goto C (tgt := 2) dX0_commitAll_26 (by decide) ?_
          refine z_sub (L' := [(1, .int (nI (o + 1))), (0, .ref (a 0))]) [0, 1] rfl ?_
          exact ih_2 (o + 1) _ (by omega) (by omega) (by rw [fl_fold, ← hres, fl_coms1]; simp [c_15]) hi_1
  refine z_sub (L' := [(1, .int (nI (0))), (0, .ref (a 0))]) [0, 1] rfl ?_
  exact loop_2 (n + 1) 0 _ (by omega) (by omega) rfl hI
set_option maxHeartbeats 4000000 in
set_option maxRecDepth 100000 in
theorem c_X0_passHours (l : Launch) (D : va_G) (cI cZ cJ : ClassId) (a : Nat → Nat) (σ : zF) (n : Nat) (hI : fl_Iv n σ) (h : Nat) (hh : h < 2 ^ 31) : zM l D (tyL cI cZ cJ) yX0_passHours cX0_passHours 3 none (zR 6 135) [.ref (a 0), .int (nI (h))] [(shF a cI cZ, σ)] 0 0 (fun r u => r = none ∧ u = [(shF a cI cZ, (fl_hours n h σ))]) := by
  have hn3 := hI.n3
  have hn7 := hI.n7
  refine z_of (by decide) (Nat.le_of_ble_eq_true rfl) rfl ?_
  intro p e s m args below meth c A C hr hin
  obtain ⟨Q, hQ⟩ : ∃ Q, Q = MQ below (zQ (fun r u => r = none ∧ u = [(shF a cI cZ, (fl_hours n h σ))]) D (tyL cI cZ cJ) A) args s 0 0 A := ⟨_, rfl⟩
  rw [← hQ]
  refine z_iconst C (v := nI (0)) (by decide) dX0_passHours_0 ?_
  refine z_istore_n C (L' := [(2, .int (nI (0))), (0, .ref (a 0)), (1, .int (nI (h)))]) dX0_passHours_1 rfl (by decide) rfl ?_
  have loop_2 : ∀ (k_2 o : Nat) (τ : zF), h < o + k_2 → o ≤ h → (hres : τ = fl_hours n o σ) → (hτ : fl_Iv n τ) → zK p l e (zR 6 135) s m args below meth c D A 3 Q 0 0 2 [(2, .int (nI (o))), (1, .int (nI (h))), (0, .ref (a 0))] [] [(shF a cI cZ, τ)] := by
    intro k_2
    induction k_2 with
    | zero => intro o τ m1_2 m2_2; exact absurd m1_2 (by omega)
    | succ k_2 ih_2 =>
      intro o τ m1_2 m2_2 hres hτ
      refine z_iload_n C dX0_passHours_2 rfl 0 rfl ?_
      refine z_iload_n C dX0_passHours_3 rfl 1 rfl ?_
      refine z_icmp_geN C (tgt := 35) dX0_passHours_4 (by decide) (by omega) (by omega) (fun c_4 => ?_) (fun c_4 => ?_)
      · rw [hQ]; exact z_vret C hr dX0_passHours_35 ⟨rfl, congrArg (fun x => [(shF a cI cZ, x)]) (by rw [hres, show o = h by omega])⟩
      · refine z_aload_n C dX0_passHours_7 rfl 2 rfl ?_
        have hi_1 : fl_Iv n (fl_fold (fl_clk1 n) n τ) := fl_clk_Iv hτ
        refine z_cV C (st' := []) (B' := [(shF a cI cZ, (fl_fold (fl_clk1 n) n τ))]) [true] rfl (c_X0_runClocks l D cI cZ cJ a τ n hτ  ) wq_yX0_runClocks wm_X0_77 ⟨wn_yX0_runClocks, wo_yX0_runClocks⟩ ⟨rfl, rfl, Nat.le_of_ble_eq_true rfl, Nat.le_of_ble_eq_true rfl⟩ 0 rfl 0 rfl rfl rfl rfl (Nat.le_of_ble_eq_true rfl) dX0_passHours_8 ⟨Nat.le_of_ble_eq_true rfl, Nat.le_of_ble_eq_true rfl⟩ rfl rfl ?_
        refine z_aload_n C dX0_passHours_11 rfl 2 rfl ?_
        have hi_2 : fl_Iv n (fl_fold (fl_tls1 n) n ((fl_fold (fl_clk1 n) n τ))) := fl_tls_Iv hi_1
        refine z_cV C (st' := []) (B' := [(shF a cI cZ, (fl_fold (fl_tls1 n) n ((fl_fold (fl_clk1 n) n τ))))]) [true] rfl (c_X0_tellAll l D cI cZ cJ a ((fl_fold (fl_clk1 n) n τ)) n hi_1  ) wq_yX0_tellAll wm_X0_80 ⟨wn_yX0_tellAll, wo_yX0_tellAll⟩ ⟨rfl, rfl, Nat.le_of_ble_eq_true rfl, Nat.le_of_ble_eq_true rfl⟩ 0 rfl 0 rfl rfl rfl rfl (Nat.le_of_ble_eq_true rfl) dX0_passHours_12 ⟨Nat.le_of_ble_eq_true rfl, Nat.le_of_ble_eq_true rfl⟩ rfl rfl ?_
        refine z_aload_n C dX0_passHours_15 rfl 2 rfl ?_
        have hi_3 : fl_Iv n (fl_fold (fl_coms1 n) n ((fl_fold (fl_tls1 n) n ((fl_fold (fl_clk1 n) n τ))))) := fl_coms_Iv hi_2
        refine z_cV C (st' := []) (B' := [(shF a cI cZ, (fl_fold (fl_coms1 n) n ((fl_fold (fl_tls1 n) n ((fl_fold (fl_clk1 n) n τ))))))]) [true] rfl (c_X0_commitAll l D cI cZ cJ a ((fl_fold (fl_tls1 n) n ((fl_fold (fl_clk1 n) n τ)))) n hi_2  ) wq_yX0_commitAll wm_X0_83 ⟨wn_yX0_commitAll, wo_yX0_commitAll⟩ ⟨rfl, rfl, Nat.le_of_ble_eq_true rfl, Nat.le_of_ble_eq_true rfl⟩ 0 rfl 0 rfl rfl rfl rfl (Nat.le_of_ble_eq_true rfl) dX0_passHours_16 ⟨Nat.le_of_ble_eq_true rfl, Nat.le_of_ble_eq_true rfl⟩ rfl rfl ?_
        refine z_aload_n C dX0_passHours_19 rfl 2 rfl ?_
        refine z_dup C rfl dX0_passHours_20 ?_
        refine z_getI C wu_X0 0 rfl 0 rfl rfl 1 (by decide) rfl wf_X0_54 dX0_passHours_21 ?_
        refine z_iconst C (v := nI (1)) (by decide) dX0_passHours_24 ?_
        refine z_iadd C dX0_passHours_25 ?_
        refine z_putI C (B' := [(shF a cI cZ, (zU (fl_fold (fl_coms1 n) n ((fl_fold (fl_tls1 n) n ((fl_fold (fl_clk1 n) n τ))))) 0 (1) ((fl_fold (fl_coms1 n) n ((fl_fold (fl_tls1 n) n ((fl_fold (fl_clk1 n) n τ))))) 0 (1) + nI (1))))]) wu_X0 tyX0_ok nmX0 0 rfl 0 rfl rfl 1 (by decide) rfl wf_X0_54 rfl (by decide +kernel) dX0_passHours_26 rfl ?_
        refine z_iinc C (L' := [(2, .int (nI (o + 1))), (1, .int (nI (h))), (0, .ref (a 0))]) dX0_passHours_29 0 rfl (z_inc1 _) (by decide) rfl ?_
        refine z_goto C (tgt := 2) dX0_passHours_32 (by decide) ?_
        refine z_sub (L' := [(2, .int (nI (o + 1))), (1, .int (nI (h))), (0, .ref (a 0))]) [0, 1, 2] rfl ?_
        exact ih_2 (o + 1) _ (by omega) (by omega) (by rw [fl_hours, ← hres]; rfl) (fl_hour_Iv hτ)
  refine z_sub (L' := [(2, .int (nI (0))), (1, .int (nI (h))), (0, .ref (a 0))]) [0, 2, 1] rfl ?_
  exact loop_2 (h + 1) 0 _ (by omega) (by omega) rfl hI
set_option maxHeartbeats 4000000 in
set_option maxRecDepth 100000 in
theorem c_X0_isLed (l : Launch) (D : va_G) (cI cZ cJ : ClassId) (a : Nat → Nat) (σ : zF) (n : Nat) (hI : fl_Iv n σ) : zM l D (tyL cI cZ cJ) yX0_isLed cX0_isLed 2 (some .boolean) (zR 1 23) [.ref (a 0)] [(shF a cI cZ, σ)] 0 0 (fun r u => r = some (.int (zb (fl_led n σ))) ∧ u = [(shF a cI cZ, σ)]) := by
  have hn3 := hI.n3
  have hn7 := hI.n7
  refine z_of (by decide) (Nat.le_of_ble_eq_true rfl) rfl ?_
  intro p e s m args below meth c A C hr hin
  obtain ⟨Q, hQ⟩ : ∃ Q, Q = MQ below (zQ (fun r u => r = some (.int (zb (fl_led n σ))) ∧ u = [(shF a cI cZ, σ)]) D (tyL cI cZ cJ) A) args s 0 0 A := ⟨_, rfl⟩
  rw [← hQ]
  refine z_iconst C (v := nI (0)) (by decide) dX0_isLed_0 ?_
  refine z_istore_n C (L' := [(1, .int (nI (0))), (0, .ref (a 0))]) dX0_isLed_1 rfl (by decide) rfl ?_
  have loop_2 : ∀ (k_2 o : Nat), n < o + k_2 → o ≤ n → (hv : fl_any (fl_led1 n σ) o = false) → zK p l e (zR 1 23) s m args below meth c D A 2 Q 0 0 2 [(1, .int (nI (o))), (0, .ref (a 0))] [] [(shF a cI cZ, σ)] := by
    intro k_2
    induction k_2 with
    | zero => intro o  m1_2 m2_2; exact absurd m1_2 (by omega)
    | succ k_2 ih_2 =>
      intro o  m1_2 m2_2 hv
      refine z_iload_n C dX0_isLed_2 rfl 0 rfl ?_
      refine z_aload_n C dX0_isLed_3 rfl 1 rfl ?_
      refine z_getI C wu_X0 0 rfl 0 rfl rfl 0 (by decide) rfl wf_X0_50 dX0_isLed_4 ?_
      refine z_top (hI.n0 : _ = nI n) ?_
      refine z_icmp_geN C (tgt := 43) dX0_isLed_7 (by decide) (by omega) (by omega) (fun c_7 => ?_) (fun c_7 => ?_)
      · refine z_iconst C (v := nI (0)) (by decide) dX0_isLed_43 ?_
        rw [hQ]; exact z_zret C hr (by decide) dX0_isLed_44 ⟨z_b0 (by first | (exact fl_any_of (i := o) (by simp only [fl_led1, c_15, c_32]; rfl) n (by omega)) | (rw [show n = o by omega] at hv ⊢; exact hv) | (rw [fl_led, show n = o by omega]; rw [show n = o by omega] at hv; exact hv)), rfl⟩
      · refine z_aload_n C dX0_isLed_10 rfl 1 rfl ?_
        refine z_iload_n C dX0_isLed_11 rfl 0 rfl ?_
        refine z_cV C (st' := [.int (zb (fl_lead σ o))]) (B' := [(shF a cI cZ, σ)]) [true] rfl (c_X0_leadsNow l D cI cZ cJ a σ n hI o (by omega)) wq_yX0_leadsNow wm_X0_89 ⟨wn_yX0_leadsNow, wo_yX0_leadsNow⟩ ⟨rfl, rfl, Nat.le_of_ble_eq_true rfl, Nat.le_of_ble_eq_true rfl⟩ 0 rfl 0 rfl rfl rfl rfl (Nat.le_of_ble_eq_true rfl) dX0_isLed_12 ⟨Nat.le_of_ble_eq_true rfl, Nat.le_of_ble_eq_true rfl⟩ rfl rfl ?_
        refine z_if_eqB C (tgt := 37) dX0_isLed_15 (by decide) (fun c_15 => ?_) (fun c_15 => ?_)
        · refine z_iinc C (L' := [(1, .int (nI (o + 1))), (0, .ref (a 0))]) dX0_isLed_37 0 rfl (z_inc1 _) (by decide) rfl ?_
          refine z_goto C (tgt := 2) dX0_isLed_40 (by decide) ?_
          refine z_sub (L' := [(1, .int (nI (o + 1))), (0, .ref (a 0))]) [0, 1] rfl ?_
          exact ih_2 (o + 1)  (by omega) (by omega) (fl_any_no hv (by simp [fl_led1, c_15]))
        · refine z_aload_n C dX0_isLed_18 rfl 1 rfl ?_
          refine z_aload_n C dX0_isLed_19 rfl 1 rfl ?_
          refine z_aload_n C dX0_isLed_20 rfl 1 rfl ?_
          refine z_getR C wu_X0 0 rfl 0 rfl rfl 10 (by decide) rfl wf_X0_27 dX0_isLed_21 ?_
          refine z_iload_n C dX0_isLed_24 rfl 0 rfl ?_
          refine z_iald C 0 rfl 6 0 rfl rfl dX0_isLed_25 (by omega) (by decide) ?_
          have hf_1 : fl_upIn n σ (σ 6 (o)) ≤ n  :=  fl_ct_le _ n
          refine z_cV C (st' := [.int (nI (fl_upIn n σ (σ 6 (o)))), .ref (a 0)]) (B' := [(shF a cI cZ, σ)]) [true] rfl (c_X0_upIn l D cI cZ cJ a σ n hI (σ 6 (o)) ) wq_yX0_upIn wm_X0_140 ⟨wn_yX0_upIn, wo_yX0_upIn⟩ ⟨rfl, rfl, Nat.le_of_ble_eq_true rfl, Nat.le_of_ble_eq_true rfl⟩ 0 rfl 0 rfl rfl rfl rfl (Nat.le_of_ble_eq_true rfl) dX0_isLed_26 ⟨Nat.le_of_ble_eq_true rfl, Nat.le_of_ble_eq_true rfl⟩ rfl rfl ?_
          refine z_cV C (st' := [.int (zb (decide (n / 2 < (fl_upIn n σ (σ 6 (o))))))]) (B' := [(shF a cI cZ, σ)]) [true] rfl (c_X0_isMoreThanHalf l D cI cZ cJ a σ n hI (fl_upIn n σ (σ 6 (o))) (by omega)) wq_yX0_isMoreThanHalf wm_X0_106 ⟨wn_yX0_isMoreThanHalf, wo_yX0_isMoreThanHalf⟩ ⟨rfl, rfl, Nat.le_of_ble_eq_true rfl, Nat.le_of_ble_eq_true rfl⟩ 0 rfl 0 rfl rfl rfl rfl (Nat.le_of_ble_eq_true rfl) dX0_isLed_29 ⟨Nat.le_of_ble_eq_true rfl, Nat.le_of_ble_eq_true rfl⟩ rfl rfl ?_
          refine z_if_eqB C (tgt := 37) dX0_isLed_32 (by decide) (fun c_32 => ?_) (fun c_32 => ?_)
          · refine z_iinc C (L' := [(1, .int (nI (o + 1))), (0, .ref (a 0))]) dX0_isLed_37 0 rfl (z_inc1 _) (by decide) rfl ?_
            refine z_goto C (tgt := 2) dX0_isLed_40 (by decide) ?_
            refine z_sub (L' := [(1, .int (nI (o + 1))), (0, .ref (a 0))]) [0, 1] rfl ?_
            exact ih_2 (o + 1)  (by omega) (by omega) (fl_any_no hv (by simp [fl_led1, c_15, c_32]))
          · refine z_iconst C (v := nI (1)) (by decide) dX0_isLed_35 ?_
            rw [hQ]; exact z_zret C hr (by decide) dX0_isLed_36 ⟨z_b1 (by first | (exact fl_any_of (i := o) (by simp only [fl_led1, c_15, c_32]; rfl) n (by omega)) | (rw [show n = o by omega] at hv ⊢; exact hv) | (rw [fl_led, show n = o by omega]; rw [show n = o by omega] at hv; exact hv)), rfl⟩
  refine z_sub (L' := [(1, .int (nI (0))), (0, .ref (a 0))]) [0, 1] rfl ?_
  exact loop_2 (n + 1) 0  (by omega) (by omega) rfl
set_option maxHeartbeats 4000000 in
set_option maxRecDepth 100000 in
theorem c_X0_newestIn (l : Launch) (D : va_G) (cI cZ cJ : ClassId) (a : Nat → Nat) (σ : zF) (n : Nat) (hI : fl_Iv n σ) (h : Int32) : zM l D (tyL cI cZ cJ) yX0_newestIn cX0_newestIn 4 (some .int) (zR 2 45) [.ref (a 0), .int (h)] [(shF a cI cZ, σ)] 0 0 (fun r u => r = some (.int (fl_oI (fl_nwst σ h n))) ∧ u = [(shF a cI cZ, σ)]) := by
  have hn3 := hI.n3
  have hn7 := hI.n7
  refine z_of (by decide) (Nat.le_of_ble_eq_true rfl) rfl ?_
  intro p e s m args below meth c A C hr hin
  obtain ⟨Q, hQ⟩ : ∃ Q, Q = MQ below (zQ (fun r u => r = some (.int (fl_oI (fl_nwst σ h n))) ∧ u = [(shF a cI cZ, σ)]) D (tyL cI cZ cJ) A) args s 0 0 A := ⟨_, rfl⟩
  rw [← hQ]
  refine z_iconst C (v := -1) (by decide) dX0_newestIn_0 ?_
  refine z_istore_n C (L' := [(2, .int (-1)), (0, .ref (a 0)), (1, .int (h))]) dX0_newestIn_1 rfl (by decide) rfl ?_
  refine z_iconst C (v := nI (0)) (by decide) dX0_newestIn_2 ?_
  refine z_istore_n C (L' := [(3, .int (nI (0))), (2, .int (-1)), (0, .ref (a 0)), (1, .int (h))]) dX0_newestIn_3 rfl (by decide) rfl ?_
  have loop_4 : ∀ (k_4 o : Nat) (r : Option Nat), n < o + k_4 → o ≤ n → (hbs : r = fl_nwst σ h o) → zK p l e (zR 2 45) s m args below meth c D A 4 Q 0 0 4 [(3, .int (nI (o))), (2, .int (fl_oI r)), (1, .int (h)), (0, .ref (a 0))] [] [(shF a cI cZ, σ)] := by
    intro k_4
    induction k_4 with
    | zero => intro o r m1_4 m2_4; exact absurd m1_4 (by omega)
    | succ k_4 ih_4 =>
      intro o r m1_4 m2_4 hbs
      refine z_iload_n C dX0_newestIn_4 rfl 0 rfl ?_
      refine z_aload_n C dX0_newestIn_5 rfl 3 rfl ?_
      refine z_getI C wu_X0 0 rfl 0 rfl rfl 0 (by decide) rfl wf_X0_50 dX0_newestIn_6 ?_
      refine z_top (hI.n0 : _ = nI n) ?_
      refine z_icmp_geN C (tgt := 56) dX0_newestIn_9 (by decide) (by omega) (by omega) (fun c_9 => ?_) (fun c_9 => ?_)
      · refine z_iload_n C dX0_newestIn_56 rfl 1 rfl ?_
        rw [hQ]; exact z_iret C hr dX0_newestIn_57 ⟨congrArg (fun x => some (Value.int x)) (by rw [hbs, show o = n by omega]), rfl⟩
      · refine z_aload_n C dX0_newestIn_12 rfl 3 rfl ?_
        refine z_getR C wu_X0 0 rfl 0 rfl rfl 11 (by decide) rfl wf_X0_30 dX0_newestIn_13 ?_
        refine z_iload_n C dX0_newestIn_16 rfl 0 rfl ?_
        refine z_zald C 0 rfl 7 1 rfl rfl dX0_newestIn_17 (by omega) (by decide) ?_
        refine z_if_eq C (tgt := 50) dX0_newestIn_18 (by decide) (fun c_18 => ?_) (fun c_18 => ?_)
        · refine z_iinc C (L' := [(3, .int (nI (o + 1))), (2, .int (fl_oI r)), (1, .int (h)), (0, .ref (a 0))]) dX0_newestIn_50 0 rfl (z_inc1 _) (by decide) rfl ?_
          refine z_goto C (tgt := 4) dX0_newestIn_53 (by decide) ?_
          refine z_sub (L' := [(3, .int (nI (o + 1))), (2, .int (fl_oI r)), (1, .int (h)), (0, .ref (a 0))]) [0, 1, 2, 3] rfl ?_
          exact ih_4 (o + 1) r (by omega) (by omega) (by rw [fl_nwst, ← hbs]; simp [c_18])
        · refine z_aload_n C dX0_newestIn_21 rfl 3 rfl ?_
          refine z_getR C wu_X0 0 rfl 0 rfl rfl 10 (by decide) rfl wf_X0_27 dX0_newestIn_22 ?_
          refine z_iload_n C dX0_newestIn_25 rfl 0 rfl ?_
          refine z_iald C 0 rfl 6 0 rfl rfl dX0_newestIn_26 (by omega) (by decide) ?_
          refine z_iload_n C dX0_newestIn_27 rfl 2 rfl ?_
          refine z_icmp_ne C (tgt := 50) dX0_newestIn_28 (by decide) (fun c_28 => ?_) (fun c_28 => ?_)
          · refine z_iinc C (L' := [(3, .int (nI (o + 1))), (2, .int (fl_oI r)), (1, .int (h)), (0, .ref (a 0))]) dX0_newestIn_50 0 rfl (z_inc1 _) (by decide) rfl ?_
            refine z_goto C (tgt := 4) dX0_newestIn_53 (by decide) ?_
            refine z_sub (L' := [(3, .int (nI (o + 1))), (2, .int (fl_oI r)), (1, .int (h)), (0, .ref (a 0))]) [0, 1, 2, 3] rfl ?_
            exact ih_4 (o + 1) r (by omega) (by omega) (by rw [fl_nwst, ← hbs]; simp [c_18, c_28])
          · rcases r with _ | j
            · refine z_sub (L' := [(3, .int (nI (o))), (2, .int (-1)), (1, .int (h)), (0, .ref (a 0))]) [0, 1, 2, 3] rfl ?_
              refine z_iload_n C dX0_newestIn_31 rfl 1 rfl ?_
              refine z_iconst C (v := -1) (by decide) dX0_newestIn_32 ?_
              refine z_icmp_eq C (tgt := 48) dX0_newestIn_33 (by decide) (fun c_33 => ?_) (fun c_33 => ?_)
              · refine z_iload_n C dX0_newestIn_48 rfl 0 rfl ?_
                refine z_istore_n C (L' := [(2, .int (nI (o))), (3, .int (nI (o))), (1, .int (h)), (0, .ref (a 0))]) dX0_newestIn_49 rfl (by decide) rfl ?_
                refine z_iinc C (L' := [(3, .int (nI (o + 1))), (2, .int (nI (o))), (1, .int (h)), (0, .ref (a 0))]) dX0_newestIn_50 1 rfl (z_inc1 _) (by decide) rfl ?_
                refine z_goto C (tgt := 4) dX0_newestIn_53 (by decide) ?_
                refine z_sub (L' := [(3, .int (nI (o + 1))), (2, .int (nI (o))), (1, .int (h)), (0, .ref (a 0))]) [0, 1, 2, 3] rfl ?_
                exact ih_4 (o + 1) (some o) (by omega) (by omega) (by rw [fl_nwst, ← hbs]; simp [c_18, c_28])
              · exact absurd rfl c_33
            · refine z_sub (L' := [(3, .int (nI (o))), (2, .int (nI (j))), (1, .int (h)), (0, .ref (a 0))]) [0, 1, 2, 3] rfl ?_
              have hjn : j < n := Nat.lt_trans (fl_nwst_lt σ h o j hbs.symm) (by omega)
              refine z_iload_n C dX0_newestIn_31 rfl 1 rfl ?_
              refine z_iconst C (v := -1) (by decide) dX0_newestIn_32 ?_
              refine z_icmp_eq C (tgt := 48) dX0_newestIn_33 (by decide) (fun c_33 => ?_) (fun c_33 => ?_)
              · exact absurd c_33 (nI_ne_m1 (by omega))
              · refine z_aload_n C dX0_newestIn_36 rfl 3 rfl ?_
                refine z_getR C wu_X0 0 rfl 0 rfl rfl 12 (by decide) rfl wf_X0_37 dX0_newestIn_37 ?_
                refine z_iload_n C dX0_newestIn_40 rfl 1 rfl ?_
                refine z_iload_n C dX0_newestIn_41 rfl 0 rfl ?_
                refine z_cV C (st' := [.int (zb (fl_nw σ j o))]) (B' := [(shF a cI cZ, σ)]) [true] rfl (c_X1_asNew l D cI cZ cJ a σ n hI j o (by omega) (by omega)) wq_yX1_asNew wm_X0_112 ⟨wn_yX1_asNew, wo_yX1_asNew⟩ ⟨rfl, rfl, Nat.le_of_ble_eq_true rfl, Nat.le_of_ble_eq_true rfl⟩ 0 rfl 12 rfl rfl rfl rfl (Nat.le_of_ble_eq_true rfl) dX0_newestIn_42 ⟨Nat.le_of_ble_eq_true rfl, Nat.le_of_ble_eq_true rfl⟩ rfl rfl ?_
                refine z_if_neB C (tgt := 50) dX0_newestIn_45 (by decide) (fun c_45 => ?_) (fun c_45 => ?_)
                · refine z_iinc C (L' := [(3, .int (nI (o + 1))), (2, .int (nI (j))), (1, .int (h)), (0, .ref (a 0))]) dX0_newestIn_50 0 rfl (z_inc1 _) (by decide) rfl ?_
                  refine z_goto C (tgt := 4) dX0_newestIn_53 (by decide) ?_
                  refine z_sub (L' := [(3, .int (nI (o + 1))), (2, .int (nI (j))), (1, .int (h)), (0, .ref (a 0))]) [0, 1, 2, 3] rfl ?_
                  exact ih_4 (o + 1) (some j) (by omega) (by omega) (by rw [fl_nwst, ← hbs]; simp [c_18, c_28, c_45])
                · refine z_iload_n C dX0_newestIn_48 rfl 0 rfl ?_
                  refine z_istore_n C (L' := [(2, .int (nI (o))), (3, .int (nI (o))), (1, .int (h)), (0, .ref (a 0))]) dX0_newestIn_49 rfl (by decide) rfl ?_
                  refine z_iinc C (L' := [(3, .int (nI (o + 1))), (2, .int (nI (o))), (1, .int (h)), (0, .ref (a 0))]) dX0_newestIn_50 1 rfl (z_inc1 _) (by decide) rfl ?_
                  refine z_goto C (tgt := 4) dX0_newestIn_53 (by decide) ?_
                  refine z_sub (L' := [(3, .int (nI (o + 1))), (2, .int (nI (o))), (1, .int (h)), (0, .ref (a 0))]) [0, 1, 2, 3] rfl ?_
                  exact ih_4 (o + 1) (some o) (by omega) (by omega) (by rw [fl_nwst, ← hbs]; simp [c_18, c_28, c_45])
  refine z_sub (L' := [(3, .int (nI (0))), (2, .int (-1)), (1, .int (h)), (0, .ref (a 0))]) [0, 1, 3, 2] rfl ?_
  exact loop_4 (n + 1) 0 none (by omega) (by omega) rfl
set_option maxHeartbeats 4000000 in
set_option maxRecDepth 100000 in
theorem c_X0_ofBoat (l : Launch) (D : va_G) (cI cZ cJ : ClassId) (a : Nat → Nat) (σ : zF) (n : Nat) (hI : fl_Iv n σ) (b : Nat) (w : Nat) (hb : b < n) (hw : w < 10) : zM l D (tyL cI cZ cJ) yX0_ofBoat cX0_ofBoat 3 (some .int) (zR 1 21) [.ref (a 0), .int (nI (b)), .int (nI (w))] [(shF a cI cZ, σ)] 0 0 (fun r u => r = some (.int (fl_ofB σ b w)) ∧ u = [(shF a cI cZ, σ)]) := by
  have hn3 := hI.n3
  have hn7 := hI.n7
  refine z_of (by decide) (Nat.le_of_ble_eq_true rfl) rfl ?_
  intro p e s m args below meth c A C hr hin
  obtain ⟨Q, hQ⟩ : ∃ Q, Q = MQ below (zQ (fun r u => r = some (.int (fl_ofB σ b w)) ∧ u = [(shF a cI cZ, σ)]) D (tyL cI cZ cJ) A) args s 0 0 A := ⟨_, rfl⟩
  rw [← hQ]
  refine z_iload_n C dX0_ofBoat_0 rfl 2 rfl ?_
  rcases (show w = 0 ∨ w = 1 ∨ w = 2 ∨ w = 3 ∨ w = 4 ∨ w = 5 ∨ w = 6 ∨ w = 7 ∨ w = 8 ∨ w = 9 by omega) with rfl | rfl | rfl | rfl | rfl | rfl | rfl | rfl | rfl | rfl
  · refine z_tabI C (tgt := 52) dX0_ofBoat_1 (by decide) (by decide) rfl (by decide) ?_
    refine z_aload_n C dX0_ofBoat_52 rfl 0 rfl ?_
    refine z_getR C wu_X0 0 rfl 0 rfl rfl 7 (by decide) rfl wf_X0_18 dX0_ofBoat_53 ?_
    refine z_iload_n C dX0_ofBoat_56 rfl 1 rfl ?_
    refine z_iald C 0 rfl 3 0 rfl rfl dX0_ofBoat_57 (by omega) (by decide) ?_
    rw [hQ]; exact z_iret C hr dX0_ofBoat_58 ⟨congrArg (fun x => some (Value.int x)) (by first | rfl | (exact (hI.ln (by omega)).symm) | (exact (hI.kn (by omega)).symm) | (simp [fl_ofB, zb, ])), rfl⟩
  · refine z_tabI C (tgt := 59) dX0_ofBoat_1 (by decide) (by decide) rfl (by decide) ?_
    refine z_aload_n C dX0_ofBoat_59 rfl 0 rfl ?_
    refine z_getR C wu_X0 0 rfl 0 rfl rfl 8 (by decide) rfl wf_X0_21 dX0_ofBoat_60 ?_
    refine z_iload_n C dX0_ofBoat_63 rfl 1 rfl ?_
    refine z_iald C 0 rfl 4 0 rfl rfl dX0_ofBoat_64 (by omega) (by decide) ?_
    rw [hQ]; exact z_iret C hr dX0_ofBoat_65 ⟨congrArg (fun x => some (Value.int x)) (by first | rfl | (exact (hI.ln (by omega)).symm) | (exact (hI.kn (by omega)).symm) | (simp [fl_ofB, zb, ])), rfl⟩
  · refine z_tabI C (tgt := 66) dX0_ofBoat_1 (by decide) (by decide) rfl (by decide) ?_
    refine z_aload_n C dX0_ofBoat_66 rfl 0 rfl ?_
    refine z_getR C wu_X0 0 rfl 0 rfl rfl 9 (by decide) rfl wf_X0_24 dX0_ofBoat_67 ?_
    refine z_iload_n C dX0_ofBoat_70 rfl 1 rfl ?_
    refine z_iald C 0 rfl 5 0 rfl rfl dX0_ofBoat_71 (by omega) (by decide) ?_
    rw [hQ]; exact z_iret C hr dX0_ofBoat_72 ⟨congrArg (fun x => some (Value.int x)) (by first | rfl | (exact (hI.ln (by omega)).symm) | (exact (hI.kn (by omega)).symm) | (simp [fl_ofB, zb, ])), rfl⟩
  · refine z_tabI C (tgt := 73) dX0_ofBoat_1 (by decide) (by decide) rfl (by decide) ?_
    refine z_aload_n C dX0_ofBoat_73 rfl 0 rfl ?_
    refine z_getR C wu_X0 0 rfl 0 rfl rfl 10 (by decide) rfl wf_X0_27 dX0_ofBoat_74 ?_
    refine z_iload_n C dX0_ofBoat_77 rfl 1 rfl ?_
    refine z_iald C 0 rfl 6 0 rfl rfl dX0_ofBoat_78 (by omega) (by decide) ?_
    rw [hQ]; exact z_iret C hr dX0_ofBoat_79 ⟨congrArg (fun x => some (Value.int x)) (by first | rfl | (exact (hI.ln (by omega)).symm) | (exact (hI.kn (by omega)).symm) | (simp [fl_ofB, zb, ])), rfl⟩
  · refine z_tabI C (tgt := 80) dX0_ofBoat_1 (by decide) (by decide) rfl (by decide) ?_
    refine z_aload_n C dX0_ofBoat_80 rfl 0 rfl ?_
    refine z_getR C wu_X0 0 rfl 0 rfl rfl 11 (by decide) rfl wf_X0_30 dX0_ofBoat_81 ?_
    refine z_iload_n C dX0_ofBoat_84 rfl 1 rfl ?_
    refine z_zald C 0 rfl 7 1 rfl rfl dX0_ofBoat_85 (by omega) (by decide) ?_
    refine z_if_eq C (tgt := 93) dX0_ofBoat_86 (by decide) (fun c_86 => ?_) (fun c_86 => ?_)
    · refine z_iconst C (v := nI (0)) (by decide) dX0_ofBoat_93 ?_
      rw [hQ]; exact z_iret C hr dX0_ofBoat_94 ⟨congrArg (fun x => some (Value.int x)) (by first | rfl | (exact (hI.ln (by omega)).symm) | (exact (hI.kn (by omega)).symm) | (simp [fl_ofB, zb, c_86])), rfl⟩
    · refine z_iconst C (v := nI (1)) (by decide) dX0_ofBoat_89 ?_
      refine z_goto C (tgt := 94) dX0_ofBoat_90 (by decide) ?_
      rw [hQ]; exact z_iret C hr dX0_ofBoat_94 ⟨congrArg (fun x => some (Value.int x)) (by first | rfl | (exact (hI.ln (by omega)).symm) | (exact (hI.kn (by omega)).symm) | (simp [fl_ofB, zb, c_86])), rfl⟩
  · refine z_tabI C (tgt := 95) dX0_ofBoat_1 (by decide) (by decide) rfl (by decide) ?_
    refine z_aload_n C dX0_ofBoat_95 rfl 0 rfl ?_
    refine z_getR C wu_X0 0 rfl 0 rfl rfl 5 (by decide) rfl wf_X0_9 dX0_ofBoat_96 ?_
    refine z_iload_n C dX0_ofBoat_99 rfl 1 rfl ?_
    refine z_iald C 0 rfl 1 0 rfl rfl dX0_ofBoat_100 (by omega) (by decide) ?_
    rw [hQ]; exact z_iret C hr dX0_ofBoat_101 ⟨congrArg (fun x => some (Value.int x)) (by first | rfl | (exact (hI.ln (by omega)).symm) | (exact (hI.kn (by omega)).symm) | (simp [fl_ofB, zb, ])), rfl⟩
  · refine z_tabI C (tgt := 102) dX0_ofBoat_1 (by decide) (by decide) rfl (by decide) ?_
    refine z_aload_n C dX0_ofBoat_102 rfl 0 rfl ?_
    refine z_getR C wu_X0 0 rfl 0 rfl rfl 6 (by decide) rfl wf_X0_15 dX0_ofBoat_103 ?_
    refine z_iload_n C dX0_ofBoat_106 rfl 1 rfl ?_
    refine z_iald C 0 rfl 2 0 rfl rfl dX0_ofBoat_107 (by omega) (by decide) ?_
    rw [hQ]; exact z_iret C hr dX0_ofBoat_108 ⟨congrArg (fun x => some (Value.int x)) (by first | rfl | (exact (hI.ln (by omega)).symm) | (exact (hI.kn (by omega)).symm) | (simp [fl_ofB, zb, ])), rfl⟩
  · refine z_tabI C (tgt := 109) dX0_ofBoat_1 (by decide) (by decide) rfl (by decide) ?_
    refine z_aload_n C dX0_ofBoat_109 rfl 0 rfl ?_
    refine z_getR C wu_X0 0 rfl 0 rfl rfl 12 (by decide) rfl wf_X0_37 dX0_ofBoat_110 ?_
    refine z_getR C wu_X1 0 rfl 12 rfl rfl 0 (by decide) rfl wf_X0_128 dX0_ofBoat_113 ?_
    refine z_iload_n C dX0_ofBoat_116 rfl 1 rfl ?_
    refine z_iald C 0 rfl 8 0 rfl rfl dX0_ofBoat_117 (by omega) (by decide) ?_
    refine z_top (y := nI (fl_ln σ b)) (hI.ln (by omega)) ?_
    have hb_1 := hI.lnT (i := b) (by omega)
    rw [hQ]; exact z_iret C hr dX0_ofBoat_118 ⟨congrArg (fun x => some (Value.int x)) (by first | rfl | (exact (hI.ln (by omega)).symm) | (exact (hI.kn (by omega)).symm) | (simp [fl_ofB, zb, ])), rfl⟩
  · refine z_tabI C (tgt := 119) dX0_ofBoat_1 (by decide) (by decide) rfl (by decide) ?_
    refine z_aload_n C dX0_ofBoat_119 rfl 0 rfl ?_
    refine z_getR C wu_X0 0 rfl 0 rfl rfl 12 (by decide) rfl wf_X0_37 dX0_ofBoat_120 ?_
    refine z_getR C wu_X1 0 rfl 12 rfl rfl 1 (by decide) rfl wf_X0_74 dX0_ofBoat_123 ?_
    refine z_iload_n C dX0_ofBoat_126 rfl 1 rfl ?_
    refine z_iald C 0 rfl 9 0 rfl rfl dX0_ofBoat_127 (by omega) (by decide) ?_
    refine z_top (y := nI (fl_kn σ b)) (hI.kn (by omega)) ?_
    have hb_2 := hI.knT (i := b) (by omega)
    rw [hQ]; exact z_iret C hr dX0_ofBoat_128 ⟨congrArg (fun x => some (Value.int x)) (by first | rfl | (exact (hI.ln (by omega)).symm) | (exact (hI.kn (by omega)).symm) | (simp [fl_ofB, zb, ])), rfl⟩
  · refine z_tabO C (tgt := 129) dX0_ofBoat_1 (by decide) (by decide) ?_
    refine z_aload_n C dX0_ofBoat_129 rfl 0 rfl ?_
    refine z_getR C wu_X0 0 rfl 0 rfl rfl 12 (by decide) rfl wf_X0_37 dX0_ofBoat_130 ?_
    refine z_iload_n C dX0_ofBoat_133 rfl 1 rfl ?_
    refine z_cV C (st' := [.int (fl_last σ b)]) (B' := [(shF a cI cZ, σ)]) [true] rfl (c_X1_lastTerm l D cI cZ cJ a σ n hI b (by omega)) wq_yX1_lastTerm wm_X0_144 ⟨wn_yX1_lastTerm, wo_yX1_lastTerm⟩ ⟨rfl, rfl, Nat.le_of_ble_eq_true rfl, Nat.le_of_ble_eq_true rfl⟩ 0 rfl 12 rfl rfl rfl rfl (Nat.le_of_ble_eq_true rfl) dX0_ofBoat_134 ⟨Nat.le_of_ble_eq_true rfl, Nat.le_of_ble_eq_true rfl⟩ rfl rfl ?_
    rw [hQ]; exact z_iret C hr dX0_ofBoat_137 ⟨congrArg (fun x => some (Value.int x)) (by first | rfl | (exact (hI.ln (by omega)).symm) | (exact (hI.kn (by omega)).symm) | (simp [fl_ofB, zb, ])), rfl⟩
set_option maxHeartbeats 4000000 in
set_option maxRecDepth 100000 in
theorem c_X0_ofEntry (l : Launch) (D : va_G) (cI cZ cJ : ClassId) (a : Nat → Nat) (σ : zF) (n : Nat) (hI : fl_Iv n σ) (b : Nat) (k : Nat) (w : Nat) (hb : b < n) (hk : k < 10) (hw : w < 3) : zM l D (tyL cI cZ cJ) yX0_ofEntry cX0_ofEntry 4 (some .int) (zR 3 71) [.ref (a 0), .int (nI (b)), .int (nI (k)), .int (nI (w))] [(shF a cI cZ, σ)] 0 0 (fun r u => r = some (.int (fl_ofE n σ b k w)) ∧ u = [(shF a cI cZ, σ)]) := by
  have hn3 := hI.n3
  have hn7 := hI.n7
  refine z_of (by decide) (Nat.le_of_ble_eq_true rfl) rfl ?_
  intro p e s m args below meth c A C hr hin
  obtain ⟨Q, hQ⟩ : ∃ Q, Q = MQ below (zQ (fun r u => r = some (.int (fl_ofE n σ b k w)) ∧ u = [(shF a cI cZ, σ)]) D (tyL cI cZ cJ) A) args s 0 0 A := ⟨_, rfl⟩
  rw [← hQ]
  refine z_iload_n C dX0_ofEntry_0 rfl 3 rfl ?_
  rcases (show w = 0 ∨ w = 1 ∨ w = 2 by omega) with rfl | rfl | rfl
  · refine z_look C (tgt := 28) dX0_ofEntry_1 (by decide) rfl (by decide) ?_
    refine z_aload_n C dX0_ofEntry_28 rfl 0 rfl ?_
    refine z_getR C wu_X0 0 rfl 0 rfl rfl 12 (by decide) rfl wf_X0_37 dX0_ofEntry_29 ?_
    refine z_iload_n C dX0_ofEntry_32 rfl 1 rfl ?_
    refine z_iload_n C dX0_ofEntry_33 rfl 2 rfl ?_
    refine z_cV C (st' := [.int (σ 10 ((b * 10) + k))]) (B' := [(shF a cI cZ, σ)]) [true] rfl (c_X1_termAt l D cI cZ cJ a σ n hI b k (by omega) (by omega)) wq_yX1_termAt wm_X0_131 ⟨wn_yX1_termAt, wo_yX1_termAt⟩ ⟨rfl, rfl, Nat.le_of_ble_eq_true rfl, Nat.le_of_ble_eq_true rfl⟩ 0 rfl 12 rfl rfl rfl rfl (Nat.le_of_ble_eq_true rfl) dX0_ofEntry_34 ⟨Nat.le_of_ble_eq_true rfl, Nat.le_of_ble_eq_true rfl⟩ rfl rfl ?_
    rw [hQ]; exact z_iret C hr dX0_ofEntry_37 ⟨congrArg (fun x => some (Value.int x)) (by rfl), rfl⟩
  · refine z_look C (tgt := 38) dX0_ofEntry_1 (by decide) rfl (by decide) ?_
    refine z_aload_n C dX0_ofEntry_38 rfl 0 rfl ?_
    refine z_getR C wu_X0 0 rfl 0 rfl rfl 12 (by decide) rfl wf_X0_37 dX0_ofEntry_39 ?_
    refine z_iload_n C dX0_ofEntry_42 rfl 1 rfl ?_
    refine z_iload_n C dX0_ofEntry_43 rfl 2 rfl ?_
    refine z_cV C (st' := [.int (σ 11 ((b * 10) + k))]) (B' := [(shF a cI cZ, σ)]) [true] rfl (c_X1_fishAt l D cI cZ cJ a σ n hI b k (by omega) (by omega)) wq_yX1_fishAt wm_X0_147 ⟨wn_yX1_fishAt, wo_yX1_fishAt⟩ ⟨rfl, rfl, Nat.le_of_ble_eq_true rfl, Nat.le_of_ble_eq_true rfl⟩ 0 rfl 12 rfl rfl rfl rfl (Nat.le_of_ble_eq_true rfl) dX0_ofEntry_44 ⟨Nat.le_of_ble_eq_true rfl, Nat.le_of_ble_eq_true rfl⟩ rfl rfl ?_
    rw [hQ]; exact z_iret C hr dX0_ofEntry_47 ⟨congrArg (fun x => some (Value.int x)) (by rfl), rfl⟩
  · refine z_look C (tgt := 48) dX0_ofEntry_1 (by decide) rfl (by decide) ?_
    refine z_aload_n C dX0_ofEntry_48 rfl 0 rfl ?_
    refine z_iload_n C dX0_ofEntry_49 rfl 1 rfl ?_
    refine z_iload_n C dX0_ofEntry_50 rfl 2 rfl ?_
    refine z_iconst C (v := nI (1)) (by decide) dX0_ofEntry_51 ?_
    refine z_iaddN C dX0_ofEntry_52 ?_
    refine z_cV C (st' := [.int (nI (fl_ct (fun o => decide ((k + 1) ≤ fl_agr σ b o)) n))]) (B' := [(shF a cI cZ, σ)]) [true] rfl (c_X0_boatsThatAgree l D cI cZ cJ a σ n hI b (k + 1) (by omega) (by omega)) wq_yX0_boatsThatAgree wm_X0_150 ⟨wn_yX0_boatsThatAgree, wo_yX0_boatsThatAgree⟩ ⟨rfl, rfl, Nat.le_of_ble_eq_true rfl, Nat.le_of_ble_eq_true rfl⟩ 0 rfl 0 rfl rfl rfl rfl (Nat.le_of_ble_eq_true rfl) dX0_ofEntry_53 ⟨Nat.le_of_ble_eq_true rfl, Nat.le_of_ble_eq_true rfl⟩ rfl rfl ?_
    rw [hQ]; exact z_iret C hr dX0_ofEntry_56 ⟨congrArg (fun x => some (Value.int x)) (by rfl), rfl⟩
set_option maxHeartbeats 4000000 in
set_option maxRecDepth 100000 in
theorem c_X0_ofFleet (l : Launch) (D : va_G) (cI cZ cJ : ClassId) (a : Nat → Nat) (σ : zF) (n : Nat) (hI : fl_Iv n σ) (w : Nat) (hw : w < 10) : zM l D (tyL cI cZ cJ) yX0_ofFleet cX0_ofFleet 2 (some .int) (zR 2 43) [.ref (a 0), .int (nI (w))] [(shF a cI cZ, σ)] 0 0 (fun r u => r = some (.int (fl_ofF n σ w)) ∧ u = [(shF a cI cZ, σ)]) := by
  have hn3 := hI.n3
  have hn7 := hI.n7
  refine z_of (by decide) (Nat.le_of_ble_eq_true rfl) rfl ?_
  intro p e s m args below meth c A C hr hin
  obtain ⟨Q, hQ⟩ : ∃ Q, Q = MQ below (zQ (fun r u => r = some (.int (fl_ofF n σ w)) ∧ u = [(shF a cI cZ, σ)]) D (tyL cI cZ cJ) A) args s 0 0 A := ⟨_, rfl⟩
  rw [← hQ]
  refine z_iload_n C dX0_ofFleet_0 rfl 1 rfl ?_
  rcases (show w = 0 ∨ w = 1 ∨ w = 2 ∨ w = 3 ∨ w = 4 ∨ w = 5 ∨ w = 6 ∨ w = 7 ∨ w = 8 ∨ w = 9 by omega) with rfl | rfl | rfl | rfl | rfl | rfl | rfl | rfl | rfl | rfl
  · refine z_tabI C (tgt := 52) dX0_ofFleet_1 (by decide) (by decide) rfl (by decide) ?_
    refine z_aload_n C dX0_ofFleet_52 rfl 0 rfl ?_
    refine z_getI C wu_X0 0 rfl 0 rfl rfl 1 (by decide) rfl wf_X0_54 dX0_ofFleet_53 ?_
    rw [hQ]; exact z_iret C hr dX0_ofFleet_56 ⟨congrArg (fun x => some (Value.int x)) (by rfl), rfl⟩
  · refine z_tabI C (tgt := 57) dX0_ofFleet_1 (by decide) (by decide) rfl (by decide) ?_
    refine z_aload_n C dX0_ofFleet_57 rfl 0 rfl ?_
    refine z_getI C wu_X0 0 rfl 0 rfl rfl 0 (by decide) rfl wf_X0_50 dX0_ofFleet_58 ?_
    refine z_top (hI.n0 : _ = nI n) ?_
    rw [hQ]; exact z_iret C hr dX0_ofFleet_61 ⟨congrArg (fun x => some (Value.int x)) (by rfl), rfl⟩
  · refine z_tabI C (tgt := 62) dX0_ofFleet_1 (by decide) (by decide) rfl (by decide) ?_
    refine z_aload_n C dX0_ofFleet_62 rfl 0 rfl ?_
    refine z_cV C (st' := [.int (nI (fl_ct (fun b => decide (¬ σ 7 b = 0)) n))]) (B' := [(shF a cI cZ, σ)]) [true] rfl (c_X0_boatsUp l D cI cZ cJ a σ n hI  ) wq_yX0_boatsUp wm_X0_153 ⟨wn_yX0_boatsUp, wo_yX0_boatsUp⟩ ⟨rfl, rfl, Nat.le_of_ble_eq_true rfl, Nat.le_of_ble_eq_true rfl⟩ 0 rfl 0 rfl rfl rfl rfl (Nat.le_of_ble_eq_true rfl) dX0_ofFleet_63 ⟨Nat.le_of_ble_eq_true rfl, Nat.le_of_ble_eq_true rfl⟩ rfl rfl ?_
    rw [hQ]; exact z_iret C hr dX0_ofFleet_66 ⟨congrArg (fun x => some (Value.int x)) (by rfl), rfl⟩
  · refine z_tabI C (tgt := 67) dX0_ofFleet_1 (by decide) (by decide) rfl (by decide) ?_
    refine z_aload_n C dX0_ofFleet_67 rfl 0 rfl ?_
    refine z_cV C (st' := [.int (nI (fl_ct (fl_lead σ) n))]) (B' := [(shF a cI cZ, σ)]) [true] rfl (c_X0_boatsLeading l D cI cZ cJ a σ n hI  ) wq_yX0_boatsLeading wm_X0_157 ⟨wn_yX0_boatsLeading, wo_yX0_boatsLeading⟩ ⟨rfl, rfl, Nat.le_of_ble_eq_true rfl, Nat.le_of_ble_eq_true rfl⟩ 0 rfl 0 rfl rfl rfl rfl (Nat.le_of_ble_eq_true rfl) dX0_ofFleet_68 ⟨Nat.le_of_ble_eq_true rfl, Nat.le_of_ble_eq_true rfl⟩ rfl rfl ?_
    rw [hQ]; exact z_iret C hr dX0_ofFleet_71 ⟨congrArg (fun x => some (Value.int x)) (by rfl), rfl⟩
  · refine z_tabI C (tgt := 72) dX0_ofFleet_1 (by decide) (by decide) rfl (by decide) ?_
    refine z_aload_n C dX0_ofFleet_72 rfl 0 rfl ?_
    refine z_cV C (st' := [.int (fl_max (σ 3) n)]) (B' := [(shF a cI cZ, σ)]) [true] rfl (c_X0_greatestTerm l D cI cZ cJ a σ n hI  ) wq_yX0_greatestTerm wm_X0_160 ⟨wn_yX0_greatestTerm, wo_yX0_greatestTerm⟩ ⟨rfl, rfl, Nat.le_of_ble_eq_true rfl, Nat.le_of_ble_eq_true rfl⟩ 0 rfl 0 rfl rfl rfl rfl (Nat.le_of_ble_eq_true rfl) dX0_ofFleet_73 ⟨Nat.le_of_ble_eq_true rfl, Nat.le_of_ble_eq_true rfl⟩ rfl rfl ?_
    rw [hQ]; exact z_iret C hr dX0_ofFleet_76 ⟨congrArg (fun x => some (Value.int x)) (by rfl), rfl⟩
  · refine z_tabI C (tgt := 77) dX0_ofFleet_1 (by decide) (by decide) rfl (by decide) ?_
    refine z_aload_n C dX0_ofFleet_77 rfl 0 rfl ?_
    refine z_getI C wu_X0 0 rfl 0 rfl rfl 2 (by decide) rfl wf_X0_57 dX0_ofFleet_78 ?_
    rw [hQ]; exact z_iret C hr dX0_ofFleet_81 ⟨congrArg (fun x => some (Value.int x)) (by rfl), rfl⟩
  · refine z_tabI C (tgt := 82) dX0_ofFleet_1 (by decide) (by decide) rfl (by decide) ?_
    refine z_aload_n C dX0_ofFleet_82 rfl 0 rfl ?_
    refine z_getI C wu_X0 0 rfl 0 rfl rfl 3 (by decide) rfl wf_X0_60 dX0_ofFleet_83 ?_
    rw [hQ]; exact z_iret C hr dX0_ofFleet_86 ⟨congrArg (fun x => some (Value.int x)) (by rfl), rfl⟩
  · refine z_tabI C (tgt := 87) dX0_ofFleet_1 (by decide) (by decide) rfl (by decide) ?_
    refine z_aload_n C dX0_ofFleet_87 rfl 0 rfl ?_
    refine z_getI C wu_X0 0 rfl 0 rfl rfl 4 (by decide) rfl wf_X0_63 dX0_ofFleet_88 ?_
    rw [hQ]; exact z_iret C hr dX0_ofFleet_91 ⟨congrArg (fun x => some (Value.int x)) (by rfl), rfl⟩
  · refine z_tabI C (tgt := 92) dX0_ofFleet_1 (by decide) (by decide) rfl (by decide) ?_
    refine z_aload_n C dX0_ofFleet_92 rfl 0 rfl ?_
    refine z_cV C (st' := [.int (fl_max (σ 9) n)]) (B' := [(shF a cI cZ, σ)]) [true] rfl (c_X0_mostKnown l D cI cZ cJ a σ n hI  ) wq_yX0_mostKnown wm_X0_163 ⟨wn_yX0_mostKnown, wo_yX0_mostKnown⟩ ⟨rfl, rfl, Nat.le_of_ble_eq_true rfl, Nat.le_of_ble_eq_true rfl⟩ 0 rfl 0 rfl rfl rfl rfl (Nat.le_of_ble_eq_true rfl) dX0_ofFleet_93 ⟨Nat.le_of_ble_eq_true rfl, Nat.le_of_ble_eq_true rfl⟩ rfl rfl ?_
    rw [hQ]; exact z_iret C hr dX0_ofFleet_96 ⟨congrArg (fun x => some (Value.int x)) (by rfl), rfl⟩
  · refine z_tabO C (tgt := 97) dX0_ofFleet_1 (by decide) (by decide) ?_
    refine z_aload_n C dX0_ofFleet_97 rfl 0 rfl ?_
    refine z_cV C (st' := [.int (fl_min (σ 9) n)]) (B' := [(shF a cI cZ, σ)]) [true] rfl (c_X0_fewestKnown l D cI cZ cJ a σ n hI  ) wq_yX0_fewestKnown wm_X0_166 ⟨wn_yX0_fewestKnown, wo_yX0_fewestKnown⟩ ⟨rfl, rfl, Nat.le_of_ble_eq_true rfl, Nat.le_of_ble_eq_true rfl⟩ 0 rfl 0 rfl rfl rfl rfl (Nat.le_of_ble_eq_true rfl) dX0_ofFleet_98 ⟨Nat.le_of_ble_eq_true rfl, Nat.le_of_ble_eq_true rfl⟩ rfl rfl ?_
    rw [hQ]; exact z_iret C hr dX0_ofFleet_101 ⟨congrArg (fun x => some (Value.int x)) (by rfl), rfl⟩
end
