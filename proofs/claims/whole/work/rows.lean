section
-- ===== PART A: goes FIRST, ahead of the names: the tables' words, and 'selects' of the private methods out of them =====
/-- a private method of a class that the tables say can be made, by its rows of tables_1 -/
def lw_okq (q : MethodName × Nat) : Prop := (q.1.cls ≠ "java/lang/invoke/MethodHandle" ∧ q.1.cls ≠ "java/lang/invoke/VarHandle") ∧ Cond.instantiable q.1.cls q.2 ∈ tables_1 ∧ Cond.privateMethod q.1 ∈ tables_1 ∧ Cond.instanceMethod q.1 ∈ tables_1
theorem lw_p0 : lw_okq (⟨"ExternalSorter", "clearCurrent", "()V"⟩, 15) := ⟨⟨by decide +kernel, by decide +kernel⟩, List.mem_of_getElem? (i := 9) (by decide +kernel), List.mem_of_getElem? (i := 74) (by decide +kernel), List.mem_of_getElem? (i := 75) (by decide +kernel)⟩
theorem lw_p1 : lw_okq (⟨"ExternalSorter", "append", "(II)V"⟩, 15) := ⟨⟨by decide +kernel, by decide +kernel⟩, List.mem_of_getElem? (i := 9) (by decide +kernel), List.mem_of_getElem? (i := 85) (by decide +kernel), List.mem_of_getElem? (i := 86) (by decide +kernel)⟩
theorem lw_p2 : lw_okq (⟨"ExternalSorter", "spilledPairs", "()I"⟩, 15) := ⟨⟨by decide +kernel, by decide +kernel⟩, List.mem_of_getElem? (i := 9) (by decide +kernel), List.mem_of_getElem? (i := 89) (by decide +kernel), List.mem_of_getElem? (i := 90) (by decide +kernel)⟩
theorem lw_p3 : lw_okq (⟨"ExternalSorter", "sortWorkArea", "()V"⟩, 15) := ⟨⟨by decide +kernel, by decide +kernel⟩, List.mem_of_getElem? (i := 9) (by decide +kernel), List.mem_of_getElem? (i := 93) (by decide +kernel), List.mem_of_getElem? (i := 94) (by decide +kernel)⟩
theorem lw_p4 : lw_okq (⟨"ExternalSorter", "insertRow", "(II)V"⟩, 15) := ⟨⟨by decide +kernel, by decide +kernel⟩, List.mem_of_getElem? (i := 9) (by decide +kernel), List.mem_of_getElem? (i := 97) (by decide +kernel), List.mem_of_getElem? (i := 98) (by decide +kernel)⟩
theorem lw_p5 : lw_okq (⟨"ExternalSorter", "keyOfRow", "(I)I"⟩, 15) := ⟨⟨by decide +kernel, by decide +kernel⟩, List.mem_of_getElem? (i := 9) (by decide +kernel), List.mem_of_getElem? (i := 104) (by decide +kernel), List.mem_of_getElem? (i := 105) (by decide +kernel)⟩
theorem lw_p6 : lw_okq (⟨"ExternalSorter", "countRowsOfRuns", "()V"⟩, 15) := ⟨⟨by decide +kernel, by decide +kernel⟩, List.mem_of_getElem? (i := 9) (by decide +kernel), List.mem_of_getElem? (i := 112) (by decide +kernel), List.mem_of_getElem? (i := 113) (by decide +kernel)⟩
theorem lw_p7 : lw_okq (⟨"ExternalSorter", "mergeRuns", "()V"⟩, 15) := ⟨⟨by decide +kernel, by decide +kernel⟩, List.mem_of_getElem? (i := 9) (by decide +kernel), List.mem_of_getElem? (i := 116) (by decide +kernel), List.mem_of_getElem? (i := 117) (by decide +kernel)⟩
theorem lw_p8 : lw_okq (⟨"ExternalSorter", "mergeNeighbours", "(I)V"⟩, 15) := ⟨⟨by decide +kernel, by decide +kernel⟩, List.mem_of_getElem? (i := 9) (by decide +kernel), List.mem_of_getElem? (i := 120) (by decide +kernel), List.mem_of_getElem? (i := 121) (by decide +kernel)⟩
theorem lw_p9 : lw_okq (⟨"ExternalSorter", "mergeStretches", "(III)V"⟩, 15) := ⟨⟨by decide +kernel, by decide +kernel⟩, List.mem_of_getElem? (i := 9) (by decide +kernel), List.mem_of_getElem? (i := 124) (by decide +kernel), List.mem_of_getElem? (i := 125) (by decide +kernel)⟩
theorem lw_p10 : lw_okq (⟨"ExternalSorter", "valueOfRow", "(I)I"⟩, 15) := ⟨⟨by decide +kernel, by decide +kernel⟩, List.mem_of_getElem? (i := 9) (by decide +kernel), List.mem_of_getElem? (i := 132) (by decide +kernel), List.mem_of_getElem? (i := 133) (by decide +kernel)⟩
theorem lw_p11 : lw_okq (⟨"ExternalSorter", "takeFromRun", "(I)V"⟩, 15) := ⟨⟨by decide +kernel, by decide +kernel⟩, List.mem_of_getElem? (i := 9) (by decide +kernel), List.mem_of_getElem? (i := 136) (by decide +kernel), List.mem_of_getElem? (i := 137) (by decide +kernel)⟩
theorem lw_p12 : lw_okq (⟨"ExternalSorter", "addToGroup", "(I)V"⟩, 15) := ⟨⟨by decide +kernel, by decide +kernel⟩, List.mem_of_getElem? (i := 9) (by decide +kernel), List.mem_of_getElem? (i := 144) (by decide +kernel), List.mem_of_getElem? (i := 145) (by decide +kernel)⟩
theorem lw_p13 : lw_okq (⟨"java/lang/Throwable", "fillInStackTrace", "(I)Ljava/lang/Throwable;"⟩, 6) := ⟨⟨by decide +kernel, by decide +kernel⟩, List.mem_of_getElem? (i := 207) (by decide +kernel), List.mem_of_getElem? (i := 205) (by decide +kernel), List.mem_of_getElem? (i := 206) (by decide +kernel)⟩
theorem lw_p14 : lw_okq (⟨"ExternalSorterModel", "take", "(II)V"⟩, 19) := ⟨⟨by decide +kernel, by decide +kernel⟩, List.mem_of_getElem? (i := 252) (by decide +kernel), List.mem_of_getElem? (i := 329) (by decide +kernel), List.mem_of_getElem? (i := 330) (by decide +kernel)⟩
theorem lw_p15 : lw_okq (⟨"ExternalSorterModel", "runsLeft", "()I"⟩, 19) := ⟨⟨by decide +kernel, by decide +kernel⟩, List.mem_of_getElem? (i := 252) (by decide +kernel), List.mem_of_getElem? (i := 369) (by decide +kernel), List.mem_of_getElem? (i := 370) (by decide +kernel)⟩
def lw_privs_1 : List (MethodName × Nat) := [(⟨"ExternalSorter", "clearCurrent", "()V"⟩, 15), (⟨"ExternalSorter", "append", "(II)V"⟩, 15), (⟨"ExternalSorter", "spilledPairs", "()I"⟩, 15), (⟨"ExternalSorter", "sortWorkArea", "()V"⟩, 15), (⟨"ExternalSorter", "insertRow", "(II)V"⟩, 15), (⟨"ExternalSorter", "keyOfRow", "(I)I"⟩, 15), (⟨"ExternalSorter", "countRowsOfRuns", "()V"⟩, 15), (⟨"ExternalSorter", "mergeRuns", "()V"⟩, 15), (⟨"ExternalSorter", "mergeNeighbours", "(I)V"⟩, 15), (⟨"ExternalSorter", "mergeStretches", "(III)V"⟩, 15), (⟨"ExternalSorter", "valueOfRow", "(I)I"⟩, 15), (⟨"ExternalSorter", "takeFromRun", "(I)V"⟩, 15), (⟨"ExternalSorter", "addToGroup", "(I)V"⟩, 15), (⟨"java/lang/Throwable", "fillInStackTrace", "(I)Ljava/lang/Throwable;"⟩, 6), (⟨"ExternalSorterModel", "take", "(II)V"⟩, 19), (⟨"ExternalSorterModel", "runsLeft", "()I"⟩, 19)]
theorem lw_r1 : ∀ q ∈ lw_privs_1, lw_okq q := List.forall_mem_cons.mpr ⟨lw_p0, List.forall_mem_cons.mpr ⟨lw_p1, List.forall_mem_cons.mpr ⟨lw_p2, List.forall_mem_cons.mpr ⟨lw_p3, List.forall_mem_cons.mpr ⟨lw_p4, List.forall_mem_cons.mpr ⟨lw_p5, List.forall_mem_cons.mpr ⟨lw_p6, List.forall_mem_cons.mpr ⟨lw_p7, List.forall_mem_cons.mpr ⟨lw_p8, List.forall_mem_cons.mpr ⟨lw_p9, List.forall_mem_cons.mpr ⟨lw_p10, List.forall_mem_cons.mpr ⟨lw_p11, List.forall_mem_cons.mpr ⟨lw_p12, List.forall_mem_cons.mpr ⟨lw_p13, List.forall_mem_cons.mpr ⟨lw_p14, List.forall_mem_cons.mpr ⟨lw_p15, fun _ h => absurd h List.not_mem_nil⟩⟩⟩⟩⟩⟩⟩⟩⟩⟩⟩⟩⟩⟩⟩⟩
def lw_privs : List (MethodName × Nat) := lw_privs_1
def lw_tbl : List Cond := k2_sels lw_privs ++ tables_1
theorem lw_privs_ok : ∀ q ∈ lw_privs, lw_okq q := lw_r1
end
section
/-! ===== BEGIN words of one list among another's, by their places ===== -/
theorem goodIn_r {big : List Cond} (ws : List Cond) (ps : List Nat) (hp : ws = ps.filterMap (fun i => big[i]?)) (h : ws.all goodWord = true) : GoodIn big ws := by
  intro w hw
  have h1 := List.all_eq_true.mp h w hw
  rw [hp] at hw
  obtain ⟨i, -, hi⟩ := List.mem_filterMap.mp hw
  have hm : w ∈ big := by first | exact List.mem_of_getElem? hi | exact List.getElem?_mem hi
  exact ⟨hm, good_of_word h1⟩
theorem goodIn_app {big a b : List Cond} (ha : GoodIn big a) (hb : GoodIn big b) : GoodIn big (a ++ b) := fun w h => (List.mem_append.mp h).elim (ha w) (hb w)
theorem goodIn_ca {big a b : List Cond} {c : Cond} (ha : GoodIn big (c :: a)) (hb : GoodIn big b) : GoodIn big (c :: (a ++ b)) := fun w h => (List.mem_cons.mp h).elim (fun e => ha w (List.mem_cons.mpr (Or.inl e))) (fun h => (List.mem_append.mp h).elim (fun h => ha w (List.mem_cons.mpr (Or.inr h))) (hb w))
theorem goodIn_sub {big ws : List Cond} (hm : ∀ w ∈ ws, w ∈ big) (h : ws.all goodWord = true) : GoodIn big ws := fun w hw => ⟨hm w hw, good_of_word (List.all_eq_true.mp h w hw)⟩
/-! ===== END ===== -/

/-! ===== BEGIN exceptions that leave a method, and their catching by the caller (launches without stack traces) ===== -/
section VXA
/-! The laws vx_back, vx_callV, vx_callS, vx_callSW, vx_throw0, vx_throwS follow proofs of the library, with one case more: JvmDerived/Free/Laws.lean (Back.of_free), Shelf42/LK1.lean (callV, callS), Shelf/KitTraced.lean (throwNew0V, throwNewS). -/
/-- where a method has thrown q: the class by its name, the cell, what was written, the world -/
def vx_T (XC : String → State → State → Prop) (st : State) (q : Addr) (t : State) (mc ms : Nat) (free : Addr → Prop) : Prop :=
  ∃ (E : String) (ce : Cell) (L : List Loc), XC E st t ∧ t.heap[q]? = some ce ∧ ce.vm = .none ∧ st.vm.findClass E = some ce.cls ∧ st.WarmedH t.vm ∧ st.sameButNew ({ t with vm := st.vm } : State) L mc ms ∧ ∀ z ∈ L, free z.base
def vx_Q (Qc : Array Value → State → Outcome → State → Prop) (XC : String → State → State → Prop) (mc ms : Nat) (free : Addr → Prop) : Array Value → State → Outcome → State → Prop := fun a st o t =>
  (Qc a st o t ∧ ∃ L, FrameEnd st o t L mc ms ∧ ∀ q ∈ L, free q.base) ∨ ∃ q, o = .threw q ∧ vx_T XC st q t mc ms free
/-- a callee that returns or throws -/
def vx_Met (l : Launch) (y : MethodName) (ws : List Cond) (rm : Room) (Pc : Array Value → State → Prop) (Qc : Array Value → State → Outcome → State → Prop) (XC : String → State → State → Prop) (mc ms : Nat) (free : Addr → Prop) : Prop :=
  MetFree l y (headSpec ws rm) Pc (fun _ _ _ _ _ => True) (vx_Q Qc XC mc ms free)
def vx_Post (XC : String → State → State → Prop) (mc ms : Nat) (free : Addr → Prop) : Pt → Array Value → Addr → Pt → Prop := fun A a q B =>
  ∃ (g : JFrame) (mk : MethodId) (t : State) (L : List Loc) (E : String) (ce : Cell), B.U.heap = t.heap ∧ B.U.vm = t.vm ∧ XC E (A.U.calling g mk a) t ∧ t.heap[q]? = some ce ∧ ce.vm = .none ∧ A.U.vm.findClass E = some ce.cls ∧ B.locs = A.locs ++ L ∧ (∀ z ∈ L, free z.base) ∧ B.cells = A.cells + mc ∧ B.slots = A.slots + ms
def vx_Back (l : Launch) (R : Room) (p : Program) (e : Env) (below : List Frame) (s : State) (sargs : Array Value) (y : MethodName) (len W9 : Nat)
    (Pre : Pt → Array Value → Prop) (Post : Pt → Array Value → Option Value → Pt → Prop) (PostX : Pt → Array Value → Addr → Pt → Prop) : Prop :=
  ∀ (m : MethodId) (meth : Method) (c : Code) (A : Pt) (g : JFrame) (ig : Instr) (mk : MethodId) (a : Array Value),
    Stand p l e R s m sargs below meth c A.U A.locs A.cells A.slots → g.method = m → g.locals.size = c.maxLocals → decode c.code g.pc = .ok (ig, len) →
    2 * g.monitorRoom + (g.stack.map fun v => v.category).sum ≤ W9 → A.U.methodNamed? y = some mk → Pre A a →
    (∃ (v : Option Value) (B : Pt), Stand p l e R s m sargs below meth c B.U B.locs B.cells B.slots ∧ Post A a v B ∧
      Steps p.tables e below (doInvoke e (A.U.setTop g) [] mk a).1 (B.U.setTop { g with pc := g.pc + len, stack := v.toList ++ g.stack })) ∨
    (∃ (q : Addr) (B : Pt), Stand p l e R s m sargs below meth c B.U B.locs B.cells B.slots ∧ PostX A a q B ∧
      Steps p.tables e below (doInvoke e (A.U.setTop g) [] mk a).1 ((B.U.setTop g).pushFrame (.throwing q)))
section Payer
variable {l : Launch} {R : Room} {p : Program} {e : Env} {below : List Frame} {s : State} {sargs : Array Value} {y : MethodName} {len W9 : Nat}
theorem vx_back {ws : List Cond} {rm : Room} {Pc : Array Value → State → Prop} {Qc : Array Value → State → Outcome → State → Prop} {XC : String → State → State → Prop} {mc ms : Nat} {free : Addr → Prop} {bytes : ByteArray} {maxL : Nat} {ret : Option FieldType}
    (hM : vx_Met l y ws rm Pc Qc XC mc ms free) (hblind : FrameBlind Pc) (hrc : rm.cells = mc) (hrs : rm.slots = ms)
    (hframes : rm.frames + 1 ≤ R.frames) (hlocals : W9 + (maxL + 11) + rm.locals ≤ R.locals)
    (hws : ∀ w ∈ ws, ∀ a' U, s.WarmedH U.vm → w.before a' U = true) (hcode : Cond.code y bytes maxL ret ∈ ws) (hinit : ∀ a' U, s.WarmedH U.vm → (Cond.initialized y.cls).before a' U = true) :
    vx_Back l R p e below s sargs y len W9 (PreOf R mc ms Pc) (PostOf Qc mc ms free) (vx_Post XC mc ms free) := by
  intro m meth c A g ig mk a X hg hsize hdg hW hn hp
  have h1 : (headSpec ws rm).pre.before a A.U = true := atoms_intro fun w hw => hws w hw _ _ X.warmed
  have h2 : (Cond.code y bytes maxL ret).before a A.U = true := hws _ hcode _ _ X.warmed
  have h3 : (Cond.initialized y.cls).before a A.U = true := hinit _ _ X.warmed
  have h4 : A.cells + (headSpec ws rm).room.cells ≤ R.cells := by rw [show (headSpec ws rm).room.cells = mc from hrc]; exact hp.1
  have h5 : A.slots + (headSpec ws rm).room.slots ≤ R.slots := by rw [show (headSpec ws rm).room.slots = ms from hrs]; exact hp.2.1
  have hPc : Pc a (A.U.calling g mk a) := hblind _ _ _ _ hp.2.2
  obtain ⟨U, Ls, c0, s0⟩ := A
  dsimp only [Pt.U, Pt.locs, Pt.cells, Pt.slots] at h1 h2 h3 h4 h5 X hn hPc ⊢
  obtain ⟨methY, cY, hmY, hcY, -, hlY, -, -, -, -⟩ := Cond.code_spec hn h2
  obtain ⟨kY, hkY, -⟩ := className_of_methodNamed hn
  have hinitY : kY.init = .initialized := Cond.initialized_spec (findClass_of_methodNamed hn) hkY h3
  have h : At U g.method c below := by rw [hg]; exact X.here
  have hlocals9 : W9 + (maxL + 11) + (headSpec ws rm).room.locals ≤ R.locals := hlocals
  have happ : (headSpec ws rm).appliesLoose y e.platform (U.calling g mk a) = true :=
    Spec.appliesLoose_calling (g := g) h hdg hn hkY hinitY
      (X.room_calling (g := g) (R' := (headSpec ws rm).room) hsize hmY hcY hframes (by rw [hlY]; omega) h4 h5) h1
  obtain ⟨mid, hmid⟩ := h.above
  have hfr : (U.setTop g).frames = (.java g :: mid) ++ below := by rw [State.frames_setTop' g h.top, hmid]; rfl
  obtain ⟨o, s₂, hsteps, -, hend, hq⟩ := Steps.callFree hM p X.admits X.cas X.clock (acts := []) hfr happ hPc trivial
  have hq' : vx_Q Qc XC mc ms free a (U.calling g mk a) o s₂ := hq
  rw [State.frames_setTop' g h.top] at hend
  obtain ⟨g₀, hg0⟩ := Option.isSome_iff_exists.mp h.top
  obtain ⟨r, hr⟩ := State.topJava?_eq_some.mp hg0
  have hr' : (({ U with heap := s₂.heap, slotsUsed := s₂.slotsUsed } : State).setVm s₂.vm).frames = .java g₀ :: r := hr
  rcases hq' with ⟨hqc, L, hfe, hL⟩ | ⟨q, rfl, E, ce, L, hx, hce, hcv, hcl, hW₂, hsm, hL⟩
  · obtain ⟨⟨v, rfl⟩, hW₂, e2, q2, q3, q4, q5, q6⟩ := id hfe
    have e3 : s₂ = ({ (U.calling g mk a).setFrames s₂.frames with heap := s₂.heap, slotsUsed := s₂.slotsUsed } : State).setVm s₂.vm := by
      have : s₂ = ({ s₂ with vm := (U.calling g mk a).vm } : State).setVm s₂.vm := rfl
      rw [e2] at this
      exact this
    obtain ⟨c₂, i₂, len₂, hc₂, hd₂, hf₂⟩ := hend
    have hW' : U.WarmedH s₂.vm := hW₂
    have hcc : c₂ = c := by
      have h1 : s₂.code? g.method = U.code? g.method := by
        rw [State.code?_eq, State.code?_eq, hW'.alike.method?]
      exact Option.some.inj (hc₂.symm.trans (h1.trans h.code))
    subst hcc
    have hlen : len₂ = len := by rw [hdg] at hd₂; cases hd₂; rfl
    subst hlen
    have hs₂ : s₂ = (({ U with heap := s₂.heap, slotsUsed := s₂.slotsUsed } : State).setVm s₂.vm).setTop { g with pc := g.pc + len₂, stack := v.toList ++ g.stack } := by
      refine e3.trans ?_
      rw [hf₂, State.calling_eq h.top, State.setFrames_setFrames, State.setTop_of_frames _ hr', hr]
      rfl
    have hsame : U.sameButNew ({ U with heap := s₂.heap, slotsUsed := s₂.slotsUsed } : State) L mc ms := by
      refine ⟨?_, q2, q3, q4, q5, q6⟩
      obtain ⟨t, ht, -⟩ := State.frames_cons hr
      show ({ U with heap := s₂.heap, slotsUsed := s₂.slotsUsed } : State) = { U.setFrames U.frames with heap := s₂.heap, slotsUsed := s₂.slotsUsed }
      rw [State.setFrames_self ht]
    subst hg
    refine Or.inl ⟨v, ⟨(({ U with heap := s₂.heap, slotsUsed := s₂.slotsUsed } : State).setVm s₂.vm), Ls ++ L, c0 + mc, s0 + ms⟩,
      ⟨X.admits, X.cas, X.clock, X.frames, X.room, X.hears, X.method, X.code, (X.here.setHeapUsed s₂.heap s₂.slotsUsed).setVm hW'.alike, X.tail, State.WarmedH.trans X.warmed hW', X.limits, X.bytes, X.same.trans (hsame.setVm s.vm)⟩,
      ⟨g, mk, s₂, L, rfl, rfl, hqc, rfl, hL, rfl, rfl⟩, ?_⟩
    show Steps p.tables e below _ ((({ U with heap := s₂.heap, slotsUsed := s₂.slotsUsed } : State).setVm s₂.vm).setTop { g with pc := g.pc + len₂, stack := v.toList ++ g.stack })
    rw [← hs₂]
    exact hsteps
  · obtain ⟨e2, q2, q3, q4, q5, q6⟩ := id hsm
    have e3 : s₂ = ({ (U.calling g mk a).setFrames s₂.frames with heap := s₂.heap, slotsUsed := s₂.slotsUsed } : State).setVm s₂.vm := by
      have : s₂ = ({ s₂ with vm := (U.calling g mk a).vm } : State).setVm s₂.vm := rfl
      rw [e2] at this
      exact this
    have hf₂ : s₂.frames = .throwing q :: .java g :: U.frames.tail := hend
    have hW' : U.WarmedH s₂.vm := hW₂
    have hs₂ : s₂ = ((({ U with heap := s₂.heap, slotsUsed := s₂.slotsUsed } : State).setVm s₂.vm).setTop g).pushFrame (.throwing q) := by
      refine e3.trans ?_
      rw [hf₂, State.calling_eq h.top, State.setFrames_setFrames, State.pushFrame, State.frames_setTop _ hr', State.setTop_of_frames _ hr', State.setFrames_setFrames, hr]
      rfl
    have hsame : U.sameButNew ({ U with heap := s₂.heap, slotsUsed := s₂.slotsUsed } : State) L mc ms := by
      refine ⟨?_, q2, q3, q4, q5, q6⟩
      obtain ⟨t, ht, -⟩ := State.frames_cons hr
      show ({ U with heap := s₂.heap, slotsUsed := s₂.slotsUsed } : State) = { U.setFrames U.frames with heap := s₂.heap, slotsUsed := s₂.slotsUsed }
      rw [State.setFrames_self ht]
    subst hg
    refine Or.inr ⟨q, ⟨(({ U with heap := s₂.heap, slotsUsed := s₂.slotsUsed } : State).setVm s₂.vm), Ls ++ L, c0 + mc, s0 + ms⟩,
      ⟨X.admits, X.cas, X.clock, X.frames, X.room, X.hears, X.method, X.code, (X.here.setHeapUsed s₂.heap s₂.slotsUsed).setVm hW'.alike, X.tail, State.WarmedH.trans X.warmed hW', X.limits, X.bytes, X.same.trans (hsame.setVm s.vm)⟩,
      ⟨g, mk, s₂, L, E, ce, rfl, rfl, hx, hce, hcv, hcl, rfl, hL, rfl, rfl⟩, ?_⟩
    show Steps p.tables e below _ (((({ U with heap := s₂.heap, slotsUsed := s₂.slotsUsed } : State).setVm s₂.vm).setTop g).pushFrame (.throwing q))
    rw [← hs₂]
    exact hsteps
end Payer
section Calls
variable {p : Program} {l : Launch} {e : Env} {R : Room} {s : State} {m : MethodId} {args : Array Value} {below : List Frame} {meth : Method} {c : Code} {T : State} {locs : List Loc} {cells slots : Nat}
theorem vx_callV (X : Stand p l e R s m args below meth c T locs cells slots) (hexec : p.tables.exec = Jvm.exec) {own C : String} {index : Nat} {y : MethodName} {bytes : ByteArray} {maxL : Nat} {ret : Option FieldType}
    (hown : s.vm.findClass own = some m.cls) (hlink : (Cond.methodLink own index y).before args s = true) (hinst : (Cond.instanceMethod y).before args s = true) (hsel : (Cond.selects C y y).before args s = true)
    (hcode : (Cond.code y bytes maxL ret).before args s = true) (hy : y.cls ≠ "java/lang/invoke/MethodHandle" ∧ y.cls ≠ "java/lang/invoke/VarHandle")
    {W9 : Nat} {Pre : Pt → Array Value → Prop} {Post : Pt → Array Value → Option Value → Pt → Prop} {PostX : Pt → Array Value → Addr → Pt → Prop} (hK : vx_Back l R p e below s args y 3 W9 Pre Post PostX)
    {b : Addr} {cellB : Cell} (hcell : T.heap[b]? = some cellB) (hobj : cellB.vm.isStatics = false) (hcls : s.vm.findClass C = some cellB.cls)
    {g : JFrame} (hg : g.method = m) (hsize : g.locals.size = c.maxLocals) {argsL rest : List Value} (hlen : ∀ sig, parseMethodDescriptor y.desc = some sig → argsL.length = sig.parameters.length)
    (hstack : g.stack = argsL.reverse ++ .ref b :: rest) (hW : 2 * g.monitorRoom + (rest.map fun v => v.category).sum ≤ W9) (hdg : decode c.code g.pc = .ok (.invokevirtual index, 3))
    (hpre : ∀ vm₁, s.WarmedH vm₁ → Pre ⟨T.setVm vm₁, locs, cells, slots⟩ (Value.ref b :: argsL).toArray) :
    (∃ (v : Option Value) (vm₁ : Vm) (B : Pt), s.WarmedH vm₁ ∧ Stand p l e R s m args below meth c B.U B.locs B.cells B.slots ∧ Post ⟨T.setVm vm₁, locs, cells, slots⟩ (Value.ref b :: argsL).toArray v B ∧
      ∀ target, Steps p.tables e below (B.U.setTop { g with pc := g.pc + 3, stack := v.toList ++ rest }) target → Steps p.tables e below (T.setTop g) target) ∨
    (∃ (q : Addr) (vm₁ : Vm) (B : Pt), s.WarmedH vm₁ ∧ Stand p l e R s m args below meth c B.U B.locs B.cells B.slots ∧ PostX ⟨T.setVm vm₁, locs, cells, slots⟩ (Value.ref b :: argsL).toArray q B ∧
      Steps p.tables e below (T.setTop g) ((B.U.setTop { g with stack := rest }).pushFrame (.throwing q))) := by
  obtain ⟨mk, methM, hnamed, hmethM, hstM, habM⟩ := Cond.instanceMethod_spec hinst
  obtain ⟨methM', cM, hmethM', -, -, -, -, -, -, hsigM⟩ := Cond.code_spec hnamed hcode
  cases hmethM.symm.trans hmethM'
  obtain ⟨c2, r2, m2, q1, q2, q3, q4, kP, hkP, hkPi⟩ := Cond.selects_spec hsel
  cases hcls.symm.trans q1
  cases (State.methodFound?_of_named hnamed hy).symm.trans q2
  cases hnamed.symm.trans q3
  have hselP : selectMethod e.platform s.vm cellB.cls mk = .method mk := by rw [Launch.admits_selectMethod X.admits]; exact q4
  obtain ⟨vm₁, X₁, hstep₁⟩ := X.invokevirtual hexec hown hlink hnamed hmethM hstM hkP hkPi hy (a := b) (cell := cellB) hcell
    (fun z h => by rw [h] at hobj; cases hobj) hselP hmethM habM hkP hkPi (g := g) hg (argsL := argsL) (rest := rest) (hlen _ hsigM) hstack hdg
  rcases hK m meth c ⟨T.setVm vm₁, locs, cells, slots⟩ { g with stack := rest } (.invokevirtual index) mk (Value.ref b :: argsL).toArray X₁ hg hsize hdg hW (X₁.named hnamed) (hpre vm₁ X₁.warmed) with ⟨v, B, X', hpost, hsteps⟩ | ⟨q, B, X', hpost, hsteps⟩
  · exact Or.inl ⟨v, vm₁, B, X₁.warmed, X', hpost, fun target h => hstep₁ _ fun acts => by rw [doInvoke_state]; exact hsteps.trans h⟩
  · exact Or.inr ⟨q, vm₁, B, X₁.warmed, X', hpost, hstep₁ _ fun acts => by rw [doInvoke_state]; exact hsteps⟩
theorem vx_callS (X : Stand p l e R s m args below meth c T locs cells slots) (hexec : p.tables.exec = Jvm.exec) {own : String} {index : Nat} {y : MethodName} {bytes : ByteArray} {maxL : Nat} {ret : Option FieldType}
    (hown : s.vm.findClass own = some m.cls) (hlink : (Cond.methodLink own index y).before args s = true) (hstat : (Cond.static y).before args s = true) (hinit : (Cond.initialized y.cls).before args s = true)
    (hcode : (Cond.code y bytes maxL ret).before args s = true) (hy : y.cls ≠ "java/lang/invoke/MethodHandle" ∧ y.cls ≠ "java/lang/invoke/VarHandle")
    {W9 : Nat} {Pre : Pt → Array Value → Prop} {Post : Pt → Array Value → Option Value → Pt → Prop} {PostX : Pt → Array Value → Addr → Pt → Prop} (hK : vx_Back l R p e below s args y 3 W9 Pre Post PostX)
    {g : JFrame} (hg : g.method = m) (hsize : g.locals.size = c.maxLocals) {argsL rest : List Value} (hlen : ∀ sig, parseMethodDescriptor y.desc = some sig → argsL.length = sig.parameters.length)
    (hstack : g.stack = argsL.reverse ++ rest) (hW : 2 * g.monitorRoom + (rest.map fun v => v.category).sum ≤ W9) (hdg : decode c.code g.pc = .ok (.invokestatic index, 3))
    (hpre : ∀ vm₁, s.WarmedH vm₁ → Pre ⟨T.setVm vm₁, locs, cells, slots⟩ argsL.toArray) :
    (∃ (v : Option Value) (vm₁ : Vm) (B : Pt), s.WarmedH vm₁ ∧ Stand p l e R s m args below meth c B.U B.locs B.cells B.slots ∧ Post ⟨T.setVm vm₁, locs, cells, slots⟩ argsL.toArray v B ∧
      ∀ target, Steps p.tables e below (B.U.setTop { g with pc := g.pc + 3, stack := v.toList ++ rest }) target → Steps p.tables e below (T.setTop g) target) ∨
    (∃ (q : Addr) (vm₁ : Vm) (B : Pt), s.WarmedH vm₁ ∧ Stand p l e R s m args below meth c B.U B.locs B.cells B.slots ∧ PostX ⟨T.setVm vm₁, locs, cells, slots⟩ argsL.toArray q B ∧
      Steps p.tables e below (T.setTop g) ((B.U.setTop { g with stack := rest }).pushFrame (.throwing q))) := by
  obtain ⟨mk, hnamed⟩ := Cond.code_named hcode
  obtain ⟨methM, cM, hmethM, -, -, -, -, -, -, hsigM⟩ := Cond.code_spec hnamed hcode
  have hstatic : methM.isStatic = true := Cond.static_spec hnamed hmethM hstat
  obtain ⟨kP, hkP, -⟩ := className_of_methodNamed hnamed
  have hinitP : kP.init = .initialized := Cond.initialized_spec (findClass_of_methodNamed hnamed) hkP hinit
  obtain ⟨vm₁, X₁, hstep₁⟩ := X.invokestatic hexec hown hlink hnamed hmethM hstatic hkP hinitP hy (g := g) hg (argsL := argsL) (rest := rest) (hlen _ hsigM) hstack hdg
  rcases hK m meth c ⟨T.setVm vm₁, locs, cells, slots⟩ { g with stack := rest } (.invokestatic index) mk argsL.toArray X₁ hg hsize hdg hW (X₁.named hnamed) (hpre vm₁ X₁.warmed) with ⟨v, B, X', hpost, hsteps⟩ | ⟨q, B, X', hpost, hsteps⟩
  · exact Or.inl ⟨v, vm₁, B, X₁.warmed, X', hpost, fun target h => hstep₁ _ fun acts => by rw [doInvoke_state]; exact hsteps.trans h⟩
  · exact Or.inr ⟨q, vm₁, B, X₁.warmed, X', hpost, hstep₁ _ fun acts => by rw [doInvoke_state]; exact hsteps⟩
end Calls
theorem vx_cls {s : State} {T : State} {vm₁ : Vm} {E : String} {k : ClassId} (hW : s.WarmedH vm₁) (h : (T.setVm vm₁).vm.findClass E = some k) : s.vm.findClass E = some k := by
  have h1 : vm₁.findClass E = some k := h
  rw [hW.alike.findClass] at h1
  exact h1
/-- the method's frame g, with q thrown over it -/
def vx_W (p : Program) (l : Launch) (e : Env) (R : Room) (s : State) (m : MethodId) (args : Array Value) (below : List Frame) (meth : Method) (c : Code) (H : Heap) (locs : List Loc) (cells slots : Nat) (Q : State → Prop) (g : JFrame) (q : Addr) : Prop :=
  ∀ T : State, T.heap = H → Stand p l e R s m args below meth c T locs cells slots → ∃ t, Steps p.tables e below ((T.setTop g).pushFrame (.throwing q)) t ∧ Q t
def vx_Run (p : Program) (l : Launch) (e : Env) (R : Room) (s : State) (m : MethodId) (args : Array Value) (below : List Frame) (meth : Method) (c : Code) (H : Heap) (locs : List Loc) (cells slots mc ms : Nat) (g : JFrame) (rest : List Value) (Qa : State → Outcome → State → Prop) (XC : String → State → State → Prop) (free : Addr → Prop) : Prop :=
  ∀ T : State, T.heap = H → Stand p l e R s m args below meth c T locs cells slots →
    (∃ (v : Option Value) (st₀ t T' : State) (L : List Loc), st₀.heap = H ∧ Stand p l e R s m args below meth c T' (locs ++ L) (cells + mc) (slots + ms) ∧ (∀ q ∈ L, free q.base) ∧ T'.heap = t.heap ∧ T'.vm = t.vm ∧ Qa st₀ (.returned v) t ∧
      Goes p e below T g T' { g with pc := g.pc + 3, stack := v.toList ++ rest }) ∨
    (∃ (q : Addr) (st₀ t T' : State) (L : List Loc) (E : String) (ce : Cell), st₀.heap = H ∧ Stand p l e R s m args below meth c T' (locs ++ L) (cells + mc) (slots + ms) ∧ (∀ z ∈ L, free z.base) ∧ T'.heap = t.heap ∧ T'.vm = t.vm ∧ XC E st₀ t ∧ t.heap[q]? = some ce ∧ ce.vm = .none ∧ s.vm.findClass E = some ce.cls ∧
      Steps p.tables e below (T.setTop g) ((T'.setTop { g with stack := rest }).pushFrame (.throwing q)))
def vx_X {S : Type} (px : S → Prop) (B : String → S → State → Prop) (A : Nat → Prop) : String → State → State → Prop := fun E st t => ∃ u : S, px u ∧ B E u t ∧ va_F A st t
section Runs
variable {p : Program} {l : Launch} {e : Env} {R : Room} {s : State} {m : MethodId} {args : Array Value} {below : List Frame} {meth : Method} {c : Code} {H : Heap} {locs : List Loc} {cells slots : Nat}
variable {y : MethodName} {bytes cc : ByteArray} {maxL nL mc ms n index : Nat} {ret : Option FieldType} {ws : List Cond} {rm : Room} {Pc : Array Value → State → Prop} {Qc : Array Value → State → Outcome → State → Prop} {XC : String → State → State → Prop} {free : Addr → Prop} {Ts : List Cond} {own C : String} {b : Addr} {As rest : List Value} {g : JFrame}
theorem vx_callBack (cb : CallB R s args own index y bytes maxL ret ws rm mc ms n) (hM : vx_Met l y ws rm Pc Qc XC mc ms free) (hbl : FrameBlind Pc) : vx_Back l R p e below s args y 3 8 (PreOf R mc ms Pc) (PostOf Qc mc ms free) (vx_Post XC mc ms free) := by
  obtain ⟨hrc, hrs, hfr, hlo, hws, hcw, -, hini, -⟩ := cb
  exact vx_back (bytes := bytes) (maxL := maxL) (ret := ret) hM hbl hrc hrs hfr hlo hws hcw (fun a' U hW => word_at hW (Or.inl (by first | rfl | simp [Cond.onTables, Cond.keeps, Cond.steady])) hini)
theorem vx_runV (S : CallFix p m c cc nL s args Ts own) (hM : vx_Met l y ws rm Pc Qc XC mc ms free) (cw : CallW R s args own C index y bytes maxL ret ws rm mc ms n) (hp : PreV s H C b Pc As)
    (hg : g.method = m) (hn : As.length = n) (hsize : g.locals.size = nL) (hstack : g.stack = As.reverse ++ .ref b :: rest) (hW : 2 * g.monitorRoom + (rest.map fun v => v.category).sum ≤ 8) (hdg : decode cc g.pc = .ok (.invokevirtual index, 3)) (hf : cells + mc ≤ R.cells ∧ slots + ms ≤ R.slots) :
    vx_Run p l e R s m args below meth c H locs cells slots mc ms g rest (Qc (Value.ref b :: As).toArray) XC free := by
  have hK : vx_Back l R p e below s args y 3 8 (PreOf R mc ms Pc) (PostOf Qc mc ms free) (vx_Post XC mc ms free) := vx_callBack cw.1 hM hp.1
  obtain ⟨⟨-, -, -, -, -, -, hcode, -, hy, hlen, hl⟩, hin, hse⟩ := cw
  obtain ⟨hx, hb, hml, ho, -⟩ := S
  obtain ⟨-, ⟨cellB, hcB, hoB, hclB⟩, hPc⟩ := hp
  intro T hT X
  rcases vx_callV X hx (C := C) (bytes := bytes) (maxL := maxL) (ret := ret) ho hl hin hse hcode hy hK (by rw [hT]; exact hcB) hoB hclB hg (hsize.trans hml.symm) (argsL := As) (rest := rest) (fun sig h => hn.trans (hlen sig h)) hstack hW (by rw [hb]; exact hdg)
    (fun vm₁ hW₁ => ⟨hf.1, hf.2, hPc (T.setVm vm₁) hT hW₁⟩) with ⟨v, vm₁, ⟨U', l2, c2, s2⟩, hW₁, X', ⟨g', mk, t, L, e1, e2, hq, h1, hL, h2, h3⟩, st⟩ | ⟨q, vm₁, ⟨U', l2, c2, s2⟩, hW₁, X', ⟨g', mk, t, L, E, ce, e1, e2, hq, hce, hcv, hcl, h1, hL, h2, h3⟩, st⟩
  · dsimp only [Pt.U, Pt.locs, Pt.cells, Pt.slots] at X' e1 e2 h1 h2 h3 st
    subst h1; subst h2; subst h3
    exact Or.inl ⟨v, (T.setVm vm₁).calling g' mk (Value.ref b :: As).toArray, t, U', L, hT, X', hL, e1, e2, hq, st⟩
  · dsimp only [Pt.U, Pt.locs, Pt.cells, Pt.slots] at X' e1 e2 h1 h2 h3 st hcl
    subst h1; subst h2; subst h3
    exact Or.inr ⟨q, (T.setVm vm₁).calling g' mk (Value.ref b :: As).toArray, t, U', L, E, ce, hT, X', hL, e1, e2, hq, hce, hcv, vx_cls hW₁ hcl, st⟩
theorem vx_runS (S : CallFix p m c cc nL s args Ts own) (hM : vx_Met l y ws rm Pc Qc XC mc ms free) (cw : CallB R s args own index y bytes maxL ret ws rm mc ms n ∧ (Cond.static y).before args s = true) (hp : PreS s H Pc As)
    (hg : g.method = m) (hn : As.length = n) (hsize : g.locals.size = nL) (hstack : g.stack = As.reverse ++ rest) (hW : 2 * g.monitorRoom + (rest.map fun v => v.category).sum ≤ 8) (hdg : decode cc g.pc = .ok (.invokestatic index, 3)) (hf : cells + mc ≤ R.cells ∧ slots + ms ≤ R.slots) :
    vx_Run p l e R s m args below meth c H locs cells slots mc ms g rest (Qc As.toArray) XC free := by
  have hK : vx_Back l R p e below s args y 3 8 (PreOf R mc ms Pc) (PostOf Qc mc ms free) (vx_Post XC mc ms free) := vx_callBack cw.1 hM hp.1
  obtain ⟨⟨-, -, -, -, -, -, hcode, hini, hy, hlen, hl⟩, hstt⟩ := cw
  obtain ⟨hx, hb, hml, ho, -⟩ := S
  intro T hT X
  rcases vx_callS X hx (bytes := bytes) (maxL := maxL) (ret := ret) ho hl hstt hini hcode hy hK hg (hsize.trans hml.symm) (argsL := As) (rest := rest) (fun sig h => hn.trans (hlen sig h)) hstack hW (by rw [hb]; exact hdg)
    (fun vm₁ hW₁ => ⟨hf.1, hf.2, hp.2 (T.setVm vm₁) hT hW₁⟩) with ⟨v, vm₁, ⟨U', l2, c2, s2⟩, hW₁, X', ⟨g', mk, t, L, e1, e2, hq, h1, hL, h2, h3⟩, st⟩ | ⟨q, vm₁, ⟨U', l2, c2, s2⟩, hW₁, X', ⟨g', mk, t, L, E, ce, e1, e2, hq, hce, hcv, hcl, h1, hL, h2, h3⟩, st⟩
  · dsimp only [Pt.U, Pt.locs, Pt.cells, Pt.slots] at X' e1 e2 h1 h2 h3 st
    subst h1; subst h2; subst h3
    exact Or.inl ⟨v, (T.setVm vm₁).calling g' mk As.toArray, t, U', L, hT, X', hL, e1, e2, hq, st⟩
  · dsimp only [Pt.U, Pt.locs, Pt.cells, Pt.slots] at X' e1 e2 h1 h2 h3 st hcl
    subst h1; subst h2; subst h3
    exact Or.inr ⟨q, (T.setVm vm₁).calling g' mk As.toArray, t, U', L, E, ce, hT, X', hL, e1, e2, hq, hce, hcv, vx_cls hW₁ hcl, st⟩
end Runs
section Rows
variable {p : Program} {l : Launch} {e : Env} {R : Room} {s : State} {m : MethodId} {args : Array Value} {below : List Frame} {meth : Method} {c : Code} {H : Heap} {locs : List Loc} {cells slots : Nat} {Q : State → Prop}
variable {mc ms : Nat} {free : Addr → Prop} {A0 A1 : Nat → Prop} {H0 : Heap} {a : Array Value} {pc : Nat} {ls : Array Slot} {st0 rest : List Value}
theorem vx_keep {st₀ t T' : State} {L : List Loc} (h0 : st₀.heap = H) (e1 : T'.heap = t.heap) (hS : va_S A0 H0 H locs) (hA : ∀ q, q < H.size → A1 q → A0 q) (hf : ∀ q, free q → A0 q) (hL : ∀ q ∈ L, free q.base) (hF : va_F A1 st₀ t) :
    H.size ≤ T'.heap.size ∧ (∀ q : Nat, q < H.size → ¬ A1 q → T'.heap[q]? = H[q]?) ∧ va_S A0 H0 T'.heap (locs ++ L) := by
  obtain ⟨hz, hk⟩ := hF
  rw [h0] at hz hk
  exact ⟨by rw [e1]; exact hz, fun q h1 h2 => by rw [e1]; exact hk q h1 h2,
    ⟨Nat.le_trans hS.1 (by rw [e1]; exact hz), fun q h1 h2 => by rw [e1, hk q (Nat.lt_of_lt_of_le h1 hS.1) (fun z => h2 (hA q (Nat.lt_of_lt_of_le h1 hS.1) z))]; exact hS.2.1 q h1 h2, fun q hq => by
      rcases List.mem_append.mp hq with h | h
      · exact hS.2.2 q h
      · exact hf _ (hL q h)⟩⟩
theorem vx_calli {S SX : Type} {post : Int32 → S → Prop} {px : SX → Prop} {B : S → State → Prop} {BX : String → SX → State → Prop} {AX : Nat → Prop} (hr : vx_Run p l e R s m args below meth c H locs cells slots mc ms (F0 m pc ls st0) rest (va_Qi post B A1 a) (vx_X px BX AX) free) (hS : va_S A0 H0 H locs) (hA : ∀ q, q < H.size → A1 q → A0 q) (hf : ∀ q, free q → A0 q) (hAX : ∀ q, q < H.size → AX q → A0 q)
    (kx : ∀ (E : String) (ce : Cell) (q9 : Addr) (u : SX) (t : State) (H1 : Heap) (locs1 : List Loc), t.heap = H1 → s.vm.Alike t.vm → px u → BX E u t → H.size ≤ H1.size → (∀ q : Nat, q < H.size → ¬ AX q → H1[q]? = H[q]?) → va_S A0 H0 H1 locs1 → H1[q9]? = some ce → ce.vm = .none → s.vm.findClass E = some ce.cls → vx_W p l e R s m args below meth c H1 locs1 (cells + mc) (slots + ms) Q (F0 m pc ls rest) q9)
    (kk : ∀ (r : Int32) (u : S) (t : State) (H1 : Heap) (locs1 : List Loc), t.heap = H1 → s.vm.Alike t.vm → post r u → B u t → H.size ≤ H1.size → (∀ q : Nat, q < H.size → ¬ A1 q → H1[q]? = H[q]?) → va_S A0 H0 H1 locs1 → W p l e R s m args below meth c H1 locs1 (cells + mc) (slots + ms) Q (F0 m (pc + 3) ls (.int r :: rest))) : W p l e R s m args below meth c H locs cells slots Q (F0 m pc ls st0) := by
  intro T hT X
  rcases hr T hT X with ⟨v, st₀, t, T', L, h0, X', hL, e1, e2, ⟨⟨r, u, hv, hp, hb⟩, hF⟩, st⟩ | ⟨q, st₀, t, T', L, E, ce, h0, X', hL, e1, e2, ⟨u, hp, hb, hF⟩, hce, hcv, hcl, st⟩
  · cases hv
    obtain ⟨k1, k2, k3⟩ := vx_keep h0 e1 hS hA hf hL hF
    obtain ⟨t2, a1, b1⟩ := kk r u t T'.heap (locs ++ L) e1.symm (by rw [← e2]; exact X'.warmed.alike) hp hb k1 k2 k3 T' rfl X'
    exact ⟨t2, st t2 a1, b1⟩
  · obtain ⟨k1, k2, k3⟩ := vx_keep h0 e1 hS hAX hf hL hF
    obtain ⟨t2, a1, b1⟩ := kx E ce q u t T'.heap (locs ++ L) e1.symm (by rw [← e2]; exact X'.warmed.alike) hp hb k1 k2 k3 (by rw [e1]; exact hce) hcv hcl T' rfl X'
    exact ⟨t2, st.trans a1, b1⟩
theorem vx_calll {S SX : Type} {post : Int64 → S → Prop} {px : SX → Prop} {B : S → State → Prop} {BX : String → SX → State → Prop} {AX : Nat → Prop} (hr : vx_Run p l e R s m args below meth c H locs cells slots mc ms (F0 m pc ls st0) rest (va_Ql post B A1 a) (vx_X px BX AX) free) (hS : va_S A0 H0 H locs) (hA : ∀ q, q < H.size → A1 q → A0 q) (hf : ∀ q, free q → A0 q) (hAX : ∀ q, q < H.size → AX q → A0 q)
    (kx : ∀ (E : String) (ce : Cell) (q9 : Addr) (u : SX) (t : State) (H1 : Heap) (locs1 : List Loc), t.heap = H1 → s.vm.Alike t.vm → px u → BX E u t → H.size ≤ H1.size → (∀ q : Nat, q < H.size → ¬ AX q → H1[q]? = H[q]?) → va_S A0 H0 H1 locs1 → H1[q9]? = some ce → ce.vm = .none → s.vm.findClass E = some ce.cls → vx_W p l e R s m args below meth c H1 locs1 (cells + mc) (slots + ms) Q (F0 m pc ls rest) q9)
    (kk : ∀ (r : Int64) (u : S) (t : State) (H1 : Heap) (locs1 : List Loc), t.heap = H1 → s.vm.Alike t.vm → post r u → B u t → H.size ≤ H1.size → (∀ q : Nat, q < H.size → ¬ A1 q → H1[q]? = H[q]?) → va_S A0 H0 H1 locs1 → W p l e R s m args below meth c H1 locs1 (cells + mc) (slots + ms) Q (F0 m (pc + 3) ls (.long r :: rest))) : W p l e R s m args below meth c H locs cells slots Q (F0 m pc ls st0) := by
  intro T hT X
  rcases hr T hT X with ⟨v, st₀, t, T', L, h0, X', hL, e1, e2, ⟨⟨r, u, hv, hp, hb⟩, hF⟩, st⟩ | ⟨q, st₀, t, T', L, E, ce, h0, X', hL, e1, e2, ⟨u, hp, hb, hF⟩, hce, hcv, hcl, st⟩
  · cases hv
    obtain ⟨k1, k2, k3⟩ := vx_keep h0 e1 hS hA hf hL hF
    obtain ⟨t2, a1, b1⟩ := kk r u t T'.heap (locs ++ L) e1.symm (by rw [← e2]; exact X'.warmed.alike) hp hb k1 k2 k3 T' rfl X'
    exact ⟨t2, st t2 a1, b1⟩
  · obtain ⟨k1, k2, k3⟩ := vx_keep h0 e1 hS hAX hf hL hF
    obtain ⟨t2, a1, b1⟩ := kx E ce q u t T'.heap (locs ++ L) e1.symm (by rw [← e2]; exact X'.warmed.alike) hp hb k1 k2 k3 (by rw [e1]; exact hce) hcv hcl T' rfl X'
    exact ⟨t2, st.trans a1, b1⟩
theorem vx_callf {S SX : Type} {post : UInt32 → S → Prop} {px : SX → Prop} {B : S → State → Prop} {BX : String → SX → State → Prop} {AX : Nat → Prop} (hr : vx_Run p l e R s m args below meth c H locs cells slots mc ms (F0 m pc ls st0) rest (va_Qf post B A1 a) (vx_X px BX AX) free) (hS : va_S A0 H0 H locs) (hA : ∀ q, q < H.size → A1 q → A0 q) (hf : ∀ q, free q → A0 q) (hAX : ∀ q, q < H.size → AX q → A0 q)
    (kx : ∀ (E : String) (ce : Cell) (q9 : Addr) (u : SX) (t : State) (H1 : Heap) (locs1 : List Loc), t.heap = H1 → s.vm.Alike t.vm → px u → BX E u t → H.size ≤ H1.size → (∀ q : Nat, q < H.size → ¬ AX q → H1[q]? = H[q]?) → va_S A0 H0 H1 locs1 → H1[q9]? = some ce → ce.vm = .none → s.vm.findClass E = some ce.cls → vx_W p l e R s m args below meth c H1 locs1 (cells + mc) (slots + ms) Q (F0 m pc ls rest) q9)
    (kk : ∀ (r : UInt32) (u : S) (t : State) (H1 : Heap) (locs1 : List Loc), t.heap = H1 → s.vm.Alike t.vm → post r u → B u t → H.size ≤ H1.size → (∀ q : Nat, q < H.size → ¬ A1 q → H1[q]? = H[q]?) → va_S A0 H0 H1 locs1 → W p l e R s m args below meth c H1 locs1 (cells + mc) (slots + ms) Q (F0 m (pc + 3) ls (.float r :: rest))) : W p l e R s m args below meth c H locs cells slots Q (F0 m pc ls st0) := by
  intro T hT X
  rcases hr T hT X with ⟨v, st₀, t, T', L, h0, X', hL, e1, e2, ⟨⟨r, u, hv, hp, hb⟩, hF⟩, st⟩ | ⟨q, st₀, t, T', L, E, ce, h0, X', hL, e1, e2, ⟨u, hp, hb, hF⟩, hce, hcv, hcl, st⟩
  · cases hv
    obtain ⟨k1, k2, k3⟩ := vx_keep h0 e1 hS hA hf hL hF
    obtain ⟨t2, a1, b1⟩ := kk r u t T'.heap (locs ++ L) e1.symm (by rw [← e2]; exact X'.warmed.alike) hp hb k1 k2 k3 T' rfl X'
    exact ⟨t2, st t2 a1, b1⟩
  · obtain ⟨k1, k2, k3⟩ := vx_keep h0 e1 hS hAX hf hL hF
    obtain ⟨t2, a1, b1⟩ := kx E ce q u t T'.heap (locs ++ L) e1.symm (by rw [← e2]; exact X'.warmed.alike) hp hb k1 k2 k3 (by rw [e1]; exact hce) hcv hcl T' rfl X'
    exact ⟨t2, st.trans a1, b1⟩
theorem vx_calld {S SX : Type} {post : UInt64 → S → Prop} {px : SX → Prop} {B : S → State → Prop} {BX : String → SX → State → Prop} {AX : Nat → Prop} (hr : vx_Run p l e R s m args below meth c H locs cells slots mc ms (F0 m pc ls st0) rest (va_Qd post B A1 a) (vx_X px BX AX) free) (hS : va_S A0 H0 H locs) (hA : ∀ q, q < H.size → A1 q → A0 q) (hf : ∀ q, free q → A0 q) (hAX : ∀ q, q < H.size → AX q → A0 q)
    (kx : ∀ (E : String) (ce : Cell) (q9 : Addr) (u : SX) (t : State) (H1 : Heap) (locs1 : List Loc), t.heap = H1 → s.vm.Alike t.vm → px u → BX E u t → H.size ≤ H1.size → (∀ q : Nat, q < H.size → ¬ AX q → H1[q]? = H[q]?) → va_S A0 H0 H1 locs1 → H1[q9]? = some ce → ce.vm = .none → s.vm.findClass E = some ce.cls → vx_W p l e R s m args below meth c H1 locs1 (cells + mc) (slots + ms) Q (F0 m pc ls rest) q9)
    (kk : ∀ (r : UInt64) (u : S) (t : State) (H1 : Heap) (locs1 : List Loc), t.heap = H1 → s.vm.Alike t.vm → post r u → B u t → H.size ≤ H1.size → (∀ q : Nat, q < H.size → ¬ A1 q → H1[q]? = H[q]?) → va_S A0 H0 H1 locs1 → W p l e R s m args below meth c H1 locs1 (cells + mc) (slots + ms) Q (F0 m (pc + 3) ls (.double r :: rest))) : W p l e R s m args below meth c H locs cells slots Q (F0 m pc ls st0) := by
  intro T hT X
  rcases hr T hT X with ⟨v, st₀, t, T', L, h0, X', hL, e1, e2, ⟨⟨r, u, hv, hp, hb⟩, hF⟩, st⟩ | ⟨q, st₀, t, T', L, E, ce, h0, X', hL, e1, e2, ⟨u, hp, hb, hF⟩, hce, hcv, hcl, st⟩
  · cases hv
    obtain ⟨k1, k2, k3⟩ := vx_keep h0 e1 hS hA hf hL hF
    obtain ⟨t2, a1, b1⟩ := kk r u t T'.heap (locs ++ L) e1.symm (by rw [← e2]; exact X'.warmed.alike) hp hb k1 k2 k3 T' rfl X'
    exact ⟨t2, st t2 a1, b1⟩
  · obtain ⟨k1, k2, k3⟩ := vx_keep h0 e1 hS hAX hf hL hF
    obtain ⟨t2, a1, b1⟩ := kx E ce q u t T'.heap (locs ++ L) e1.symm (by rw [← e2]; exact X'.warmed.alike) hp hb k1 k2 k3 (by rw [e1]; exact hce) hcv hcl T' rfl X'
    exact ⟨t2, st.trans a1, b1⟩
theorem vx_callv {S SX : Type} {post : S → Prop} {px : SX → Prop} {B : S → State → Prop} {BX : String → SX → State → Prop} {AX : Nat → Prop} (hr : vx_Run p l e R s m args below meth c H locs cells slots mc ms (F0 m pc ls st0) rest (va_Qv post B A1 a) (vx_X px BX AX) free) (hS : va_S A0 H0 H locs) (hA : ∀ q, q < H.size → A1 q → A0 q) (hf : ∀ q, free q → A0 q) (hAX : ∀ q, q < H.size → AX q → A0 q)
    (kx : ∀ (E : String) (ce : Cell) (q9 : Addr) (u : SX) (t : State) (H1 : Heap) (locs1 : List Loc), t.heap = H1 → s.vm.Alike t.vm → px u → BX E u t → H.size ≤ H1.size → (∀ q : Nat, q < H.size → ¬ AX q → H1[q]? = H[q]?) → va_S A0 H0 H1 locs1 → H1[q9]? = some ce → ce.vm = .none → s.vm.findClass E = some ce.cls → vx_W p l e R s m args below meth c H1 locs1 (cells + mc) (slots + ms) Q (F0 m pc ls rest) q9)
    (kk : ∀ (u : S) (t : State) (H1 : Heap) (locs1 : List Loc), t.heap = H1 → s.vm.Alike t.vm → post u → B u t → H.size ≤ H1.size → (∀ q : Nat, q < H.size → ¬ A1 q → H1[q]? = H[q]?) → va_S A0 H0 H1 locs1 → W p l e R s m args below meth c H1 locs1 (cells + mc) (slots + ms) Q (F0 m (pc + 3) ls (rest))) : W p l e R s m args below meth c H locs cells slots Q (F0 m pc ls st0) := by
  intro T hT X
  rcases hr T hT X with ⟨v, st₀, t, T', L, h0, X', hL, e1, e2, ⟨⟨u, hv, hp, hb⟩, hF⟩, st⟩ | ⟨q, st₀, t, T', L, E, ce, h0, X', hL, e1, e2, ⟨u, hp, hb, hF⟩, hce, hcv, hcl, st⟩
  · cases hv
    obtain ⟨k1, k2, k3⟩ := vx_keep h0 e1 hS hA hf hL hF
    obtain ⟨t2, a1, b1⟩ := kk u t T'.heap (locs ++ L) e1.symm (by rw [← e2]; exact X'.warmed.alike) hp hb k1 k2 k3 T' rfl X'
    exact ⟨t2, st t2 a1, b1⟩
  · obtain ⟨k1, k2, k3⟩ := vx_keep h0 e1 hS hAX hf hL hF
    obtain ⟨t2, a1, b1⟩ := kx E ce q u t T'.heap (locs ++ L) e1.symm (by rw [← e2]; exact X'.warmed.alike) hp hb k1 k2 k3 (by rw [e1]; exact hce) hcv hcl T' rfl X'
    exact ⟨t2, st.trans a1, b1⟩
end Rows
section Ends
variable {p : Program} {l : Launch} {e : Env} {R : Room} {s : State} {m : MethodId} {args : Array Value} {below : List Frame} {meth : Method} {c : Code} {H : Heap} {locs : List Loc} {cells slots : Nat} {Q : State → Prop}
variable {mc ms : Nat} {free : Addr → Prop} {A0 A1 : Nat → Prop} {H0 : Heap} {a : Array Value} {ls : Array Slot} {st0 rest : List Value}
variable {Qc : Array Value → State → Outcome → State → Prop} {XC : String → State → State → Prop}
/-- what a body that may throw owes at its end -/
def vx_MQ (below : List Frame) (Qc : Array Value → State → Outcome → State → Prop) (XC : String → State → State → Prop) (a : Array Value) (s : State) (mc ms : Nat) (free : Addr → Prop) : State → Prop := fun t =>
  ∃ o, t.status = .running ∧ Ended t below o ∧ vx_Q Qc XC mc ms free a s o t
theorem vx_ret {g : JFrame} {mc ms : Nat} (k : W p l e R s m args below meth c H locs cells slots (MQ below Qc args s mc ms free) g) : W p l e R s m args below meth c H locs cells slots (vx_MQ below Qc XC args s mc ms free) g := by
  intro T hT X
  obtain ⟨t, a1, o, b1, b2, b3, b4⟩ := k T hT X
  exact ⟨t, a1, o, b1, b2, Or.inl ⟨b3, b4⟩⟩
/-- not caught here: it goes on to the caller -/
theorem vx_widen {g : JFrame} {q : Addr} {k n : Nat} (h1 : cells ≤ k) (h2 : slots ≤ n) (kk : vx_W p l e R s m args below meth c H locs k n Q g q) : vx_W p l e R s m args below meth c H locs cells slots Q g q := fun T hT X => kk T hT (stand_widen X h1 h2)
theorem vx_out {pc : Nat} {E : String} {ce : Cell} {q : Addr} {mc ms : Nat} (hout : ∀ x ∈ c.exceptionTable.toList, covers x pc = false) (hlocks : meth.locks = false) (hcell : H[q]? = some ce) (hv : ce.vm = .none) (hcl : s.vm.findClass E = some ce.cls)
    (hx : ∀ t : State, t.heap = H → s.vm.Alike t.vm → XC E s t) (hf : ∀ z ∈ locs, free z.base) (hc : cells ≤ mc) (hs : slots ≤ ms) :
    vx_W p l e R s m args below meth c H locs cells slots (vx_MQ below Qc XC args s mc ms free) (F0 m pc ls rest) q := by
  intro T hT X
  obtain ⟨st1, hrun, hend, hW, hsm⟩ := X.leaveThrown q (g := F0 m pc ls rest) rfl rfl rfl hout hlocks
  have hcell9 : (T.setFrames (.throwing q :: below)).heap[q]? = some ce := by
    show T.heap[q]? = some ce
    rw [hT]; exact hcell
  exact ⟨_, st1, .threw q, hrun, hend, Or.inr ⟨q, rfl, E, ce, locs, hx _ hT hW.alike, hcell9, hv, hcl, hW, hsm.mono hc hs, hf⟩⟩
theorem vx_frame {U : State} {k n : Nat} (h : s.sameButNew ({ U with vm := s.vm } : State) locs k n) : s.heap.size ≤ U.heap.size ∧ ∀ q : Nat, q < s.heap.size → (∀ z ∈ locs, z.base ≠ q) → U.heap[q]? = s.heap[q]? := by
  obtain ⟨-, h2, -, -, -, h6⟩ := h
  refine ⟨h2, fun q hq hz => ?_⟩
  obtain ⟨c9, e1, e2, e3, e4⟩ := h6 q _ (Array.getElem?_eq_getElem hq)
  have hs : c9.slots = (s.heap[q]).slots := Array.ext_getElem? fun i => e4 i fun hm => hz _ hm rfl
  have h9 : c9 = s.heap[q] := by
    rw [hs] at e2
    exact e2
  have e5 : U.heap[q]? = some c9 := e1
  rw [e5, h9, Array.getElem?_eq_getElem hq]
/-- the words of a throw but the four that speak of the heap -/
def vx_no (w : Cond) : Bool := decide (w ≠ .isRef (.static Bundle.tN "UNASSIGNED_STACK" Bundle.steD)) && decide (w ≠ .isRef (.static Bundle.tN "SUPPRESSED_SENTINEL" Bundle.listD)) && decide (w ≠ .laysStatic Bundle.tN "UNASSIGNED_STACK" Bundle.steD) && decide (w ≠ .laysStatic Bundle.tN "SUPPRESSED_SENTINEL" Bundle.listD)
def vx_at0 (own : String) (ic : Nat) (X : String) (names : List String) : List Cond := (Bundle.ownAtoms0 own ic X names).filter vx_no
def vx_atS (own : String) (ic : Nat) (X : String) (names : List String) : List Cond := (Bundle.ownAtoms own ic X names).filter vx_no
/-- a word that the tables alone decide, or a good one -/
def vx_ot (w : Cond) : Bool := w.onTables || goodWord w
theorem vx_ot_at {args a' : Array Value} {s U : State} {w : Cond} (hW : s.WarmedH U.vm) (hvm : s.vm = U.vm) (hg : vx_ot w = true) (h : w.before args s = true) : w.before a' U = true := by
  simp only [vx_ot, Bool.or_eq_true] at hg
  rcases hg with hg | hg
  · exact va_tabs hg hvm h
  · exact word_at hW (good_of_word hg) h
/-- a list's words: the good ones out of the method's own list, the others by premises of their own -/
theorem vx_hat {args : Array Value} {s : State} {L B : List Cond} (h1 : ∀ w ∈ L.filter goodWord, w.before args s = true) (h2 : ∀ w ∈ L.filter (fun w => !goodWord w), w ∈ B) (h3 : ∀ w ∈ B, w.before args s = true) : ∀ w ∈ L, w.before args s = true := by
  intro w hw
  by_cases g : goodWord w = true
  · exact h1 w (List.mem_filter.mpr ⟨hw, g⟩)
  · refine h3 w (h2 w (List.mem_filter.mpr ⟨hw, ?_⟩))
    show (!goodWord w) = true
    cases hgw : goodWord w
    · rfl
    · exact absurd hgw g
theorem vx_c {args : Array Value} {s : State} {w : Cond} {B : List Cond} (h : w.before args s = true) (t : ∀ w ∈ B, w.before args s = true) : ∀ w' ∈ w :: B, w'.before args s = true := fun w' h' => (List.mem_cons.mp h').elim (fun e => by rw [e]; exact h) (t w')
theorem vx_n {args : Array Value} {s : State} : ∀ w ∈ ([] : List Cond), w.before args s = true := fun _ h => nomatch h
theorem vx_own {args : Array Value} {s : State} {L : List Cond} (h1 : ∀ w ∈ L.filter vx_no, w.before args s = true)
    (hU : (Cond.isRef (.static Bundle.tN "UNASSIGNED_STACK" Bundle.steD)).before args s = true) (hN : (Cond.isRef (.static Bundle.tN "SUPPRESSED_SENTINEL" Bundle.listD)).before args s = true)
    (lU : (Cond.laysStatic Bundle.tN "UNASSIGNED_STACK" Bundle.steD).before args s = true) (lN : (Cond.laysStatic Bundle.tN "SUPPRESSED_SENTINEL" Bundle.listD).before args s = true) : ∀ w ∈ L, w.before args s = true := by
  intro w hw
  by_cases e1 : w = .isRef (.static Bundle.tN "UNASSIGNED_STACK" Bundle.steD)
  · rw [e1]; exact hU
  · by_cases e2 : w = .isRef (.static Bundle.tN "SUPPRESSED_SENTINEL" Bundle.listD)
    · rw [e2]; exact hN
    · by_cases e3 : w = .laysStatic Bundle.tN "UNASSIGNED_STACK" Bundle.steD
      · rw [e3]; exact lU
      · by_cases e4 : w = .laysStatic Bundle.tN "SUPPRESSED_SENTINEL" Bundle.listD
        · rw [e4]; exact lN
        · exact h1 w (List.mem_filter.mpr ⟨hw, by unfold vx_no; rw [decide_eq_true e1, decide_eq_true e2, decide_eq_true e3, decide_eq_true e4]; rfl⟩)
/-- where a static field lies, its class's statics cell in H -/
def vx_L (C n d : String) (A : Nat → Prop) (U : State) (H : Heap) : Prop := ∃ (c : ClassId) (k : Class) (i : Nat) (f : Field) (a : Nat) (cell : Cell), U.vm.findClass C = some c ∧ U.fieldFound? C n d = some (c, k, i, f) ∧ f.isStatic = true ∧ k.statics = some a ∧ H[a]? = some cell ∧ cell.vm.isStatics = true ∧ cell.cls = c ∧ f.slot < cell.slots.size ∧ k.staticTypes[f.slot]? = some f.type ∧ ¬ A a
theorem vx_L.moved {C n d : String} {A : Nat → Prop} {u U : State} {H : Heap} (hvm : u.vm.Alike U.vm) (h : vx_L C n d A u H) : vx_L C n d A U H := by
  obtain ⟨c, k, i, f, a, cell, h1, h2, h3, h4, h5, h6, h7, h8, h9, h10⟩ := h
  obtain ⟨k', hi', he⟩ := State.fieldFound?_setVm hvm h2
  exact ⟨c, k', i, f, a, cell, by rw [hvm.findClass]; exact h1, hi', h3, by rw [he]; exact h4, h5, h6, h7, h8, by rw [he]; exact h9, h10⟩
theorem vx_L.kept {C n d : String} {A : Nat → Prop} {U : State} {H H1 : Heap} (h : vx_L C n d A U H) (hq : ∀ a : Nat, a < H.size → ¬ A a → H1[a]? = H[a]?) : vx_L C n d A U H1 := by
  obtain ⟨c, k, i, f, a, cell, h1, h2, h3, h4, h5, h6, h7, h8, h9, h10⟩ := h
  exact ⟨c, k, i, f, a, cell, h1, h2, h3, h4, by rw [hq a (Array.getElem?_eq_some_iff.mp h5).1 h10]; exact h5, h6, h7, h8, h9, h10⟩
theorem vx_L.narrow {C n d : String} {A B : Nat → Prop} {U : State} {H : Heap} (h : vx_L C n d A U H) (hAB : ∀ q, B q → A q) : vx_L C n d B U H := by
  obtain ⟨c, k, i, f, a, cell, h1, h2, h3, h4, h5, h6, h7, h8, h9, h10⟩ := h
  exact ⟨c, k, i, f, a, cell, h1, h2, h3, h4, h5, h6, h7, h8, h9, fun z => h10 (hAB _ z)⟩
theorem vx_L.word {C n d : String} {A : Nat → Prop} {s : State} {args : Array Value} (h : vx_L C n d A s s.heap) : (Cond.laysStatic C n d).before args s = true := by
  obtain ⟨c, k, i, f, a, cell, h1, h2, h3, h4, h5, h6, h7, h8, h9, -⟩ := h
  show (Cond.laysStatic C n d).holds args s none s [] = true
  exact Cond.laysStatic_of h1 h2 h3 h4 h5 h6 h7 h8 h9
/-- .. and what it holds: null or some reference -/
def vx_Zq (C n d : String) (A : Nat → Prop) (U : State) (H : Heap) : Prop := va_Zq C n d A U H ∧ vx_L C n d A U H
theorem vx_Zq.moved {C n d : String} {A : Nat → Prop} {u U : State} {H : Heap} (hvm : u.vm.Alike U.vm) (h : vx_Zq C n d A u H) : vx_Zq C n d A U H := ⟨va_Zq.moved hvm h.1, vx_L.moved hvm h.2⟩
theorem vx_Zq.kept {C n d : String} {A : Nat → Prop} {U : State} {H H1 : Heap} (h : vx_Zq C n d A U H) (hq : ∀ a : Nat, a < H.size → ¬ A a → H1[a]? = H[a]?) : vx_Zq C n d A U H1 := ⟨va_Zq.kept h.1 hq, vx_L.kept h.2 hq⟩
theorem vx_Zq.narrow {C n d : String} {A B : Nat → Prop} {U : State} {H : Heap} (h : vx_Zq C n d A U H) (hAB : ∀ q, B q → A q) : vx_Zq C n d B U H := ⟨va_Zq.narrow h.1 hAB, vx_L.narrow h.2 hAB⟩
theorem vx_Zqof {args : Array Value} {s : State} {C n d : String} {A : Nat → Prop} (hl : (Cond.laysStatic C n d).before args s = true) (hini : (Cond.initialized C).before args s = true) (h : (Cond.isRef (.static C n d)).before args s = true) (hA : ∀ a : Nat, a < s.heap.size → ¬ A a) : vx_Zq C n d A s s.heap := by
  refine ⟨va_Zqof hl hini h hA, ?_⟩
  obtain ⟨c, k, i, f, a, cell, h1, h2, h3, h4, h5, h6, h7, h8, h9⟩ := Cond.laysStatic_spec hl
  exact ⟨c, k, i, f, a, cell, h1, h2, h3, h4, h5, h6, h7, h8, h9, hA a (Array.getElem?_eq_some_iff.mp h5).1⟩
theorem vx_isRef {C n d : String} {v : Value} {A : Nat → Prop} {s : State} {args : Array Value} (h : va_Z C n d v A s s.heap) (hv : v.isRef = true) : (Cond.isRef (.static C n d)).before args s = true := by
  obtain ⟨cf, kf, fi, f, a, cell, h1, h2, h3, h4, h5, h6, h7, -⟩ := h
  have he : (Term.static C n d).eval args s none [] s = some v := by
    simp [Term.eval, State.fieldNamed?, h1, h2, h4, h5, h6, h7]
  simp only [Cond.before, Cond.holds, Cond.value, he]
  cases v <;> simp_all [Value.isRef]
theorem vx_isRefq {C n d : String} {A : Nat → Prop} {s : State} {args : Array Value} (h : va_Zq C n d A s s.heap) : (Cond.isRef (.static C n d)).before args s = true := by
  rcases h with h | ⟨t, h⟩
  · exact vx_isRef h rfl
  · exact vx_isRef h rfl
/-- the same frame, seen from here: as if the method were called anew in this heap -/
theorem vx_rebase {T : State} (X : Stand p l e R s m args below meth c T locs cells slots) {R' : Room} (hf : R'.frames ≤ R.frames) (hl : R'.locals ≤ R.locals) (hc : cells + R'.cells ≤ R.cells) (hs : slots + R'.slots ≤ R.slots) :
    Stand p l e R' ((T.setVm s.vm).setFrames (.invoking m args :: below)) m args below meth c T [] 0 0 := by
  have htop : (T.setVm s.vm).topJava?.isSome := X.here.top
  have hF : ((T.setVm s.vm).setFrames (.invoking m args :: below)).frames = .invoking m args :: below := State.frames_setFrames _ (State.cur_lt_of_top htop)
  obtain ⟨g₀, hg0⟩ := Option.isSome_iff_exists.mp htop
  obtain ⟨r, hr⟩ := State.topJava?_eq_some.mp hg0
  have hl9 : e.platform.stackLimits (T.setVm s.vm).me = e.platform.stackLimits s.me := X.limits
  have hb9 : (T.setVm s.vm).me.stackBytes = s.me.stackBytes := X.bytes
  refine ⟨X.admits, X.cas, X.clock, hF, ?_, X.hears, X.method, X.code, X.here, X.tail, X.warmed, ?_, ?_, ?_⟩
  · have h := X.room
    have hU : ((T.setVm s.vm).setFrames (.invoking m args :: below)).localsInUse = s.localsInUse := by
      rw [State.localsInUse_invoking hF (meth := meth) (c := c) X.method X.code, State.localsInUse_invoking X.frames X.method X.code]
    simp only [State.hasRoom, Bool.and_eq_true, decide_eq_true_eq] at h ⊢
    obtain ⟨⟨⟨⟨h1, h2, h3, h4, h5, h6⟩, h7⟩, h8⟩, h9⟩ := h
    rw [X.frames, List.length_cons] at h2 h3
    have q1 := X.heapSize
    have q2 := X.used
    simp only [hF, hU, List.length_cons, State.stackLimits_setFrames, State.stackBytes_setFrames, hl9, hb9]
    refine ⟨⟨⟨⟨by omega, by omega, by omega, by omega, by omega, h6⟩, ?_⟩, ?_⟩, X.book⟩
    · show T.heap.size + R'.cells ≤ e.platform.maxCells
      omega
    · show T.slotsUsed + R'.slots ≤ e.platform.maxSlots
      omega
  · rw [State.stackLimits_setFrames]; rfl
  · rw [State.stackBytes_setFrames]; rfl
  · refine ⟨?_, Nat.le_refl _, Nat.le_refl _, ?_, ?_, fun a c9 h9 => ⟨c9, h9, rfl, rfl, fun _ _ => rfl⟩⟩
    · obtain ⟨t, ht, -⟩ := State.frames_cons hr
      show T.setVm s.vm = { ((T.setVm s.vm).setFrames (.invoking m args :: below)).setFrames (T.setVm s.vm).frames with heap := T.heap, slotsUsed := T.slotsUsed }
      rw [State.setFrames_setFrames, State.setFrames_self ht]
      rfl
    · show T.slotsUsed = T.slotsUsed + ((T.heap.toList.drop T.heap.size).map (·.slots.size)).sum
      rw [List.drop_eq_nil_of_le (Nat.le_of_eq Array.length_toList)]
      rfl
    · show ((T.heap.toList.drop T.heap.size).map (·.slots.size)).sum ≤ 0
      rw [List.drop_eq_nil_of_le (Nat.le_of_eq Array.length_toList)]
      exact Nat.le_refl _
/-- 'throw new E()': new; dup; invokespecial; athrow -/
theorem vx_throw0 {cc : ByteArray} {pc : Nat} (hexec : p.tables.exec = Jvm.exec) (hb : c.code = cc) (hl : l.stackTraces = false) {own cls : String} {names : List String} {ik ic mc ms : Nat} {A : Nat → Prop}
    (hown : s.vm.findClass own = some m.cls) (hcls : Bundle.fit cls = true) (hnames : ∀ n ∈ names, Bundle.fit n = true)
    (hk : (Cond.classLink own ik cls).before args s = true) (hini : (Cond.initialized cls).before args s = true) (hat : ∀ w ∈ vx_at0 own ic cls names, w.before args s = true)
    (hgood : ∀ w ∈ Cond.classLink own ik cls :: Cond.initialized cls :: vx_at0 own ic cls names, vx_ot w = true)
    (hU : vx_Zq Bundle.tN "UNASSIGNED_STACK" Bundle.steD A s s.heap) (hN : vx_Zq Bundle.tN "SUPPRESSED_SENTINEL" Bundle.listD A s s.heap) (hS : va_S A s.heap H locs) (hsize : ls.size = c.maxLocals)
    (d0 : decode cc pc = .ok (.new ik, 3)) (d3 : decode cc (pc + 3) = .ok (.dup, 1)) (d4 : decode cc (pc + 4) = .ok (.invokespecial ic, 3)) (d7 : decode cc (pc + 7) = .ok (.athrow, 1))
    (hout : ∀ x ∈ c.exceptionTable.toList, covers x (pc + 7) = false)
    (hRframes : names.length + 3 < R.frames) (hRlocals : (rest.map fun v => v.category).sum + (13 * (names.length + 1) + 42) ≤ R.locals) (hRcells : cells + 1 ≤ R.cells) (hRslots : slots + 6 ≤ R.slots) (hlocks : meth.locks = false)
    (hx : ∀ t : State, s.vm.Alike t.vm → H.size ≤ t.heap.size → (∀ q : Nat, q < H.size → t.heap[q]? = H[q]?) → XC cls s t)
    (hf : ∀ z ∈ locs, free z.base) (hc : cells + 1 ≤ mc) (hs : slots + 6 ≤ ms) :
    W p l e R s m args below meth c H locs cells slots (vx_MQ below Qc XC args s mc ms free) (F0 m pc ls rest) := by
  intro T hT X
  have htr : e.platform.stackTraces = false := (show e.platform.stackTraces = l.stackTraces by rw [X.admits.platform]).trans hl
  have Y := vx_rebase X (R' := { frames := R.frames, locals := R.locals, cells := 1, slots := 6 }) (Nat.le_refl _) (Nat.le_refl _) hRcells hRslots
  obtain ⟨s', hA⟩ : ∃ z, z = (T.setVm s.vm).setFrames (.invoking m args :: below) := ⟨_, rfl⟩
  rw [← hA] at Y
  have hvm : s'.vm = s.vm := by rw [hA]; rfl
  have hhp : s'.heap = H := by rw [hA]; exact hT
  have hW0 : s.WarmedH s'.vm := by rw [hvm]; exact State.WarmedH.refl s
  have hat' : ∀ w ∈ vx_at0 own ic cls names, w.before args s' = true := fun w hw => vx_ot_at hW0 hvm.symm (hgood w (List.mem_cons_of_mem _ (List.mem_cons_of_mem _ hw))) (hat w hw)
  have hk' : (Cond.classLink own ik cls).before args s' = true := vx_ot_at hW0 hvm.symm (hgood _ List.mem_cons_self) hk
  have hini' : (Cond.initialized cls).before args s' = true := vx_ot_at hW0 hvm.symm (hgood _ (List.mem_cons_of_mem _ List.mem_cons_self)) hini
  have hU' : vx_Zq Bundle.tN "UNASSIGNED_STACK" Bundle.steD A s' s'.heap := by rw [hhp]; exact vx_Zq.moved hW0.alike (hU.kept hS.2.1)
  have hN' : vx_Zq Bundle.tN "SUPPRESSED_SENTINEL" Bundle.listD A s' s'.heap := by rw [hhp]; exact vx_Zq.moved hW0.alike (hN.kept hS.2.1)
  have h : ∀ w ∈ Bundle.ownAtoms0 own ic cls names, w.before args s' = true := vx_own hat' (vx_isRefq hU'.1) (vx_isRefq hN'.1) hU'.2.word hN'.2.word
  have hown' : s'.vm.findClass own = some m.cls := by rw [hvm]; exact hown
  have hins : (Cond.instantiable cls 6).before args s' = true := h _ (by simp [Bundle.ownAtoms0])
  obtain ⟨vm₁, cX, kX, hfX, hkX, -, -, X₁, st1⟩ := Y.newCold hexec (own := own) (C := cls) (index := ik) (n := 6) hown' hk' hins hini'
    (g := F0 m pc ls rest) rfl (by rw [hb]; exact d0) (Nat.le_refl _) (Nat.le_refl _)
  generalize hT1 : (T.setVm vm₁).pushCell { cls := cX, slots := kX.instanceTypes.map defaultValue, vm := .none } = T1 at X₁ st1
  have hcat : (Value.ref T.heap.size).category = 1 := rfl
  have hcellA : T1.heap[T.heap.size]? = some (freshCell cX kX) := by rw [← hT1]; exact State.heap_pushCell_size _ _
  have d3' : decode c.code (pc + 3) = .ok (.dup, 1) := by rw [hb]; exact d3
  obtain ⟨U, hsteps, hrun, hend, hW, hsame, ce, hce, hO⟩ := X₁.ctorThrow0 hexec htr (own := own) (cls := cls) (names := names) (ic := ic) hown' hcls hnames h (fun x hx => nomatch hx) hfX hkX hcellA (by rw [hhp, hT]; exact Nat.le_refl _)
    (g := { method := m, pc := pc + 4, locals := ls, stack := .ref T.heap.size :: .ref T.heap.size :: rest, locked := none }) rfl hsize rfl rfl (rest := rest) rfl
    (by rw [hb]; exact d4) (by rw [hb]; exact d7) hout hRframes (by simp only [List.map_cons, List.sum_cons, hcat]; omega) hlocks
  obtain ⟨f1, f2⟩ := vx_frame hsame
  rw [hhp] at f1 f2
  have hWs : s.WarmedH U.vm := State.WarmedH.trans hW0 hW
  have hcl : s.vm.findClass cls = some ce.cls := by
    have h9 := hO.cls
    rw [hvm] at h9
    exact h9
  have hall : s.sameButNew ({ U with vm := s.vm } : State) locs mc ms := by
    subst hA
    obtain ⟨e1, e2⟩ := hsame
    rw [State.setFrames_setFrames] at e1
    have h2 : (T.setVm s.vm).sameButNew ({ U with vm := s.vm } : State) [] (0 + 1) (0 + 6) := ⟨e1, e2⟩
    have h3 := X.same.trans h2
    rw [List.append_nil] at h3
    exact h3.mono hc hs
  refine ⟨U, ?_, .threw T.heap.size, hrun, hend, Or.inr ⟨T.heap.size, rfl, cls, ce, locs, hx U hWs.alike f1 (fun q hq => f2 q hq (fun z hz => nomatch hz)), hce, hO.vm, hcl, hWs, hall, hf⟩⟩
  refine st1 _ ?_
  show Steps p.tables e below (T1.setTop { method := m, pc := pc + 3, locals := ls, stack := .ref T.heap.size :: rest, locked := none }) _
  jvm_step X₁.here [X₁.here.top, hexec, d3', Value.category]
  exact hsteps
/-- 'throw new E("text")': new; dup; ldc; invokespecial; athrow -/
theorem vx_throwS {cc : ByteArray} {pc : Nat} (hexec : p.tables.exec = Jvm.exec) (hb : c.code = cc) (hl : l.stackTraces = false) {own cls text : String} {names : List String} {ik is ic mc ms sa : Nat} {A : Nat → Prop}
    (hown : s.vm.findClass own = some m.cls) (hcls : Bundle.fit cls = true) (hnames : ∀ n ∈ names, Bundle.fit n = true)
    (hk : (Cond.classLink own ik cls).before args s = true) (hini : (Cond.initialized cls).before args s = true) (hstr : vk_R own is text sa s) (hat : ∀ w ∈ vx_atS own ic cls names, w.before args s = true)
    (hgood : ∀ w ∈ Cond.classLink own ik cls :: Cond.initialized cls :: vx_atS own ic cls names, vx_ot w = true)
    (hU : vx_Zq Bundle.tN "UNASSIGNED_STACK" Bundle.steD A s s.heap) (hN : vx_Zq Bundle.tN "SUPPRESSED_SENTINEL" Bundle.listD A s s.heap) (hS : va_S A s.heap H locs) (hsize : ls.size = c.maxLocals)
    (d0 : decode cc pc = .ok (.new ik, 3)) (d3 : decode cc (pc + 3) = .ok (.dup, 1)) (d4 : decode cc (pc + 4) = .ok (.ldc is, 2)) (d6 : decode cc (pc + 6) = .ok (.invokespecial ic, 3)) (d9 : decode cc (pc + 9) = .ok (.athrow, 1))
    (hout : ∀ x ∈ c.exceptionTable.toList, covers x (pc + 9) = false)
    (hRframes : names.length + 3 < R.frames) (hRlocals : (rest.map fun v => v.category).sum + (13 * (names.length + 1) + 43) ≤ R.locals) (hRcells : cells + 1 ≤ R.cells) (hRslots : slots + 6 ≤ R.slots) (hlocks : meth.locks = false)
    (hx : ∀ t : State, s.vm.Alike t.vm → H.size ≤ t.heap.size → (∀ q : Nat, q < H.size → t.heap[q]? = H[q]?) → XC cls s t)
    (hf : ∀ z ∈ locs, free z.base) (hc : cells + 1 ≤ mc) (hs : slots + 6 ≤ ms) :
    W p l e R s m args below meth c H locs cells slots (vx_MQ below Qc XC args s mc ms free) (F0 m pc ls rest) := by
  intro T hT X
  have htr : e.platform.stackTraces = false := (show e.platform.stackTraces = l.stackTraces by rw [X.admits.platform]).trans hl
  have Y := vx_rebase X (R' := { frames := R.frames, locals := R.locals, cells := 1, slots := 6 }) (Nat.le_refl _) (Nat.le_refl _) hRcells hRslots
  obtain ⟨s', hA⟩ : ∃ z, z = (T.setVm s.vm).setFrames (.invoking m args :: below) := ⟨_, rfl⟩
  rw [← hA] at Y
  have hvm : s'.vm = s.vm := by rw [hA]; rfl
  have hhp : s'.heap = H := by rw [hA]; exact hT
  have hW0 : s.WarmedH s'.vm := by rw [hvm]; exact State.WarmedH.refl s
  have hat' : ∀ w ∈ vx_atS own ic cls names, w.before args s' = true := fun w hw => vx_ot_at hW0 hvm.symm (hgood w (List.mem_cons_of_mem _ (List.mem_cons_of_mem _ hw))) (hat w hw)
  have hk' : (Cond.classLink own ik cls).before args s' = true := vx_ot_at hW0 hvm.symm (hgood _ List.mem_cons_self) hk
  have hini' : (Cond.initialized cls).before args s' = true := vx_ot_at hW0 hvm.symm (hgood _ (List.mem_cons_of_mem _ List.mem_cons_self)) hini
  have hU' : vx_Zq Bundle.tN "UNASSIGNED_STACK" Bundle.steD A s' s'.heap := by rw [hhp]; exact vx_Zq.moved hW0.alike (hU.kept hS.2.1)
  have hN' : vx_Zq Bundle.tN "SUPPRESSED_SENTINEL" Bundle.listD A s' s'.heap := by rw [hhp]; exact vx_Zq.moved hW0.alike (hN.kept hS.2.1)
  have h : ∀ w ∈ Bundle.ownAtoms own ic cls names, w.before args s' = true := vx_own hat' (vx_isRefq hU'.1) (vx_isRefq hN'.1) hU'.2.word hN'.2.word
  have hown' : s'.vm.findClass own = some m.cls := by rw [hvm]; exact hown
  have hins : (Cond.instantiable cls 6).before args s' = true := h _ (by simp [Bundle.ownAtoms])
  obtain ⟨vm₁, cX, kX, hfX, hkX, -, -, X₁, st1⟩ := Y.newCold hexec (own := own) (C := cls) (index := ik) (n := 6) hown' hk' hins hini'
    (g := F0 m pc ls rest) rfl (by rw [hb]; exact d0) (Nat.le_refl _) (Nat.le_refl _)
  generalize hT1 : (T.setVm vm₁).pushCell { cls := cX, slots := kX.instanceTypes.map defaultValue, vm := .none } = T1 at X₁ st1
  have hcat : (Value.ref T.heap.size).category = 1 := rfl
  have hcellA : T1.heap[T.heap.size]? = some (freshCell cX kX) := by rw [← hT1]; exact State.heap_pushCell_size _ _
  have d3' : decode c.code (pc + 3) = .ok (.dup, 1) := by rw [hb]; exact d3
  have d4' : decode c.code (pc + 4) = .ok (.ldc is, 2) := by rw [hb]; exact d4
  have hstr' : vk_R own is text sa s' := vk_R.warm hW0 hstr
  obtain ⟨U, hsteps, hrun, hend, hW, hsame, ce, hce, hO⟩ := X₁.ctorThrowS hexec htr (own := own) (cls := cls) (names := names) (ic := ic) hown' hcls hnames h (fun x hx => nomatch hx) hfX hkX hcellA (by rw [hhp, hT]; exact Nat.le_refl _) (msg := .ref sa) rfl
    (g := { method := m, pc := pc + 6, locals := ls, stack := .ref sa :: .ref T.heap.size :: .ref T.heap.size :: rest, locked := none }) rfl hsize rfl rfl (rest := rest) rfl
    (by rw [hb]; exact d6) (by rw [hb]; exact d9) hout hRframes (by simp only [List.map_cons, List.sum_cons, hcat]; omega) hlocks
  obtain ⟨f1, f2⟩ := vx_frame hsame
  rw [hhp] at f1 f2
  have hWs : s.WarmedH U.vm := State.WarmedH.trans hW0 hW
  have hcl : s.vm.findClass cls = some ce.cls := by
    have h9 := hO.cls
    rw [hvm] at h9
    exact h9
  have hall : s.sameButNew ({ U with vm := s.vm } : State) locs mc ms := by
    subst hA
    obtain ⟨e1, e2⟩ := hsame
    rw [State.setFrames_setFrames] at e1
    have h2 : (T.setVm s.vm).sameButNew ({ U with vm := s.vm } : State) [] (0 + 1) (0 + 6) := ⟨e1, e2⟩
    have h3 := X.same.trans h2
    rw [List.append_nil] at h3
    exact h3.mono hc hs
  refine ⟨U, ?_, .threw T.heap.size, hrun, hend, Or.inr ⟨T.heap.size, rfl, cls, ce, locs, hx U hWs.alike f1 (fun q hq => f2 q hq (fun z hz => nomatch hz)), hce, hO.vm, hcl, hWs, hall, hf⟩⟩
  refine st1 _ ?_
  show Steps p.tables e below (T1.setTop { method := m, pc := pc + 3, locals := ls, stack := .ref T.heap.size :: rest, locked := none }) _
  jvm_step X₁.here [X₁.here.top, hexec, d3', Value.category]
  exact X₁.ldcString hexec (own := own) (text := text) (index := is) (a := sa) hown' hstr'.1 hstr'.2
    (g := { method := m, pc := pc + 4, locals := ls, stack := .ref T.heap.size :: .ref T.heap.size :: rest, locked := none }) rfl d4' _ hsteps
/-- 'throw new E("text")', the text by a wide index -/
theorem vx_throwSW {cc : ByteArray} {pc : Nat} (hexec : p.tables.exec = Jvm.exec) (hb : c.code = cc) (hl : l.stackTraces = false) {own cls text : String} {names : List String} {ik is ic mc ms sa : Nat} {A : Nat → Prop}
    (hown : s.vm.findClass own = some m.cls) (hcls : Bundle.fit cls = true) (hnames : ∀ n ∈ names, Bundle.fit n = true)
    (hk : (Cond.classLink own ik cls).before args s = true) (hini : (Cond.initialized cls).before args s = true) (hstr : vk_R own is text sa s) (hat : ∀ w ∈ vx_atS own ic cls names, w.before args s = true)
    (hgood : ∀ w ∈ Cond.classLink own ik cls :: Cond.initialized cls :: vx_atS own ic cls names, vx_ot w = true)
    (hU : vx_Zq Bundle.tN "UNASSIGNED_STACK" Bundle.steD A s s.heap) (hN : vx_Zq Bundle.tN "SUPPRESSED_SENTINEL" Bundle.listD A s s.heap) (hS : va_S A s.heap H locs) (hsize : ls.size = c.maxLocals)
    (d0 : decode cc pc = .ok (.new ik, 3)) (d3 : decode cc (pc + 3) = .ok (.dup, 1)) (d4 : decode cc (pc + 4) = .ok (.ldc_w is, 3)) (d7 : decode cc (pc + 7) = .ok (.invokespecial ic, 3)) (d10 : decode cc (pc + 10) = .ok (.athrow, 1))
    (hout : ∀ x ∈ c.exceptionTable.toList, covers x (pc + 10) = false)
    (hRframes : names.length + 3 < R.frames) (hRlocals : (rest.map fun v => v.category).sum + (13 * (names.length + 1) + 43) ≤ R.locals) (hRcells : cells + 1 ≤ R.cells) (hRslots : slots + 6 ≤ R.slots) (hlocks : meth.locks = false)
    (hx : ∀ t : State, s.vm.Alike t.vm → H.size ≤ t.heap.size → (∀ q : Nat, q < H.size → t.heap[q]? = H[q]?) → XC cls s t)
    (hf : ∀ z ∈ locs, free z.base) (hc : cells + 1 ≤ mc) (hs : slots + 6 ≤ ms) :
    W p l e R s m args below meth c H locs cells slots (vx_MQ below Qc XC args s mc ms free) (F0 m pc ls rest) := by
  intro T hT X
  have htr : e.platform.stackTraces = false := (show e.platform.stackTraces = l.stackTraces by rw [X.admits.platform]).trans hl
  have Y := vx_rebase X (R' := { frames := R.frames, locals := R.locals, cells := 1, slots := 6 }) (Nat.le_refl _) (Nat.le_refl _) hRcells hRslots
  obtain ⟨s', hA⟩ : ∃ z, z = (T.setVm s.vm).setFrames (.invoking m args :: below) := ⟨_, rfl⟩
  rw [← hA] at Y
  have hvm : s'.vm = s.vm := by rw [hA]; rfl
  have hhp : s'.heap = H := by rw [hA]; exact hT
  have hW0 : s.WarmedH s'.vm := by rw [hvm]; exact State.WarmedH.refl s
  have hat' : ∀ w ∈ vx_atS own ic cls names, w.before args s' = true := fun w hw => vx_ot_at hW0 hvm.symm (hgood w (List.mem_cons_of_mem _ (List.mem_cons_of_mem _ hw))) (hat w hw)
  have hk' : (Cond.classLink own ik cls).before args s' = true := vx_ot_at hW0 hvm.symm (hgood _ List.mem_cons_self) hk
  have hini' : (Cond.initialized cls).before args s' = true := vx_ot_at hW0 hvm.symm (hgood _ (List.mem_cons_of_mem _ List.mem_cons_self)) hini
  have hU' : vx_Zq Bundle.tN "UNASSIGNED_STACK" Bundle.steD A s' s'.heap := by rw [hhp]; exact vx_Zq.moved hW0.alike (hU.kept hS.2.1)
  have hN' : vx_Zq Bundle.tN "SUPPRESSED_SENTINEL" Bundle.listD A s' s'.heap := by rw [hhp]; exact vx_Zq.moved hW0.alike (hN.kept hS.2.1)
  have h : ∀ w ∈ Bundle.ownAtoms own ic cls names, w.before args s' = true := vx_own hat' (vx_isRefq hU'.1) (vx_isRefq hN'.1) hU'.2.word hN'.2.word
  have hown' : s'.vm.findClass own = some m.cls := by rw [hvm]; exact hown
  have hins : (Cond.instantiable cls 6).before args s' = true := h _ (by simp [Bundle.ownAtoms])
  obtain ⟨vm₁, cX, kX, hfX, hkX, -, -, X₁, st1⟩ := Y.newCold hexec (own := own) (C := cls) (index := ik) (n := 6) hown' hk' hins hini'
    (g := F0 m pc ls rest) rfl (by rw [hb]; exact d0) (Nat.le_refl _) (Nat.le_refl _)
  generalize hT1 : (T.setVm vm₁).pushCell { cls := cX, slots := kX.instanceTypes.map defaultValue, vm := .none } = T1 at X₁ st1
  have hcat : (Value.ref T.heap.size).category = 1 := rfl
  have hcellA : T1.heap[T.heap.size]? = some (freshCell cX kX) := by rw [← hT1]; exact State.heap_pushCell_size _ _
  have d3' : decode c.code (pc + 3) = .ok (.dup, 1) := by rw [hb]; exact d3
  have d4' : decode c.code (pc + 4) = .ok (.ldc_w is, 3) := by rw [hb]; exact d4
  have hstr' : vk_R own is text sa s' := vk_R.warm hW0 hstr
  obtain ⟨U, hsteps, hrun, hend, hW, hsame, ce, hce, hO⟩ := X₁.ctorThrowS hexec htr (own := own) (cls := cls) (names := names) (ic := ic) hown' hcls hnames h (fun x hx => nomatch hx) hfX hkX hcellA (by rw [hhp, hT]; exact Nat.le_refl _) (msg := .ref sa) rfl
    (g := { method := m, pc := pc + 7, locals := ls, stack := .ref sa :: .ref T.heap.size :: .ref T.heap.size :: rest, locked := none }) rfl hsize rfl rfl (rest := rest) rfl
    (by rw [hb]; exact d7) (by rw [hb]; exact d10) hout hRframes (by simp only [List.map_cons, List.sum_cons, hcat]; omega) hlocks
  obtain ⟨f1, f2⟩ := vx_frame hsame
  rw [hhp] at f1 f2
  have hWs : s.WarmedH U.vm := State.WarmedH.trans hW0 hW
  have hcl : s.vm.findClass cls = some ce.cls := by
    have h9 := hO.cls
    rw [hvm] at h9
    exact h9
  have hall : s.sameButNew ({ U with vm := s.vm } : State) locs mc ms := by
    subst hA
    obtain ⟨e1, e2⟩ := hsame
    rw [State.setFrames_setFrames] at e1
    have h2 : (T.setVm s.vm).sameButNew ({ U with vm := s.vm } : State) [] (0 + 1) (0 + 6) := ⟨e1, e2⟩
    have h3 := X.same.trans h2
    rw [List.append_nil] at h3
    exact h3.mono hc hs
  refine ⟨U, ?_, .threw T.heap.size, hrun, hend, Or.inr ⟨T.heap.size, rfl, cls, ce, locs, hx U hWs.alike f1 (fun q hq => f2 q hq (fun z hz => nomatch hz)), hce, hO.vm, hcl, hWs, hall, hf⟩⟩
  refine st1 _ ?_
  show Steps p.tables e below (T1.setTop { method := m, pc := pc + 3, locals := ls, stack := .ref T.heap.size :: rest, locked := none }) _
  jvm_step X₁.here [X₁.here.top, hexec, d3', Value.category]
  exact X₁.ldcStringW hexec (own := own) (text := text) (index := is) (a := sa) hown' hstr'.1 hstr'.2
    (g := { method := m, pc := pc + 4, locals := ls, stack := .ref T.heap.size :: .ref T.heap.size :: rest, locked := none }) rfl d4' _ hsteps
end Ends
section Bodies
variable {l : Launch}
theorem vx_ofW {y : MethodName} {ws ws' : List Cond} {rm : Room} {Pc : Array Value → State → Prop} {Qc : Array Value → State → Outcome → State → Prop} {XC : String → State → State → Prop} {mc ms : Nat} {free : Addr → Prop} {cc : ByteArray} {maxL : Nat} {ret : Option FieldType}
    (hy : plainName y.cls = true) (hw : ws = Cond.code y cc maxL ret :: ws')
    (body : ∀ p e s m args below meth c s₁, BodyLoose p l y (headSpec ws rm) cc maxL ret e s m args below meth c s₁ → c.maxLocals = maxL → (∀ x ∈ c.exceptionTable.toList, False) → Pc args s →
      W p l e (headSpec ws rm).room s m args below meth c s.heap [] 0 0 (vx_MQ below Qc XC args s mc ms free) (entryFrame m args maxL)) : vx_Met l y ws rm Pc Qc XC mc ms free := by
  refine MetFree.of_bodyS (code := cc) (maxLocals := maxL) (ret := ret) hy ?_ ?_
  · intro args s m h hn
    obtain ⟨meth, c, h1, h2, h3, h4, h5, h6, -, -⟩ := Cond.code_spec hn (atoms_spec (ws := ws) h _ (by rw [hw]; exact List.mem_cons_self))
    exact ⟨meth, c, h1, h2, h3, h4, h5, h6⟩
  · intro p e s m args below meth c s₁ B hml hP _
    have hh0 : s₁.heap = s.heap := by rw [B.state]; rfl
    have ht : ∀ x ∈ c.exceptionTable.toList, False := by
      obtain ⟨meth9, c9, h1, h2, -, -, -, -, h7, -⟩ := Cond.code_spec B.named (atoms_spec (ws := ws) B.pre _ (by rw [hw]; exact List.mem_cons_self))
      cases Option.some.inj (h1.symm.trans B.method)
      cases Option.some.inj (h2.symm.trans (Stand.of_body B).code)
      intro x hx
      rw [Array.isEmpty_iff.mp h7] at hx
      cases hx
    obtain ⟨t, a1, o, b1, b2, b3⟩ := body p e s m args below meth c s₁ B hml ht hP s₁ hh0 (Stand.of_body B)
    exact ⟨t, o, a1, b1, b2, b3⟩
/-- the table of a body with handlers -/
theorem vx_table {p : Program} {x y : MethodName} {S : Spec} {cc bytes : ByteArray} {maxL maxL' : Nat} {ret ret' : Option FieldType} {e : Env} {s s₁ : State} {m : MethodId} {args : Array Value} {below : List Frame} {meth : Method} {c : Code} {hh : List (Nat × Nat × Nat × Nat)}
    (B : BodyLoose p l y S cc maxL ret e s m args below meth c s₁) (h : (Cond.codeWith y bytes maxL' ret' hh).before args s = true) : c.exceptionTable.toList = tableOf hh := by
  obtain ⟨m9, meth9, c9, hn9, h1, h2, -, -, h6, -⟩ := Cond.codeWith_spec h
  cases Option.some.inj (hn9.symm.trans B.named)
  cases Option.some.inj (h1.symm.trans B.method)
  cases Option.some.inj (h2.symm.trans (Stand.of_body B).code)
  rw [← h6, table_eq]
end Bodies
end VXA
/-! ===== END ===== -/
/-! ===== BEGIN a static call of a method with an exception table ===== -/
section VXS
variable {p : Program} {l : Launch} {e : Env} {R : Room} {s : State} {m : MethodId} {args : Array Value} {below : List Frame} {meth : Method} {c : Code} {T : State} {H : Heap} {locs : List Loc} {cells slots : Nat}
abbrev vx_CSW (R : Room) (s : State) (args : Array Value) (own : String) (index : Nat) (y : MethodName) (bytes : ByteArray) (maxL : Nat) (ret : Option FieldType) (hh : List (Nat × Nat × Nat × Nat)) (ws : List Cond) (rm : Room) (mc ms n : Nat) : Prop :=
  (rm.cells = mc ∧ rm.slots = ms ∧ rm.frames + 1 ≤ R.frames ∧ 8 + (maxL + 11) + rm.locals ≤ R.locals ∧ (∀ w ∈ ws, ∀ (a' : Array Value) (U : State), s.WarmedH U.vm → w.before a' U = true) ∧ Cond.codeWith y bytes maxL ret hh ∈ ws) ∧
  (Cond.codeWith y bytes maxL ret hh).before args s = true ∧ (Cond.initialized y.cls).before args s = true ∧ (y.cls ≠ "java/lang/invoke/MethodHandle" ∧ y.cls ≠ "java/lang/invoke/VarHandle") ∧
  (∀ sig, parseMethodDescriptor y.desc = some sig → n = sig.parameters.length) ∧ (Cond.methodLink own index y).before args s = true ∧ (Cond.static y).before args s = true
theorem vx_cwSW {own : String} {index maxL mc ms : Nat} {y : MethodName} {bytes : ByteArray} {ret : Option FieldType} {hh : List (Nat × Nat × Nat × Nat)} {Ts ws ws' : List Cond} {rm : Room} (n : Nat) (ht : ∀ w ∈ Ts, w.before args s = true) (hT : GoodIn Ts (va_wsS own index y ws)) (hw : ws = Cond.codeWith y bytes maxL ret hh :: ws') (hrc : rm.cells = mc) (hrs : rm.slots = ms)
    (hd : y.cls ≠ "java/lang/invoke/MethodHandle" ∧ y.cls ≠ "java/lang/invoke/VarHandle" ∧ (parseMethodDescriptor y.desc).map (fun d => d.parameters.length) = some n) (hR : rm.frames + 1 ≤ R.frames ∧ 8 + (maxL + 11) + rm.locals ≤ R.locals) :
    vx_CSW R s args own index y bytes maxL ret hh ws rm mc ms n := by
  have ok : ∀ w ∈ va_wsS own index y ws, w.before args s = true := fun w h => ht w (hT w h).1
  have hG : GoodIn Ts ws := fun w h => hT w (by unfold va_wsS; exact List.mem_append_right _ h)
  have hc : Cond.codeWith y bytes maxL ret hh ∈ ws := by rw [hw]; exact List.mem_cons_self
  refine ⟨⟨hrc, hrs, hR.1, hR.2, pay_in ht hG, hc⟩, ht _ (hG _ hc).1, ok _ (by simp [va_wsS]), ⟨hd.1, hd.2.1⟩, fun sig h => ?_, ok _ (by simp [va_wsS]), ok _ (by simp [va_wsS])⟩
  have h2 := hd.2.2
  rw [h] at h2
  exact (Option.some.inj h2).symm
theorem vx_callSW (X : Stand p l e R s m args below meth c T locs cells slots) (hexec : p.tables.exec = Jvm.exec) {own : String} {index : Nat} {y : MethodName} {bytes : ByteArray} {maxL : Nat} {ret : Option FieldType} {hh : List (Nat × Nat × Nat × Nat)}
    (hown : s.vm.findClass own = some m.cls) (hlink : (Cond.methodLink own index y).before args s = true) (hstat : (Cond.static y).before args s = true) (hinit : (Cond.initialized y.cls).before args s = true)
    (hcode : (Cond.codeWith y bytes maxL ret hh).before args s = true) (hy : y.cls ≠ "java/lang/invoke/MethodHandle" ∧ y.cls ≠ "java/lang/invoke/VarHandle")
    {W9 : Nat} {Pre : Pt → Array Value → Prop} {Post : Pt → Array Value → Option Value → Pt → Prop} (hK : Back l R p e below s args y 3 W9 Pre Post)
    {g : JFrame} (hg : g.method = m) (hsize : g.locals.size = c.maxLocals) {argsL rest : List Value} (hlen : ∀ sig, parseMethodDescriptor y.desc = some sig → argsL.length = sig.parameters.length)
    (hstack : g.stack = argsL.reverse ++ rest) (hW : 2 * g.monitorRoom + (rest.map fun v => v.category).sum ≤ W9) (hdg : decode c.code g.pc = .ok (.invokestatic index, 3))
    (hpre : ∀ vm₁, s.WarmedH vm₁ → Pre ⟨T.setVm vm₁, locs, cells, slots⟩ argsL.toArray) :
    ∃ (v : Option Value) (vm₁ : Vm) (B : Pt), s.WarmedH vm₁ ∧ Stand p l e R s m args below meth c B.U B.locs B.cells B.slots ∧ Post ⟨T.setVm vm₁, locs, cells, slots⟩ argsL.toArray v B ∧
      ∀ target, Steps p.tables e below (B.U.setTop { g with pc := g.pc + 3, stack := v.toList ++ rest }) target → Steps p.tables e below (T.setTop g) target := by
  obtain ⟨mk, methM, cM, hnamed, hmethM, -, -, -, -, -, -, hsigM⟩ := Cond.codeWith_spec hcode
  have hstatic : methM.isStatic = true := Cond.static_spec hnamed hmethM hstat
  obtain ⟨kP, hkP, -⟩ := className_of_methodNamed hnamed
  have hinitP : kP.init = .initialized := Cond.initialized_spec (findClass_of_methodNamed hnamed) hkP hinit
  obtain ⟨vm₁, X₁, hstep₁⟩ := X.invokestatic hexec hown hlink hnamed hmethM hstatic hkP hinitP hy (g := g) hg (argsL := argsL) (rest := rest) (hlen _ hsigM) hstack hdg
  obtain ⟨v, B, X', hpost, hsteps⟩ := hK m meth c ⟨T.setVm vm₁, locs, cells, slots⟩ { g with stack := rest } (.invokestatic index) mk argsL.toArray X₁ hg hsize hdg hW (X₁.named hnamed) (hpre vm₁ X₁.warmed)
  exact ⟨v, vm₁, B, X₁.warmed, X', hpost, fun target h => hstep₁ _ fun acts => by rw [doInvoke_state]; exact hsteps.trans h⟩
theorem vx_runSW {y : MethodName} {bytes cc : ByteArray} {maxL nL mc ms n index : Nat} {ret : Option FieldType} {hh : List (Nat × Nat × Nat × Nat)} {ws : List Cond} {rm : Room} {Pc : Array Value → State → Prop} {Qc : Array Value → State → Outcome → State → Prop} {free : Addr → Prop} {Ts : List Cond} {own : String} {As rest : List Value} {g : JFrame}
    (S : CallFix p m c cc nL s args Ts own) (hM : Met l y ws rm Pc Qc mc ms free) (cw : vx_CSW R s args own index y bytes maxL ret hh ws rm mc ms n) (hp : PreS s H Pc As)
    (hg : g.method = m) (hn : As.length = n) (hsize : g.locals.size = nL) (hstack : g.stack = As.reverse ++ rest) (hW : 2 * g.monitorRoom + (rest.map fun v => v.category).sum ≤ 8) (hdg : decode cc g.pc = .ok (.invokestatic index, 3)) (hf : cells + mc ≤ R.cells ∧ slots + ms ≤ R.slots) :
    va_Run p l e R s m args below meth c H locs cells slots mc ms g rest (Qc As.toArray) (free) := by
  obtain ⟨⟨hrc, hrs, hfr, hlo, hws, hcw⟩, hcode, hini, hy, hlen, hl, hstt⟩ := cw
  have hK : Back l R p e below s args y 3 8 (PreOf R mc ms Pc) (PostOf Qc mc ms free) := va_backW (hh := hh) (bytes := bytes) (maxL := maxL) (ret := ret) hM hp.1 hrc hrs hfr hlo hws hcw (fun a' U hW => word_at hW (Or.inl (by first | rfl | simp [Cond.onTables, Cond.keeps, Cond.steady])) hini)
  obtain ⟨hx, hb, hml, ho, -⟩ := S
  intro T hT X
  obtain ⟨v, vm₁, ⟨U', l2, c2, s2⟩, hW₁, X', ⟨g', mk, t, L, e1, e2, hq, h1, hL, h2, h3⟩, st⟩ := vx_callSW X hx (hh := hh) (bytes := bytes) (maxL := maxL) (ret := ret) ho hl hstt hini hcode hy hK hg (hsize.trans hml.symm) (argsL := As) (rest := rest) (fun sig h => hn.trans (hlen sig h)) hstack hW (by rw [hb]; exact hdg)
    (fun vm₁ hW₁ => ⟨hf.1, hf.2, hp.2 (T.setVm vm₁) hT hW₁⟩)
  dsimp only [Pt.U, Pt.locs, Pt.cells, Pt.slots] at X' e1 e2 h1 h2 h3 st
  subst h1; subst h2; subst h3
  exact ⟨v, (T.setVm vm₁).calling g' mk As.toArray, t, U', L, hT, X', hL, e1, e2, hq, st⟩
/-- a thing of a world lies in the heap -/
theorem vx_lt {D : va_G} {cl : List vw_C} {ws : va_W} {H1 : Heap} (h : va_P D cl ws H1) {k : Nat} {q : Nat × va_E} (hk : ws[k]? = some q) : q.1 < H1.size := (h k q hk).lt
end VXS
/-! ===== END ===== -/
/-! ===== BEGIN methods with a table of their own: called by a name, returning or throwing ===== -/
section VXH
/-! vx_backW, vx_callVX, vx_callSX, vx_callVW, vx_runVW, vx_runVX, vx_runSX, vx_ofWH follow the same proofs as their sisters above (Free/Laws.lean, Shelf42/LK1.lean); vx_outP calls Shelf42/NT130.lean (outThrough). -/
section
variable {l : Launch} {R : Room} {p : Program} {e : Env} {below : List Frame} {s : State} {sargs : Array Value} {y : MethodName} {len W9 : Nat}
theorem vx_backW {ws : List Cond} {rm : Room} {Pc : Array Value → State → Prop} {Qc : Array Value → State → Outcome → State → Prop} {XC : String → State → State → Prop} {mc ms : Nat} {free : Addr → Prop} {bytes : ByteArray} {maxL : Nat} {ret : Option FieldType} {hh : List (Nat × Nat × Nat × Nat)}
    (hM : vx_Met l y ws rm Pc Qc XC mc ms free) (hblind : FrameBlind Pc) (hrc : rm.cells = mc) (hrs : rm.slots = ms)
    (hframes : rm.frames + 1 ≤ R.frames) (hlocals : W9 + (maxL + 11) + rm.locals ≤ R.locals)
    (hws : ∀ w ∈ ws, ∀ a' U, s.WarmedH U.vm → w.before a' U = true) (hcode : Cond.codeWith y bytes maxL ret hh ∈ ws) (hinit : ∀ a' U, s.WarmedH U.vm → (Cond.initialized y.cls).before a' U = true) :
    vx_Back l R p e below s sargs y len W9 (PreOf R mc ms Pc) (PostOf Qc mc ms free) (vx_Post XC mc ms free) := by
  intro m meth c A g ig mk a X hg hsize hdg hW hn hp
  have h1 : (headSpec ws rm).pre.before a A.U = true := atoms_intro fun w hw => hws w hw _ _ X.warmed
  have h2 : (Cond.codeWith y bytes maxL ret hh).before a A.U = true := hws _ hcode _ _ X.warmed
  have h3 : (Cond.initialized y.cls).before a A.U = true := hinit _ _ X.warmed
  have h4 : A.cells + (headSpec ws rm).room.cells ≤ R.cells := by rw [show (headSpec ws rm).room.cells = mc from hrc]; exact hp.1
  have h5 : A.slots + (headSpec ws rm).room.slots ≤ R.slots := by rw [show (headSpec ws rm).room.slots = ms from hrs]; exact hp.2.1
  have hPc : Pc a (A.U.calling g mk a) := hblind _ _ _ _ hp.2.2
  obtain ⟨U, Ls, c0, s0⟩ := A
  dsimp only [Pt.U, Pt.locs, Pt.cells, Pt.slots] at h1 h2 h3 h4 h5 X hn hPc ⊢
  obtain ⟨m9, methY, cY, hn9, hmY, hcY, -, hlY, -⟩ := Cond.codeWith_spec h2
  cases Option.some.inj (hn9.symm.trans hn)
  obtain ⟨kY, hkY, -⟩ := className_of_methodNamed hn
  have hinitY : kY.init = .initialized := Cond.initialized_spec (findClass_of_methodNamed hn) hkY h3
  have h : At U g.method c below := by rw [hg]; exact X.here
  have hlocals9 : W9 + (maxL + 11) + (headSpec ws rm).room.locals ≤ R.locals := hlocals
  have happ : (headSpec ws rm).appliesLoose y e.platform (U.calling g mk a) = true :=
    Spec.appliesLoose_calling (g := g) h hdg hn hkY hinitY
      (X.room_calling (g := g) (R' := (headSpec ws rm).room) hsize hmY hcY hframes (by rw [hlY]; omega) h4 h5) h1
  obtain ⟨mid, hmid⟩ := h.above
  have hfr : (U.setTop g).frames = (.java g :: mid) ++ below := by rw [State.frames_setTop' g h.top, hmid]; rfl
  obtain ⟨o, s₂, hsteps, -, hend, hq⟩ := Steps.callFree hM p X.admits X.cas X.clock (acts := []) hfr happ hPc trivial
  have hq' : vx_Q Qc XC mc ms free a (U.calling g mk a) o s₂ := hq
  rw [State.frames_setTop' g h.top] at hend
  obtain ⟨g₀, hg0⟩ := Option.isSome_iff_exists.mp h.top
  obtain ⟨r, hr⟩ := State.topJava?_eq_some.mp hg0
  have hr' : (({ U with heap := s₂.heap, slotsUsed := s₂.slotsUsed } : State).setVm s₂.vm).frames = .java g₀ :: r := hr
  rcases hq' with ⟨hqc, L, hfe, hL⟩ | ⟨q, rfl, E, ce, L, hx, hce, hcv, hcl, hW₂, hsm, hL⟩
  · obtain ⟨⟨v, rfl⟩, hW₂, e2, q2, q3, q4, q5, q6⟩ := id hfe
    have e3 : s₂ = ({ (U.calling g mk a).setFrames s₂.frames with heap := s₂.heap, slotsUsed := s₂.slotsUsed } : State).setVm s₂.vm := by
      have : s₂ = ({ s₂ with vm := (U.calling g mk a).vm } : State).setVm s₂.vm := rfl
      rw [e2] at this
      exact this
    obtain ⟨c₂, i₂, len₂, hc₂, hd₂, hf₂⟩ := hend
    have hW' : U.WarmedH s₂.vm := hW₂
    have hcc : c₂ = c := by
      have h1 : s₂.code? g.method = U.code? g.method := by
        rw [State.code?_eq, State.code?_eq, hW'.alike.method?]
      exact Option.some.inj (hc₂.symm.trans (h1.trans h.code))
    subst hcc
    have hlen : len₂ = len := by rw [hdg] at hd₂; cases hd₂; rfl
    subst hlen
    have hs₂ : s₂ = (({ U with heap := s₂.heap, slotsUsed := s₂.slotsUsed } : State).setVm s₂.vm).setTop { g with pc := g.pc + len₂, stack := v.toList ++ g.stack } := by
      refine e3.trans ?_
      rw [hf₂, State.calling_eq h.top, State.setFrames_setFrames, State.setTop_of_frames _ hr', hr]
      rfl
    have hsame : U.sameButNew ({ U with heap := s₂.heap, slotsUsed := s₂.slotsUsed } : State) L mc ms := by
      refine ⟨?_, q2, q3, q4, q5, q6⟩
      obtain ⟨t, ht, -⟩ := State.frames_cons hr
      show ({ U with heap := s₂.heap, slotsUsed := s₂.slotsUsed } : State) = { U.setFrames U.frames with heap := s₂.heap, slotsUsed := s₂.slotsUsed }
      rw [State.setFrames_self ht]
    subst hg
    refine Or.inl ⟨v, ⟨(({ U with heap := s₂.heap, slotsUsed := s₂.slotsUsed } : State).setVm s₂.vm), Ls ++ L, c0 + mc, s0 + ms⟩,
      ⟨X.admits, X.cas, X.clock, X.frames, X.room, X.hears, X.method, X.code, (X.here.setHeapUsed s₂.heap s₂.slotsUsed).setVm hW'.alike, X.tail, State.WarmedH.trans X.warmed hW', X.limits, X.bytes, X.same.trans (hsame.setVm s.vm)⟩,
      ⟨g, mk, s₂, L, rfl, rfl, hqc, rfl, hL, rfl, rfl⟩, ?_⟩
    show Steps p.tables e below _ ((({ U with heap := s₂.heap, slotsUsed := s₂.slotsUsed } : State).setVm s₂.vm).setTop { g with pc := g.pc + len₂, stack := v.toList ++ g.stack })
    rw [← hs₂]
    exact hsteps
  · obtain ⟨e2, q2, q3, q4, q5, q6⟩ := id hsm
    have e3 : s₂ = ({ (U.calling g mk a).setFrames s₂.frames with heap := s₂.heap, slotsUsed := s₂.slotsUsed } : State).setVm s₂.vm := by
      have : s₂ = ({ s₂ with vm := (U.calling g mk a).vm } : State).setVm s₂.vm := rfl
      rw [e2] at this
      exact this
    have hf₂ : s₂.frames = .throwing q :: .java g :: U.frames.tail := hend
    have hW' : U.WarmedH s₂.vm := hW₂
    have hs₂ : s₂ = ((({ U with heap := s₂.heap, slotsUsed := s₂.slotsUsed } : State).setVm s₂.vm).setTop g).pushFrame (.throwing q) := by
      refine e3.trans ?_
      rw [hf₂, State.calling_eq h.top, State.setFrames_setFrames, State.pushFrame, State.frames_setTop _ hr', State.setTop_of_frames _ hr', State.setFrames_setFrames, hr]
      rfl
    have hsame : U.sameButNew ({ U with heap := s₂.heap, slotsUsed := s₂.slotsUsed } : State) L mc ms := by
      refine ⟨?_, q2, q3, q4, q5, q6⟩
      obtain ⟨t, ht, -⟩ := State.frames_cons hr
      show ({ U with heap := s₂.heap, slotsUsed := s₂.slotsUsed } : State) = { U.setFrames U.frames with heap := s₂.heap, slotsUsed := s₂.slotsUsed }
      rw [State.setFrames_self ht]
    subst hg
    refine Or.inr ⟨q, ⟨(({ U with heap := s₂.heap, slotsUsed := s₂.slotsUsed } : State).setVm s₂.vm), Ls ++ L, c0 + mc, s0 + ms⟩,
      ⟨X.admits, X.cas, X.clock, X.frames, X.room, X.hears, X.method, X.code, (X.here.setHeapUsed s₂.heap s₂.slotsUsed).setVm hW'.alike, X.tail, State.WarmedH.trans X.warmed hW', X.limits, X.bytes, X.same.trans (hsame.setVm s.vm)⟩,
      ⟨g, mk, s₂, L, E, ce, rfl, rfl, hx, hce, hcv, hcl, rfl, hL, rfl, rfl⟩, ?_⟩
    show Steps p.tables e below _ (((({ U with heap := s₂.heap, slotsUsed := s₂.slotsUsed } : State).setVm s₂.vm).setTop g).pushFrame (.throwing q))
    rw [← hs₂]
    exact hsteps
end
variable {p : Program} {l : Launch} {e : Env} {R : Room} {s : State} {m : MethodId} {args : Array Value} {below : List Frame} {meth : Method} {c : Code} {T : State} {H : Heap} {locs : List Loc} {cells slots : Nat}
theorem vx_callVX (X : Stand p l e R s m args below meth c T locs cells slots) (hexec : p.tables.exec = Jvm.exec) {own C : String} {index : Nat} {y : MethodName} {bytes : ByteArray} {maxL : Nat} {ret : Option FieldType} {hh : List (Nat × Nat × Nat × Nat)}
    (hown : s.vm.findClass own = some m.cls) (hlink : (Cond.methodLink own index y).before args s = true) (hinst : (Cond.instanceMethod y).before args s = true) (hsel : (Cond.selects C y y).before args s = true)
    (hcode : (Cond.codeWith y bytes maxL ret hh).before args s = true) (hy : y.cls ≠ "java/lang/invoke/MethodHandle" ∧ y.cls ≠ "java/lang/invoke/VarHandle")
    {W9 : Nat} {Pre : Pt → Array Value → Prop} {Post : Pt → Array Value → Option Value → Pt → Prop} {PostX : Pt → Array Value → Addr → Pt → Prop} (hK : vx_Back l R p e below s args y 3 W9 Pre Post PostX)
    {b : Addr} {cellB : Cell} (hcell : T.heap[b]? = some cellB) (hobj : cellB.vm.isStatics = false) (hcls : s.vm.findClass C = some cellB.cls)
    {g : JFrame} (hg : g.method = m) (hsize : g.locals.size = c.maxLocals) {argsL rest : List Value} (hlen : ∀ sig, parseMethodDescriptor y.desc = some sig → argsL.length = sig.parameters.length)
    (hstack : g.stack = argsL.reverse ++ .ref b :: rest) (hW : 2 * g.monitorRoom + (rest.map fun v => v.category).sum ≤ W9) (hdg : decode c.code g.pc = .ok (.invokevirtual index, 3))
    (hpre : ∀ vm₁, s.WarmedH vm₁ → Pre ⟨T.setVm vm₁, locs, cells, slots⟩ (Value.ref b :: argsL).toArray) :
    (∃ (v : Option Value) (vm₁ : Vm) (B : Pt), s.WarmedH vm₁ ∧ Stand p l e R s m args below meth c B.U B.locs B.cells B.slots ∧ Post ⟨T.setVm vm₁, locs, cells, slots⟩ (Value.ref b :: argsL).toArray v B ∧
      ∀ target, Steps p.tables e below (B.U.setTop { g with pc := g.pc + 3, stack := v.toList ++ rest }) target → Steps p.tables e below (T.setTop g) target) ∨
    (∃ (q : Addr) (vm₁ : Vm) (B : Pt), s.WarmedH vm₁ ∧ Stand p l e R s m args below meth c B.U B.locs B.cells B.slots ∧ PostX ⟨T.setVm vm₁, locs, cells, slots⟩ (Value.ref b :: argsL).toArray q B ∧
      Steps p.tables e below (T.setTop g) ((B.U.setTop { g with stack := rest }).pushFrame (.throwing q))) := by
  obtain ⟨mk, methM, hnamed, hmethM, hstM, habM⟩ := Cond.instanceMethod_spec hinst
  obtain ⟨m8, methM', cM, hn8, hmethM', -, -, -, -, -, -, hsigM⟩ := Cond.codeWith_spec hcode
  cases Option.some.inj (hn8.symm.trans hnamed)
  cases hmethM.symm.trans hmethM'
  obtain ⟨c2, r2, m2, q1, q2, q3, q4, kP, hkP, hkPi⟩ := Cond.selects_spec hsel
  cases hcls.symm.trans q1
  cases (State.methodFound?_of_named hnamed hy).symm.trans q2
  cases hnamed.symm.trans q3
  have hselP : selectMethod e.platform s.vm cellB.cls mk = .method mk := by rw [Launch.admits_selectMethod X.admits]; exact q4
  obtain ⟨vm₁, X₁, hstep₁⟩ := X.invokevirtual hexec hown hlink hnamed hmethM hstM hkP hkPi hy (a := b) (cell := cellB) hcell
    (fun z h => by rw [h] at hobj; cases hobj) hselP hmethM habM hkP hkPi (g := g) hg (argsL := argsL) (rest := rest) (hlen _ hsigM) hstack hdg
  rcases hK m meth c ⟨T.setVm vm₁, locs, cells, slots⟩ { g with stack := rest } (.invokevirtual index) mk (Value.ref b :: argsL).toArray X₁ hg hsize hdg hW (X₁.named hnamed) (hpre vm₁ X₁.warmed) with ⟨v, B, X', hpost, hsteps⟩ | ⟨q, B, X', hpost, hsteps⟩
  · exact Or.inl ⟨v, vm₁, B, X₁.warmed, X', hpost, fun target h => hstep₁ _ fun acts => by rw [doInvoke_state]; exact hsteps.trans h⟩
  · exact Or.inr ⟨q, vm₁, B, X₁.warmed, X', hpost, hstep₁ _ fun acts => by rw [doInvoke_state]; exact hsteps⟩
theorem vx_callSX (X : Stand p l e R s m args below meth c T locs cells slots) (hexec : p.tables.exec = Jvm.exec) {own : String} {index : Nat} {y : MethodName} {bytes : ByteArray} {maxL : Nat} {ret : Option FieldType} {hh : List (Nat × Nat × Nat × Nat)}
    (hown : s.vm.findClass own = some m.cls) (hlink : (Cond.methodLink own index y).before args s = true) (hstat : (Cond.static y).before args s = true) (hinit : (Cond.initialized y.cls).before args s = true)
    (hcode : (Cond.codeWith y bytes maxL ret hh).before args s = true) (hy : y.cls ≠ "java/lang/invoke/MethodHandle" ∧ y.cls ≠ "java/lang/invoke/VarHandle")
    {W9 : Nat} {Pre : Pt → Array Value → Prop} {Post : Pt → Array Value → Option Value → Pt → Prop} {PostX : Pt → Array Value → Addr → Pt → Prop} (hK : vx_Back l R p e below s args y 3 W9 Pre Post PostX)
    {g : JFrame} (hg : g.method = m) (hsize : g.locals.size = c.maxLocals) {argsL rest : List Value} (hlen : ∀ sig, parseMethodDescriptor y.desc = some sig → argsL.length = sig.parameters.length)
    (hstack : g.stack = argsL.reverse ++ rest) (hW : 2 * g.monitorRoom + (rest.map fun v => v.category).sum ≤ W9) (hdg : decode c.code g.pc = .ok (.invokestatic index, 3))
    (hpre : ∀ vm₁, s.WarmedH vm₁ → Pre ⟨T.setVm vm₁, locs, cells, slots⟩ argsL.toArray) :
    (∃ (v : Option Value) (vm₁ : Vm) (B : Pt), s.WarmedH vm₁ ∧ Stand p l e R s m args below meth c B.U B.locs B.cells B.slots ∧ Post ⟨T.setVm vm₁, locs, cells, slots⟩ argsL.toArray v B ∧
      ∀ target, Steps p.tables e below (B.U.setTop { g with pc := g.pc + 3, stack := v.toList ++ rest }) target → Steps p.tables e below (T.setTop g) target) ∨
    (∃ (q : Addr) (vm₁ : Vm) (B : Pt), s.WarmedH vm₁ ∧ Stand p l e R s m args below meth c B.U B.locs B.cells B.slots ∧ PostX ⟨T.setVm vm₁, locs, cells, slots⟩ argsL.toArray q B ∧
      Steps p.tables e below (T.setTop g) ((B.U.setTop { g with stack := rest }).pushFrame (.throwing q))) := by
  obtain ⟨mk, methM, cM, hnamed, hmethM, -, -, -, -, -, -, hsigM⟩ := Cond.codeWith_spec hcode
  have hstatic : methM.isStatic = true := Cond.static_spec hnamed hmethM hstat
  obtain ⟨kP, hkP, -⟩ := className_of_methodNamed hnamed
  have hinitP : kP.init = .initialized := Cond.initialized_spec (findClass_of_methodNamed hnamed) hkP hinit
  obtain ⟨vm₁, X₁, hstep₁⟩ := X.invokestatic hexec hown hlink hnamed hmethM hstatic hkP hinitP hy (g := g) hg (argsL := argsL) (rest := rest) (hlen _ hsigM) hstack hdg
  rcases hK m meth c ⟨T.setVm vm₁, locs, cells, slots⟩ { g with stack := rest } (.invokestatic index) mk argsL.toArray X₁ hg hsize hdg hW (X₁.named hnamed) (hpre vm₁ X₁.warmed) with ⟨v, B, X', hpost, hsteps⟩ | ⟨q, B, X', hpost, hsteps⟩
  · exact Or.inl ⟨v, vm₁, B, X₁.warmed, X', hpost, fun target h => hstep₁ _ fun acts => by rw [doInvoke_state]; exact hsteps.trans h⟩
  · exact Or.inr ⟨q, vm₁, B, X₁.warmed, X', hpost, hstep₁ _ fun acts => by rw [doInvoke_state]; exact hsteps⟩
theorem vx_callVW (X : Stand p l e R s m args below meth c T locs cells slots) (hexec : p.tables.exec = Jvm.exec) {own C : String} {index : Nat} {y : MethodName} {bytes : ByteArray} {maxL : Nat} {ret : Option FieldType} {hh : List (Nat × Nat × Nat × Nat)}
    (hown : s.vm.findClass own = some m.cls) (hlink : (Cond.methodLink own index y).before args s = true) (hinst : (Cond.instanceMethod y).before args s = true) (hsel : (Cond.selects C y y).before args s = true)
    (hcode : (Cond.codeWith y bytes maxL ret hh).before args s = true) (hy : y.cls ≠ "java/lang/invoke/MethodHandle" ∧ y.cls ≠ "java/lang/invoke/VarHandle")
    {W9 : Nat} {Pre : Pt → Array Value → Prop} {Post : Pt → Array Value → Option Value → Pt → Prop} (hK : Back l R p e below s args y 3 W9 Pre Post)
    {b : Addr} {cellB : Cell} (hcell : T.heap[b]? = some cellB) (hobj : cellB.vm.isStatics = false) (hcls : s.vm.findClass C = some cellB.cls)
    {g : JFrame} (hg : g.method = m) (hsize : g.locals.size = c.maxLocals) {argsL rest : List Value} (hlen : ∀ sig, parseMethodDescriptor y.desc = some sig → argsL.length = sig.parameters.length)
    (hstack : g.stack = argsL.reverse ++ .ref b :: rest) (hW : 2 * g.monitorRoom + (rest.map fun v => v.category).sum ≤ W9) (hdg : decode c.code g.pc = .ok (.invokevirtual index, 3))
    (hpre : ∀ vm₁, s.WarmedH vm₁ → Pre ⟨T.setVm vm₁, locs, cells, slots⟩ (Value.ref b :: argsL).toArray) :
    ∃ (v : Option Value) (vm₁ : Vm) (B : Pt), s.WarmedH vm₁ ∧ Stand p l e R s m args below meth c B.U B.locs B.cells B.slots ∧ Post ⟨T.setVm vm₁, locs, cells, slots⟩ (Value.ref b :: argsL).toArray v B ∧
      ∀ target, Steps p.tables e below (B.U.setTop { g with pc := g.pc + 3, stack := v.toList ++ rest }) target → Steps p.tables e below (T.setTop g) target := by
  obtain ⟨mk, methM, hnamed, hmethM, hstM, habM⟩ := Cond.instanceMethod_spec hinst
  obtain ⟨m8, methM', cM, hn8, hmethM', -, -, -, -, -, -, hsigM⟩ := Cond.codeWith_spec hcode
  cases Option.some.inj (hn8.symm.trans hnamed)
  cases hmethM.symm.trans hmethM'
  obtain ⟨c2, r2, m2, q1, q2, q3, q4, kP, hkP, hkPi⟩ := Cond.selects_spec hsel
  cases hcls.symm.trans q1
  cases (State.methodFound?_of_named hnamed hy).symm.trans q2
  cases hnamed.symm.trans q3
  have hselP : selectMethod e.platform s.vm cellB.cls mk = .method mk := by rw [Launch.admits_selectMethod X.admits]; exact q4
  obtain ⟨vm₁, X₁, hstep₁⟩ := X.invokevirtual hexec hown hlink hnamed hmethM hstM hkP hkPi hy (a := b) (cell := cellB) hcell
    (fun z h => by rw [h] at hobj; cases hobj) hselP hmethM habM hkP hkPi (g := g) hg (argsL := argsL) (rest := rest) (hlen _ hsigM) hstack hdg
  obtain ⟨v, B, X', hpost, hsteps⟩ := hK m meth c ⟨T.setVm vm₁, locs, cells, slots⟩ { g with stack := rest } (.invokevirtual index) mk (Value.ref b :: argsL).toArray X₁ hg hsize hdg hW (X₁.named hnamed) (hpre vm₁ X₁.warmed)
  exact ⟨v, vm₁, B, X₁.warmed, X', hpost, fun target h => hstep₁ _ fun acts => by rw [doInvoke_state]; exact hsteps.trans h⟩
abbrev vx_CVW (R : Room) (s : State) (args : Array Value) (own C : String) (index : Nat) (y : MethodName) (bytes : ByteArray) (maxL : Nat) (ret : Option FieldType) (hh : List (Nat × Nat × Nat × Nat)) (ws : List Cond) (rm : Room) (mc ms n : Nat) : Prop :=
  (rm.cells = mc ∧ rm.slots = ms ∧ rm.frames + 1 ≤ R.frames ∧ 8 + (maxL + 11) + rm.locals ≤ R.locals ∧ (∀ w ∈ ws, ∀ (a' : Array Value) (U : State), s.WarmedH U.vm → w.before a' U = true) ∧ Cond.codeWith y bytes maxL ret hh ∈ ws) ∧
  (Cond.codeWith y bytes maxL ret hh).before args s = true ∧ (Cond.initialized y.cls).before args s = true ∧ (y.cls ≠ "java/lang/invoke/MethodHandle" ∧ y.cls ≠ "java/lang/invoke/VarHandle") ∧
  (∀ sig, parseMethodDescriptor y.desc = some sig → n = sig.parameters.length) ∧ (Cond.methodLink own index y).before args s = true ∧ (Cond.instanceMethod y).before args s = true ∧ (Cond.selects C y y).before args s = true
theorem vx_cwVW {own C : String} {index maxL mc ms : Nat} {y : MethodName} {bytes : ByteArray} {ret : Option FieldType} {hh : List (Nat × Nat × Nat × Nat)} {Ts ws ws' : List Cond} {rm : Room} (n : Nat) (ht : ∀ w ∈ Ts, w.before args s = true) (hT : GoodIn Ts (wsV own index C y ws)) (hw : ws = Cond.codeWith y bytes maxL ret hh :: ws') (hrc : rm.cells = mc) (hrs : rm.slots = ms)
    (hd : y.cls = C ∧ y.cls ≠ "java/lang/invoke/MethodHandle" ∧ y.cls ≠ "java/lang/invoke/VarHandle" ∧ (parseMethodDescriptor y.desc).map (fun d => d.parameters.length) = some n) (hR : rm.frames + 1 ≤ R.frames ∧ 8 + (maxL + 11) + rm.locals ≤ R.locals) :
    vx_CVW R s args own C index y bytes maxL ret hh ws rm mc ms n := by
  obtain ⟨hC, hd⟩ := hd
  subst hC
  have ok : ∀ w ∈ wsV own index y.cls y ws, w.before args s = true := fun w h => ht w (hT w h).1
  have hG : GoodIn Ts ws := fun w h => hT w (by unfold wsV; exact List.mem_append_right _ h)
  have hc : Cond.codeWith y bytes maxL ret hh ∈ ws := by rw [hw]; exact List.mem_cons_self
  refine ⟨⟨hrc, hrs, hR.1, hR.2, pay_in ht hG, hc⟩, ht _ (hG _ hc).1, ok _ (by simp [wsV]), ⟨hd.1, hd.2.1⟩, fun sig h => ?_, ok _ (by simp [wsV]), ok _ (by simp [wsV]), ok _ (by simp [wsV])⟩
  have h2 := hd.2.2
  rw [h] at h2
  exact (Option.some.inj h2).symm
theorem vx_runVW {y : MethodName} {bytes cc : ByteArray} {maxL nL mc ms n index : Nat} {ret : Option FieldType} {hh : List (Nat × Nat × Nat × Nat)} {ws : List Cond} {rm : Room} {Pc : Array Value → State → Prop} {Qc : Array Value → State → Outcome → State → Prop} {free : Addr → Prop} {Ts : List Cond} {own C : String} {b : Addr} {As rest : List Value} {g : JFrame}
    (S : CallFix p m c cc nL s args Ts own) (hM : Met l y ws rm Pc Qc mc ms free) (cw : vx_CVW R s args own C index y bytes maxL ret hh ws rm mc ms n) (hp : PreV s H C b Pc As)
    (hg : g.method = m) (hn : As.length = n) (hsize : g.locals.size = nL) (hstack : g.stack = As.reverse ++ .ref b :: rest) (hW : 2 * g.monitorRoom + (rest.map fun v => v.category).sum ≤ 8) (hdg : decode cc g.pc = .ok (.invokevirtual index, 3)) (hf : cells + mc ≤ R.cells ∧ slots + ms ≤ R.slots) :
    va_Run p l e R s m args below meth c H locs cells slots mc ms g rest (Qc (Value.ref b :: As).toArray) free := by
  obtain ⟨⟨hrc, hrs, hfr, hlo, hws, hcw⟩, hcode, hini, hy, hlen, hl, hin, hse⟩ := cw
  have hK : Back l R p e below s args y 3 8 (PreOf R mc ms Pc) (PostOf Qc mc ms free) := va_backW (hh := hh) (bytes := bytes) (maxL := maxL) (ret := ret) hM hp.1 hrc hrs hfr hlo hws hcw (fun a' U hW => word_at hW (Or.inl (by first | rfl | simp [Cond.onTables, Cond.keeps, Cond.steady])) hini)
  obtain ⟨hx, hb, hml, ho, -⟩ := S
  obtain ⟨-, ⟨cellB, hcB, hoB, hclB⟩, hPc⟩ := hp
  intro T hT X
  obtain ⟨v, vm₁, ⟨U', l2, c2, s2⟩, hW₁, X', ⟨g', mk, t, L, e1, e2, hq, h1, hL, h2, h3⟩, st⟩ := vx_callVW X hx (C := C) (hh := hh) (bytes := bytes) (maxL := maxL) (ret := ret) ho hl hin hse hcode hy hK (by rw [hT]; exact hcB) hoB hclB hg (hsize.trans hml.symm) (argsL := As) (rest := rest) (fun sig h => hn.trans (hlen sig h)) hstack hW (by rw [hb]; exact hdg)
    (fun vm₁ hW₁ => ⟨hf.1, hf.2, hPc (T.setVm vm₁) hT hW₁⟩)
  dsimp only [Pt.U, Pt.locs, Pt.cells, Pt.slots] at X' e1 e2 h1 h2 h3 st
  subst h1; subst h2; subst h3
  exact ⟨v, (T.setVm vm₁).calling g' mk (Value.ref b :: As).toArray, t, U', L, hT, X', hL, e1, e2, hq, st⟩
section
variable {y : MethodName} {bytes cc : ByteArray} {maxL nL mc ms n index : Nat} {ret : Option FieldType} {ws : List Cond} {rm : Room} {Pc : Array Value → State → Prop} {Qc : Array Value → State → Outcome → State → Prop} {XC : String → State → State → Prop} {free : Addr → Prop} {Ts : List Cond} {own C : String} {b : Addr} {As rest : List Value} {g : JFrame}
theorem vx_runVX {hh : List (Nat × Nat × Nat × Nat)} (S : CallFix p m c cc nL s args Ts own) (hM : vx_Met l y ws rm Pc Qc XC mc ms free) (cw : vx_CVW R s args own C index y bytes maxL ret hh ws rm mc ms n) (hp : PreV s H C b Pc As)
    (hg : g.method = m) (hn : As.length = n) (hsize : g.locals.size = nL) (hstack : g.stack = As.reverse ++ .ref b :: rest) (hW : 2 * g.monitorRoom + (rest.map fun v => v.category).sum ≤ 8) (hdg : decode cc g.pc = .ok (.invokevirtual index, 3)) (hf : cells + mc ≤ R.cells ∧ slots + ms ≤ R.slots) :
    vx_Run p l e R s m args below meth c H locs cells slots mc ms g rest (Qc (Value.ref b :: As).toArray) XC free := by
  obtain ⟨⟨hrc, hrs, hfr, hlo, hws, hcw⟩, hcode, hini, hy, hlen, hl, hin, hse⟩ := cw
  have hK : vx_Back l R p e below s args y 3 8 (PreOf R mc ms Pc) (PostOf Qc mc ms free) (vx_Post XC mc ms free) := vx_backW (hh := hh) (bytes := bytes) (maxL := maxL) (ret := ret) hM hp.1 hrc hrs hfr hlo hws hcw (fun a' U hW => word_at hW (Or.inl (by first | rfl | simp [Cond.onTables, Cond.keeps, Cond.steady])) hini)
  obtain ⟨hx, hb, hml, ho, -⟩ := S
  obtain ⟨-, ⟨cellB, hcB, hoB, hclB⟩, hPc⟩ := hp
  intro T hT X
  rcases vx_callVX X hx (C := C) (hh := hh) (bytes := bytes) (maxL := maxL) (ret := ret) ho hl hin hse hcode hy hK (by rw [hT]; exact hcB) hoB hclB hg (hsize.trans hml.symm) (argsL := As) (rest := rest) (fun sig h => hn.trans (hlen sig h)) hstack hW (by rw [hb]; exact hdg)
    (fun vm₁ hW₁ => ⟨hf.1, hf.2, hPc (T.setVm vm₁) hT hW₁⟩) with ⟨v, vm₁, ⟨U', l2, c2, s2⟩, hW₁, X', ⟨g', mk, t, L, e1, e2, hq, h1, hL, h2, h3⟩, st⟩ | ⟨q, vm₁, ⟨U', l2, c2, s2⟩, hW₁, X', ⟨g', mk, t, L, E, ce, e1, e2, hq, hce, hcv, hcl, h1, hL, h2, h3⟩, st⟩
  · dsimp only [Pt.U, Pt.locs, Pt.cells, Pt.slots] at X' e1 e2 h1 h2 h3 st
    subst h1; subst h2; subst h3
    exact Or.inl ⟨v, (T.setVm vm₁).calling g' mk (Value.ref b :: As).toArray, t, U', L, hT, X', hL, e1, e2, hq, st⟩
  · dsimp only [Pt.U, Pt.locs, Pt.cells, Pt.slots] at X' e1 e2 h1 h2 h3 st hcl
    subst h1; subst h2; subst h3
    exact Or.inr ⟨q, (T.setVm vm₁).calling g' mk (Value.ref b :: As).toArray, t, U', L, E, ce, hT, X', hL, e1, e2, hq, hce, hcv, vx_cls hW₁ hcl, st⟩
theorem vx_runSX {hh : List (Nat × Nat × Nat × Nat)} (S : CallFix p m c cc nL s args Ts own) (hM : vx_Met l y ws rm Pc Qc XC mc ms free) (cw : vx_CSW R s args own index y bytes maxL ret hh ws rm mc ms n) (hp : PreS s H Pc As)
    (hg : g.method = m) (hn : As.length = n) (hsize : g.locals.size = nL) (hstack : g.stack = As.reverse ++ rest) (hW : 2 * g.monitorRoom + (rest.map fun v => v.category).sum ≤ 8) (hdg : decode cc g.pc = .ok (.invokestatic index, 3)) (hf : cells + mc ≤ R.cells ∧ slots + ms ≤ R.slots) :
    vx_Run p l e R s m args below meth c H locs cells slots mc ms g rest (Qc As.toArray) XC free := by
  obtain ⟨⟨hrc, hrs, hfr, hlo, hws, hcw⟩, hcode, hini, hy, hlen, hl, hstt⟩ := cw
  have hK : vx_Back l R p e below s args y 3 8 (PreOf R mc ms Pc) (PostOf Qc mc ms free) (vx_Post XC mc ms free) := vx_backW (hh := hh) (bytes := bytes) (maxL := maxL) (ret := ret) hM hp.1 hrc hrs hfr hlo hws hcw (fun a' U hW => word_at hW (Or.inl (by first | rfl | simp [Cond.onTables, Cond.keeps, Cond.steady])) hini)
  obtain ⟨hx, hb, hml, ho, -⟩ := S
  intro T hT X
  rcases vx_callSX X hx (hh := hh) (bytes := bytes) (maxL := maxL) (ret := ret) ho hl hstt hini hcode hy hK hg (hsize.trans hml.symm) (argsL := As) (rest := rest) (fun sig h => hn.trans (hlen sig h)) hstack hW (by rw [hb]; exact hdg)
    (fun vm₁ hW₁ => ⟨hf.1, hf.2, hp.2 (T.setVm vm₁) hT hW₁⟩) with ⟨v, vm₁, ⟨U', l2, c2, s2⟩, hW₁, X', ⟨g', mk, t, L, e1, e2, hq, h1, hL, h2, h3⟩, st⟩ | ⟨q, vm₁, ⟨U', l2, c2, s2⟩, hW₁, X', ⟨g', mk, t, L, E, ce, e1, e2, hq, hce, hcv, hcl, h1, hL, h2, h3⟩, st⟩
  · dsimp only [Pt.U, Pt.locs, Pt.cells, Pt.slots] at X' e1 e2 h1 h2 h3 st
    subst h1; subst h2; subst h3
    exact Or.inl ⟨v, (T.setVm vm₁).calling g' mk As.toArray, t, U', L, hT, X', hL, e1, e2, hq, st⟩
  · dsimp only [Pt.U, Pt.locs, Pt.cells, Pt.slots] at X' e1 e2 h1 h2 h3 st hcl
    subst h1; subst h2; subst h3
    exact Or.inr ⟨q, (T.setVm vm₁).calling g' mk As.toArray, t, U', L, E, ce, hT, X', hL, e1, e2, hq, hce, hcv, vx_cls hW₁ hcl, st⟩
end
end VXH
theorem vx_ofWH {l : Launch} {y : MethodName} {ws ws' : List Cond} {rm : Room} {Pc : Array Value → State → Prop} {Qc : Array Value → State → Outcome → State → Prop} {XC : String → State → State → Prop} {mc ms : Nat} {free : Addr → Prop} {cc : ByteArray} {maxL : Nat} {ret : Option FieldType} {hh : List (Nat × Nat × Nat × Nat)}
    (hy : plainName y.cls = true) (hw : ws = Cond.codeWith y cc maxL ret hh :: ws')
    (body : ∀ p e s m args below meth c s₁, BodyLoose p l y (headSpec ws rm) cc maxL ret e s m args below meth c s₁ → c.maxLocals = maxL → Pc args s →
      W p l e (headSpec ws rm).room s m args below meth c s.heap [] 0 0 (vx_MQ below Qc XC args s mc ms free) (entryFrame m args maxL)) : vx_Met l y ws rm Pc Qc XC mc ms free := by
  refine MetFree.of_bodyS (code := cc) (maxLocals := maxL) (ret := ret) hy ?_ ?_
  · intro args s m h hn
    obtain ⟨m9, meth, c, hn9, h1, h2, h3, h4, -, h5, h6, -⟩ := Cond.codeWith_spec (atoms_spec (ws := ws) h _ (by rw [hw]; exact List.mem_cons_self))
    cases hn.symm.trans hn9
    exact ⟨meth, c, h1, h2, h3, h4, h5, h6⟩
  · intro p e s m args below meth c s₁ B hml hP _
    have hh0 : s₁.heap = s.heap := by rw [B.state]; rfl
    obtain ⟨t, a1, o, b1, b2, b3⟩ := body p e s m args below meth c s₁ B hml hP s₁ hh0 (Stand.of_body B)
    exact ⟨t, o, a1, b1, b2, b3⟩
/-! ===== END ===== -/
end
section
/-! CATCH: an exception that a callee has thrown, caught by the only row of the caller's table -/
section VYC
variable {p : Program} {l : Launch} {e : Env} {R : Room} {s : State} {m : MethodId} {args : Array Value} {below : List Frame} {meth : Method} {c : Code} {H : Heap} {locs : List Loc} {cells slots : Nat} {Q : State → Prop} {pc : Nat} {ls : Array Slot} {rest : List Value}
theorem vy_search {S : State} {g : JFrame} {q : Addr} {x : ExceptionTableEntry} {cT : ClassId} {ce : Cell} (hm : S.vm.method? g.method = some meth) (hc : meth.code = some c) (hone : c.exceptionTable.toList = [x]) (hx : covers x g.pc = true) (h0 : x.catchType ≠ 0)
    (hl : S.vm.ClassLinks e.platform g.method.cls x.catchType cT) (hcell : S.heap[q]? = some ce) (hobj : ∀ k, ce.vm ≠ .statics k) (hk : ∃ k, S.vm.classes[ce.cls]? = some k) (hcl : ∃ k, S.vm.classes[cT]? = some k) (hfit : S.vm.assignable ce.cls cT = true)
    (Z : Handler → Pre) (E : CtlPost) (d : Bool) (acts : List Action) :
    wp (findHandler g q) Z E e d acts S ↔ Z (.found x.handlerPc) d acts (S.setVm (S.vm.noted g.method.cls x.catchType (.cls cT))) := by
  rw [W.findHandler_eq hm hc, hone]
  have hx2 : (decide (x.startPc ≤ g.pc) && decide (g.pc < x.endPc)) = true := hx
  have hal : S.vm.Alike (S.vm.noted g.method.cls x.catchType (.cls cT)) := (Vm.Alike.refl S.vm).noted _ _ _
  obtain ⟨o1, o2⟩ := (resolveClass_links e.toSetting hl).op (op := VmOp.resolveClass g.method.cls x.catchType) rfl
  obtain ⟨ka, hka⟩ := hk
  obtain ⟨kb, hkb⟩ := hcl
  obtain ⟨ka', hka', -⟩ := hal.2.2 _ _ hka
  obtain ⟨kb', hkb', -⟩ := hal.2.2 _ _ hkb
  have hfit' : (S.vm.noted g.method.cls x.catchType (.cls cT)).assignable ce.cls cT = true := by rw [hal.assignable]; exact hfit
  simp [findHandler.go, hx2, h0, o1, o2, hcell, hobj, hka', hkb', hfit', VmOp.dirties, VmOp.acts]
theorem vy_catch {own name E : String} {ce : Cell} {q : Addr} (hown : s.vm.findClass own = some m.cls) (x : ExceptionTableEntry) (hone : c.exceptionTable.toList = [x]) (hx : covers x pc = true) (h0 : x.catchType ≠ 0)
    (hlink : (Cond.classLink own x.catchType name).before args s = true) (hcast : (Cond.castable E name).before args s = true) (hcell : H[q]? = some ce) (hv : ce.vm = .none) (hcl : s.vm.findClass E = some ce.cls)
    (kk : W p l e R s m args below meth c H locs cells slots Q (F0 m x.handlerPc ls [.ref q])) : vx_W p l e R s m args below meth c H locs cells slots Q (F0 m pc ls rest) q := by
  intro T hT X
  have hpl : e.platform.magicAccessors = ({} : Platform).magicAccessors := by rw [X.admits.platform]
  obtain ⟨c3, c4, hc3, hc4, hasg⟩ := Cond.castable_spec hcast
  cases Option.some.inj (hc3.symm.trans hcl)
  obtain ⟨c5, hc5, hcl5⟩ := Cond.classLink_spec hown hlink e.platform hpl
  cases Option.some.inj (hc4.symm.trans hc5)
  obtain ⟨dk, _, _, kt, hd, _, _, _, _, hkt, _, hopen⟩ := hcl5.here
  obtain ⟨k9, hk9, -⟩ := Vm.findClass_spec hcl
  have hal := X.warmed.alike
  obtain ⟨k9', hk9', -⟩ := hal.2.2 _ _ hk9
  obtain ⟨kt', hkt', -⟩ := hal.2.2 _ _ hkt
  obtain ⟨vm', hvm⟩ : ∃ z, z = T.vm.noted m.cls x.catchType (.cls c4) := ⟨_, rfl⟩
  have hW' : s.WarmedH vm' := by rw [hvm]; exact X.warmed.noted hd hopen (State.rightAt_cls hcl5)
  obtain ⟨t, a1, b1⟩ := kk (T.setVm vm') hT (X.noted hW')
  refine ⟨t, ?_, b1⟩
  obtain ⟨g1, g2⟩ := X.here.throwing (g := F0 m pc ls rest) q
  refine Steps.head g1 g2 ?_
  have hfind : ∀ (Z : Handler → Pre) (E : CtlPost) (d : Bool) (acts : List Action), wp (findHandler (F0 m pc ls rest) q) Z E e d acts ((T.setTop (F0 m pc ls rest)).pushFrame (.throwing q)) ↔ Z (.found x.handlerPc) d acts (((T.setTop (F0 m pc ls rest)).pushFrame (.throwing q)).setVm vm') := by
    rw [hvm]
    exact vy_search (S := (T.setTop (F0 m pc ls rest)).pushFrame (.throwing q)) X.method' X.code hone hx h0 (X.warmed.classLinks hcl5) (by show T.heap[q]? = some ce; rw [hT]; exact hcell) (fun k h => by rw [hv] at h; cases h) ⟨k9', hk9'⟩ ⟨kt', hkt'⟩ (by show T.vm.assignable _ _ = true; rw [hal.assignable]; exact hasg)
  have hst : (stepThrowing e ((T.setTop (F0 m pc ls rest)).pushFrame (.throwing q)) q (.java (F0 m pc ls rest) :: T.frames.tail)).Is ((((T.setTop (F0 m pc ls rest)).pushFrame (.throwing q)).setVm vm').setFrames (.java (F0 m x.handlerPc ls [.ref q]) :: T.frames.tail)) [] := by
    simp only [stepThrowing, searchFrame, vmDo]
    generalize hr : Sem.go _ e false [] _ = res
    obtain ⟨as, rfl, ha⟩ := Sem.eq_ok_of hr (a := Handler.found x.handlerPc) (s' := ((T.setTop (F0 m pc ls rest)).pushFrame (.throwing q)).setVm vm') (acts' := []) (by simp [hfind _ _ _ _])
    exact ⟨rfl, ha⟩
  rw [stepThread_throwing (frames_entered X.here.top _), hst.1]
  obtain ⟨g₀, hg⟩ := Option.isSome_iff_exists.mp X.here.top
  obtain ⟨r, hr⟩ := State.topJava?_eq_some.mp hg
  have hr' : (T.setVm vm').frames = .java g₀ :: r := hr
  rw [State.setTop_of_frames _ hr'] at a1
  have e1 : ∀ (u : State) (F G : List Frame), ((u.setFrames F).setVm vm').setFrames G = (u.setVm vm').setFrames G := fun u F G => by
    rw [show (u.setFrames F).setVm vm' = (u.setVm vm').setFrames F from rfl, State.setFrames_setFrames]
  rw [hr, List.tail_cons, State.pushFrame, e1, State.setTop_of_frames _ hr, e1]
  exact a1
end VYC
end
section
/-! ===== BEGIN printed: names, fields, word lists, decode rows ===== -/
def RX0 : String := "ExternalSorter"
def TX0 : u_T := fun k => match k with
  | 0 => ("ExternalSorter", "workSize", "I", true)
  | 1 => ("ExternalSorter", "room", "I", true)
  | 2 => ("ExternalSorter", "keys", "[I", true)
  | 3 => ("ExternalSorter", "values", "[I", true)
  | 4 => ("ExternalSorter", "order", "[I", true)
  | 5 => ("ExternalSorter", "merged", "[I", true)
  | 6 => ("ExternalSorter", "rowsLeft", "[I", true)
  | 7 => ("ExternalSorter", "fed", "I", false)
  | 8 => ("ExternalSorter", "spilledRuns", "I", false)
  | 9 => ("ExternalSorter", "sealed", "Z", false)
  | 10 => ("ExternalSorter", "consumed", "I", false)
  | 11 => ("ExternalSorter", "openRuns", "I", false)
  | 12 => ("ExternalSorter", "currentKey", "I", false)
  | 13 => ("ExternalSorter", "currentValue", "I", false)
  | _ => ("ExternalSorter", "currentGroup", "[I", true)
def tyX0 : Nat → FieldType := fun k => match k with
  | 0 => .int
  | 1 => .int
  | 2 => .array .int
  | 3 => .array .int
  | 4 => .array .int
  | 5 => .array .int
  | 6 => .array .int
  | 7 => .int
  | 8 => .int
  | 9 => .boolean
  | 10 => .int
  | 11 => .int
  | 12 => .int
  | 13 => .int
  | _ => .array .int
abbrev wsX00 : List Cond := u_ws RX0 TX0 15
theorem nmX0 : ∀ a, a < 15 → ∀ b, b < 15 → a ≠ b → (TX0 a).2.1 ≠ (TX0 b).2.1 := by decide +kernel
theorem tyX0_ok : ∀ k, k < 15 → parseFieldDescriptor (TX0 k).2.2.1 = some (tyX0 k) := by decide +kernel
abbrev cX0_init : ByteArray := prog_1_method_1_code
def yX0_init : MethodName := ⟨RX0, "<init>", "(II)V"⟩
abbrev cX0_reset : ByteArray := prog_1_method_2_code
def yX0_reset : MethodName := ⟨RX0, "reset", "()V"⟩
abbrev cX0_feed : ByteArray := prog_1_method_3_code
def yX0_feed : MethodName := ⟨RX0, "feed", "(II)I"⟩
abbrev cX0_feedMany : ByteArray := prog_1_method_4_code
def yX0_feedMany : MethodName := ⟨RX0, "feedMany", "(IIII)I"⟩
abbrev cX0_seal : ByteArray := prog_1_method_5_code
def yX0_seal : MethodName := ⟨RX0, "seal", "()I"⟩
abbrev cX0_nextRow : ByteArray := prog_1_method_6_code
def yX0_nextRow : MethodName := ⟨RX0, "nextRow", "()I"⟩
abbrev cX0_nextGroup : ByteArray := prog_1_method_7_code
def yX0_nextGroup : MethodName := ⟨RX0, "nextGroup", "()I"⟩
abbrev cX0_skipTo : ByteArray := prog_1_method_8_code
def yX0_skipTo : MethodName := ⟨RX0, "skipTo", "(I)I"⟩
abbrev cX0_key : ByteArray := prog_1_method_9_code
def yX0_key : MethodName := ⟨RX0, "key", "()I"⟩
abbrev cX0_value : ByteArray := prog_1_method_10_code
def yX0_value : MethodName := ⟨RX0, "value", "()I"⟩
abbrev cX0_group : ByteArray := prog_1_method_11_code
def yX0_group : MethodName := ⟨RX0, "group", "(I)I"⟩
abbrev cX0_count : ByteArray := prog_1_method_12_code
def yX0_count : MethodName := ⟨RX0, "count", "(I)I"⟩
abbrev cX0_append : ByteArray := prog_1_method_13_code
def yX0_append : MethodName := ⟨RX0, "append", "(II)V"⟩
abbrev cX0_spilledPairs : ByteArray := prog_1_method_14_code
def yX0_spilledPairs : MethodName := ⟨RX0, "spilledPairs", "()I"⟩
abbrev cX0_sortWorkArea : ByteArray := prog_1_method_15_code
def yX0_sortWorkArea : MethodName := ⟨RX0, "sortWorkArea", "()V"⟩
abbrev cX0_insertRow : ByteArray := prog_1_method_16_code
def yX0_insertRow : MethodName := ⟨RX0, "insertRow", "(II)V"⟩
abbrev cX0_countRowsOfRuns : ByteArray := prog_1_method_17_code
def yX0_countRowsOfRuns : MethodName := ⟨RX0, "countRowsOfRuns", "()V"⟩
abbrev cX0_mergeRuns : ByteArray := prog_1_method_18_code
def yX0_mergeRuns : MethodName := ⟨RX0, "mergeRuns", "()V"⟩
abbrev cX0_mergeNeighbours : ByteArray := prog_1_method_19_code
def yX0_mergeNeighbours : MethodName := ⟨RX0, "mergeNeighbours", "(I)V"⟩
abbrev cX0_mergeStretches : ByteArray := prog_1_method_20_code
def yX0_mergeStretches : MethodName := ⟨RX0, "mergeStretches", "(III)V"⟩
abbrev cX0_keyOfRow : ByteArray := prog_1_method_21_code
def yX0_keyOfRow : MethodName := ⟨RX0, "keyOfRow", "(I)I"⟩
abbrev cX0_valueOfRow : ByteArray := prog_1_method_22_code
def yX0_valueOfRow : MethodName := ⟨RX0, "valueOfRow", "(I)I"⟩
abbrev cX0_takeFromRun : ByteArray := prog_1_method_23_code
def yX0_takeFromRun : MethodName := ⟨RX0, "takeFromRun", "(I)V"⟩
abbrev cX0_addToGroup : ByteArray := prog_1_method_24_code
def yX0_addToGroup : MethodName := ⟨RX0, "addToGroup", "(I)V"⟩
abbrev cX0_clearCurrent : ByteArray := prog_1_method_25_code
def yX0_clearCurrent : MethodName := ⟨RX0, "clearCurrent", "()V"⟩
abbrev cX0_at : ByteArray := prog_1_method_26_code
def yX0_at : MethodName := ⟨RX0, "at", "([II)I"⟩
abbrev cX0_put : ByteArray := prog_1_method_27_code
def yX0_put : MethodName := ⟨RX0, "put", "([III)V"⟩
def RX1 : String := "ExternalSorterModel"
def TX1 : u_T := fun k => match k with
  | 0 => ("ExternalSorterModel", "thrown", "I", false)
  | 1 => ("ExternalSorterModel", "wide", "I", true)
  | 2 => ("ExternalSorterModel", "room", "I", true)
  | 3 => ("ExternalSorterModel", "fed", "I", false)
  | 4 => ("ExternalSorterModel", "spills", "I", false)
  | 5 => ("ExternalSorterModel", "held", "I", false)
  | 6 => ("ExternalSorterModel", "reading", "Z", false)
  | 7 => ("ExternalSorterModel", "gone", "I", false)
  | 8 => ("ExternalSorterModel", "current", "I", false)
  | 9 => ("ExternalSorterModel", "nowKey", "I", false)
  | 10 => ("ExternalSorterModel", "nowValue", "I", false)
  | 11 => ("ExternalSorterModel", "groupCount", "I", false)
  | 12 => ("ExternalSorterModel", "groupSum", "I", false)
  | 13 => ("ExternalSorterModel", "groupLeast", "I", false)
  | 14 => ("ExternalSorterModel", "groupMost", "I", false)
  | 15 => ("ExternalSorterModel", "keys", "[I", true)
  | 16 => ("ExternalSorterModel", "values", "[I", true)
  | 17 => ("ExternalSorterModel", "order", "[I", true)
  | _ => ("ExternalSorterModel", "left", "[Z", true)
def tyX1 : Nat → FieldType := fun k => match k with
  | 0 => .int
  | 1 => .int
  | 2 => .int
  | 3 => .int
  | 4 => .int
  | 5 => .int
  | 6 => .boolean
  | 7 => .int
  | 8 => .int
  | 9 => .int
  | 10 => .int
  | 11 => .int
  | 12 => .int
  | 13 => .int
  | 14 => .int
  | 15 => .array .int
  | 16 => .array .int
  | 17 => .array .int
  | _ => .array .boolean
abbrev wsX10 : List Cond := u_ws RX1 TX1 19
theorem nmX1 : ∀ a, a < 19 → ∀ b, b < 19 → a ≠ b → (TX1 a).2.1 ≠ (TX1 b).2.1 := by decide +kernel
theorem tyX1_ok : ∀ k, k < 19 → parseFieldDescriptor (TX1 k).2.2.1 = some (tyX1 k) := by decide +kernel
abbrev cX1_init : ByteArray := prog_3_method_1_code
def yX1_init : MethodName := ⟨RX1, "<init>", "(II)V"⟩
abbrev cX1_thrown : ByteArray := prog_3_method_2_code
def yX1_thrown : MethodName := ⟨RX1, "thrown", "()I"⟩
abbrev cX1_reset : ByteArray := prog_3_method_3_code
def yX1_reset : MethodName := ⟨RX1, "reset", "()V"⟩
abbrev cX1_take : ByteArray := prog_3_method_4_code
def yX1_take : MethodName := ⟨RX1, "take", "(II)V"⟩
abbrev cX1_feed : ByteArray := prog_3_method_5_code
def yX1_feed : MethodName := ⟨RX1, "feed", "(II)I"⟩
abbrev cX1_feedMany : ByteArray := prog_3_method_6_code
def yX1_feedMany : MethodName := ⟨RX1, "feedMany", "(IIII)I"⟩
abbrev cX1_seal : ByteArray := prog_3_method_7_code
def yX1_seal : MethodName := ⟨RX1, "seal", "()I"⟩
abbrev cX1_nextRow : ByteArray := prog_3_method_8_code
def yX1_nextRow : MethodName := ⟨RX1, "nextRow", "()I"⟩
abbrev cX1_nextGroup : ByteArray := prog_3_method_9_code
def yX1_nextGroup : MethodName := ⟨RX1, "nextGroup", "()I"⟩
abbrev cX1_skipTo : ByteArray := prog_3_method_10_code
def yX1_skipTo : MethodName := ⟨RX1, "skipTo", "(I)I"⟩
abbrev cX1_key : ByteArray := prog_3_method_11_code
def yX1_key : MethodName := ⟨RX1, "key", "()I"⟩
abbrev cX1_value : ByteArray := prog_3_method_12_code
def yX1_value : MethodName := ⟨RX1, "value", "()I"⟩
abbrev cX1_group : ByteArray := prog_3_method_13_code
def yX1_group : MethodName := ⟨RX1, "group", "(I)I"⟩
abbrev cX1_runsLeft : ByteArray := prog_3_method_14_code
def yX1_runsLeft : MethodName := ⟨RX1, "runsLeft", "()I"⟩
abbrev cX1_count : ByteArray := prog_3_method_15_code
def yX1_count : MethodName := ⟨RX1, "count", "(I)I"⟩
def RJ9 : String := "java/lang/Math"
def TJ9 : u_T := fun k => match k with
  | _ => ("", "", "", false)
def tyJ9 : Nat → FieldType := fun k => match k with
  | _ => .int
abbrev wsJ90 : List Cond := u_ws RJ9 TJ9 0
theorem nmJ9 : ∀ a, a < 0 → ∀ b, b < 0 → a ≠ b → (TJ9 a).2.1 ≠ (TJ9 b).2.1 := by decide +kernel
theorem tyJ9_ok : ∀ k, k < 0 → parseFieldDescriptor (TJ9 k).2.2.1 = some (tyJ9 k) := by decide +kernel
abbrev cJ9_max_7cf53 : ByteArray := prog_6_method_65_code
def yJ9_max_7cf53 : MethodName := ⟨RJ9, "max", "(II)I"⟩
abbrev cJ9_min_7cf53 : ByteArray := prog_6_method_69_code
def yJ9_min_7cf53 : MethodName := ⟨RJ9, "min", "(II)I"⟩
def RJ0 : String := "java/lang/String"
def TJ0 : u_T := fun k => match k with
  | _ => ("", "", "", false)
def tyJ0 : Nat → FieldType := fun k => match k with
  | _ => .int
abbrev wsJ00 : List Cond := u_ws RJ0 TJ0 0
theorem nmJ0 : ∀ a, a < 0 → ∀ b, b < 0 → a ≠ b → (TJ0 a).2.1 ≠ (TJ0 b).2.1 := by decide +kernel
theorem tyJ0_ok : ∀ k, k < 0 → parseFieldDescriptor (TJ0 k).2.2.1 = some (tyJ0 k) := by decide +kernel
def RL : String := "ExternalSorterLaw"
abbrev cL_cell : ByteArray := method_2_code
def yL_cell : MethodName := ⟨RL, "cell", "([II)I"⟩
abbrev cL_feedMany : ByteArray := method_3_code
def yL_feedMany : MethodName := ⟨RL, "feedMany", "(LExternalSorter;IIII[J)I"⟩
abbrev cL_group : ByteArray := method_4_code
def yL_group : MethodName := ⟨RL, "group", "(LExternalSorter;I[J)I"⟩
abbrev cL_count : ByteArray := method_5_code
def yL_count : MethodName := ⟨RL, "count", "(LExternalSorter;I[J)I"⟩
abbrev cL_law : ByteArray := code
def yL_law : MethodName := ⟨RL, "law", "([I)Z"⟩
def wsX0_init : List Cond := .code yX0_init cX0_init 5 none :: ([.methodLink RX0 1 objectInit, .instanceMethod objectInit, .code objectInit ⟨#[0xb1]⟩ 1 none, .methodLink RX0 9 Lib.Math.min.name, .static Lib.Math.min.name, .initialized "java/lang/Math", .code Lib.Math.min.name Lib.Math.min.code 2 (some .int), .methodLink RX0 15 Lib.Math.max.name, .static Lib.Math.max.name, .code Lib.Math.max.name Lib.Math.max.code 2 (some .int), .fieldLink RX0 18 "ExternalSorter" "workSize" "I", .fieldLink RX0 22 "ExternalSorter" "room" "I", .arrayClass .int, .fieldLink RX0 25 "ExternalSorter" "keys" "[I", .fieldLink RX0 29 "ExternalSorter" "values" "[I", .fieldLink RX0 32 "ExternalSorter" "order" "[I", .fieldLink RX0 35 "ExternalSorter" "merged" "[I", .fieldLink RX0 38 "ExternalSorter" "rowsLeft" "[I", .fieldLink RX0 41 "ExternalSorter" "currentGroup" "[I"] ++ wsX00)
def wsX0_put : List Cond := .code yX0_put cX0_put 3 none :: ([])
def wsX0_clearCurrent : List Cond := .code yX0_clearCurrent cX0_clearCurrent 2 none :: ([.fieldLink RX0 87 "ExternalSorter" "currentKey" "I", .fieldLink RX0 93 "ExternalSorter" "currentValue" "I", .fieldLink RX0 41 "ExternalSorter" "currentGroup" "[I", .methodLink RX0 113 yX0_put, .static yX0_put, .initialized RX0, .code yX0_put cX0_put 3 none] ++ wsX00)
def wsX0_reset : List Cond := .code yX0_reset cX0_reset 1 none :: ([.fieldLink RX0 44 "ExternalSorter" "fed" "I", .fieldLink RX0 47 "ExternalSorter" "spilledRuns" "I", .fieldLink RX0 50 "ExternalSorter" "sealed" "Z", .fieldLink RX0 54 "ExternalSorter" "consumed" "I", .fieldLink RX0 57 "ExternalSorter" "openRuns" "I", .methodLink RX0 60 yX0_clearCurrent, .instanceMethod yX0_clearCurrent, .selects RX0 yX0_clearCurrent yX0_clearCurrent, .initialized RX0, .code yX0_clearCurrent cX0_clearCurrent 2 none, .fieldLink RX0 87 "ExternalSorter" "currentKey" "I", .fieldLink RX0 93 "ExternalSorter" "currentValue" "I", .fieldLink RX0 41 "ExternalSorter" "currentGroup" "[I", .methodLink RX0 113 yX0_put, .static yX0_put, .code yX0_put cX0_put 3 none] ++ wsX00)
def wsX0_spilledPairs : List Cond := .code yX0_spilledPairs cX0_spilledPairs 1 (some .int) :: ([.fieldLink RX0 47 "ExternalSorter" "spilledRuns" "I", .fieldLink RX0 18 "ExternalSorter" "workSize" "I"] ++ wsX00)
def wsX0_at : List Cond := .code yX0_at cX0_at 2 (some .int) :: ([])
def wsX0_keyOfRow : List Cond := .code yX0_keyOfRow cX0_keyOfRow 2 (some .int) :: ([.fieldLink RX0 25 "ExternalSorter" "keys" "[I", .fieldLink RX0 32 "ExternalSorter" "order" "[I", .methodLink RX0 105 yX0_at, .static yX0_at, .initialized RX0, .code yX0_at cX0_at 2 (some .int)] ++ wsX00)
def wsX0_insertRow : List Cond := .code yX0_insertRow cX0_insertRow 6 none :: ([.fieldLink RX0 32 "ExternalSorter" "order" "[I", .fieldLink RX0 25 "ExternalSorter" "keys" "[I", .methodLink RX0 105 yX0_at, .static yX0_at, .initialized RX0, .code yX0_at cX0_at 2 (some .int), .methodLink RX0 83 yX0_keyOfRow, .instanceMethod yX0_keyOfRow, .selects RX0 yX0_keyOfRow yX0_keyOfRow, .code yX0_keyOfRow cX0_keyOfRow 2 (some .int), .methodLink RX0 113 yX0_put, .static yX0_put, .code yX0_put cX0_put 3 none] ++ wsX00)
def wsX0_sortWorkArea : List Cond := .code yX0_sortWorkArea cX0_sortWorkArea 3 none :: ([.fieldLink RX0 44 "ExternalSorter" "fed" "I", .methodLink RX0 109 yX0_spilledPairs, .instanceMethod yX0_spilledPairs, .selects RX0 yX0_spilledPairs yX0_spilledPairs, .initialized RX0, .code yX0_spilledPairs cX0_spilledPairs 1 (some .int), .fieldLink RX0 47 "ExternalSorter" "spilledRuns" "I", .fieldLink RX0 18 "ExternalSorter" "workSize" "I", .methodLink RX0 117 yX0_insertRow, .instanceMethod yX0_insertRow, .selects RX0 yX0_insertRow yX0_insertRow, .code yX0_insertRow cX0_insertRow 6 none, .fieldLink RX0 32 "ExternalSorter" "order" "[I", .fieldLink RX0 25 "ExternalSorter" "keys" "[I", .methodLink RX0 105 yX0_at, .static yX0_at, .code yX0_at cX0_at 2 (some .int), .methodLink RX0 83 yX0_keyOfRow, .instanceMethod yX0_keyOfRow, .selects RX0 yX0_keyOfRow yX0_keyOfRow, .code yX0_keyOfRow cX0_keyOfRow 2 (some .int), .methodLink RX0 113 yX0_put, .static yX0_put, .code yX0_put cX0_put 3 none] ++ wsX00)
def wsX0_append_r1 : List Cond := [Cond.fieldLink RX0 44 "ExternalSorter" "fed" "I", Cond.fieldLink RX0 18 "ExternalSorter" "workSize" "I", Cond.fieldLink RX0 47 "ExternalSorter" "spilledRuns" "I", Cond.fieldLink RX0 25 "ExternalSorter" "keys" "[I", Cond.fieldLink RX0 29 "ExternalSorter" "values" "[I", Cond.fieldLink RX0 32 "ExternalSorter" "order" "[I", Cond.methodLink RX0 109 yX0_spilledPairs, Cond.instanceMethod yX0_spilledPairs, Cond.selects RX0 yX0_spilledPairs yX0_spilledPairs, Cond.initialized RX0, Cond.code yX0_spilledPairs cX0_spilledPairs 1 (some .int), Cond.methodLink RX0 74 yX0_sortWorkArea, Cond.instanceMethod yX0_sortWorkArea, Cond.selects RX0 yX0_sortWorkArea yX0_sortWorkArea, Cond.code yX0_sortWorkArea cX0_sortWorkArea 3 none, Cond.methodLink RX0 117 yX0_insertRow, Cond.instanceMethod yX0_insertRow, Cond.selects RX0 yX0_insertRow yX0_insertRow, Cond.code yX0_insertRow cX0_insertRow 6 none, Cond.methodLink RX0 105 yX0_at, Cond.static yX0_at, Cond.code yX0_at cX0_at 2 (some .int), Cond.methodLink RX0 83 yX0_keyOfRow, Cond.instanceMethod yX0_keyOfRow]
def wsX0_append_r2 : List Cond := [Cond.selects RX0 yX0_keyOfRow yX0_keyOfRow, Cond.code yX0_keyOfRow cX0_keyOfRow 2 (some .int), Cond.methodLink RX0 113 yX0_put, Cond.static yX0_put, Cond.code yX0_put cX0_put 3 none]
def wsX0_append : List Cond := .code yX0_append cX0_append 3 none :: ((wsX0_append_r1 ++ wsX0_append_r2) ++ wsX00)
def wsX0_feed_r1 : List Cond := [Cond.fieldLink RX0 50 "ExternalSorter" "sealed" "Z", Cond.fieldLink RX0 44 "ExternalSorter" "fed" "I", Cond.fieldLink RX0 22 "ExternalSorter" "room" "I", Cond.methodLink RX0 63 yX0_append, Cond.instanceMethod yX0_append, Cond.selects RX0 yX0_append yX0_append, Cond.initialized RX0, Cond.code yX0_append cX0_append 3 none, Cond.fieldLink RX0 18 "ExternalSorter" "workSize" "I", Cond.fieldLink RX0 47 "ExternalSorter" "spilledRuns" "I", Cond.fieldLink RX0 25 "ExternalSorter" "keys" "[I", Cond.fieldLink RX0 29 "ExternalSorter" "values" "[I", Cond.fieldLink RX0 32 "ExternalSorter" "order" "[I", Cond.methodLink RX0 109 yX0_spilledPairs, Cond.instanceMethod yX0_spilledPairs, Cond.selects RX0 yX0_spilledPairs yX0_spilledPairs, Cond.code yX0_spilledPairs cX0_spilledPairs 1 (some .int), Cond.methodLink RX0 74 yX0_sortWorkArea, Cond.instanceMethod yX0_sortWorkArea, Cond.selects RX0 yX0_sortWorkArea yX0_sortWorkArea, Cond.code yX0_sortWorkArea cX0_sortWorkArea 3 none, Cond.methodLink RX0 117 yX0_insertRow, Cond.instanceMethod yX0_insertRow, Cond.selects RX0 yX0_insertRow yX0_insertRow]
def wsX0_feed_r2 : List Cond := [Cond.code yX0_insertRow cX0_insertRow 6 none, Cond.methodLink RX0 105 yX0_at, Cond.static yX0_at, Cond.code yX0_at cX0_at 2 (some .int), Cond.methodLink RX0 83 yX0_keyOfRow, Cond.instanceMethod yX0_keyOfRow, Cond.selects RX0 yX0_keyOfRow yX0_keyOfRow, Cond.code yX0_keyOfRow cX0_keyOfRow 2 (some .int), Cond.methodLink RX0 113 yX0_put, Cond.static yX0_put, Cond.code yX0_put cX0_put 3 none]
def wsX0_feed : List Cond := .code yX0_feed cX0_feed 3 (some .int) :: ((wsX0_feed_r1 ++ wsX0_feed_r2) ++ wsX00)
def wsX0_feedMany_r1 : List Cond := [Cond.classLink RX0 67 "java/lang/IllegalArgumentException", Cond.initialized "java/lang/IllegalArgumentException", Cond.fieldLink RX0 50 "ExternalSorter" "sealed" "Z", Cond.fieldLink RX0 22 "ExternalSorter" "room" "I", Cond.fieldLink RX0 44 "ExternalSorter" "fed" "I", Cond.methodLink RX0 9 Lib.Math.min.name, Cond.static Lib.Math.min.name, Cond.initialized "java/lang/Math", Cond.code Lib.Math.min.name Lib.Math.min.code 2 (some .int), Cond.methodLink RX0 63 yX0_append, Cond.instanceMethod yX0_append, Cond.selects RX0 yX0_append yX0_append, Cond.initialized RX0, Cond.code yX0_append cX0_append 3 none, Cond.fieldLink RX0 18 "ExternalSorter" "workSize" "I", Cond.fieldLink RX0 47 "ExternalSorter" "spilledRuns" "I", Cond.fieldLink RX0 25 "ExternalSorter" "keys" "[I", Cond.fieldLink RX0 29 "ExternalSorter" "values" "[I", Cond.fieldLink RX0 32 "ExternalSorter" "order" "[I", Cond.methodLink RX0 109 yX0_spilledPairs, Cond.instanceMethod yX0_spilledPairs, Cond.selects RX0 yX0_spilledPairs yX0_spilledPairs, Cond.code yX0_spilledPairs cX0_spilledPairs 1 (some .int), Cond.methodLink RX0 74 yX0_sortWorkArea]
def wsX0_feedMany_r2 : List Cond := [Cond.instanceMethod yX0_sortWorkArea, Cond.selects RX0 yX0_sortWorkArea yX0_sortWorkArea, Cond.code yX0_sortWorkArea cX0_sortWorkArea 3 none, Cond.methodLink RX0 117 yX0_insertRow, Cond.instanceMethod yX0_insertRow, Cond.selects RX0 yX0_insertRow yX0_insertRow, Cond.code yX0_insertRow cX0_insertRow 6 none, Cond.methodLink RX0 105 yX0_at, Cond.static yX0_at, Cond.code yX0_at cX0_at 2 (some .int), Cond.methodLink RX0 83 yX0_keyOfRow, Cond.instanceMethod yX0_keyOfRow, Cond.selects RX0 yX0_keyOfRow yX0_keyOfRow, Cond.code yX0_keyOfRow cX0_keyOfRow 2 (some .int), Cond.methodLink RX0 113 yX0_put, Cond.static yX0_put, Cond.code yX0_put cX0_put 3 none]
def wsX0_feedMany : List Cond := .code yX0_feedMany cX0_feedMany 7 (some .int) :: ((wsX0_feedMany_r1 ++ wsX0_feedMany_r2) ++ wsX00 ++ (vx_atS RX0 71 "java/lang/IllegalArgumentException" ["java/lang/RuntimeException", "java/lang/Exception"]).filter goodWord)
def wsX0_countRowsOfRuns : List Cond := .code yX0_countRowsOfRuns cX0_countRowsOfRuns 2 none :: ([.fieldLink RX0 44 "ExternalSorter" "fed" "I", .fieldLink RX0 47 "ExternalSorter" "spilledRuns" "I", .fieldLink RX0 57 "ExternalSorter" "openRuns" "I", .fieldLink RX0 38 "ExternalSorter" "rowsLeft" "[I", .fieldLink RX0 18 "ExternalSorter" "workSize" "I", .methodLink RX0 9 Lib.Math.min.name, .static Lib.Math.min.name, .initialized "java/lang/Math", .code Lib.Math.min.name Lib.Math.min.code 2 (some .int), .methodLink RX0 113 yX0_put, .static yX0_put, .initialized RX0, .code yX0_put cX0_put 3 none] ++ wsX00)
def wsX0_mergeStretches : List Cond := .code yX0_mergeStretches cX0_mergeStretches 7 none :: ([.fieldLink RX0 35 "ExternalSorter" "merged" "[I", .fieldLink RX0 32 "ExternalSorter" "order" "[I", .methodLink RX0 83 yX0_keyOfRow, .instanceMethod yX0_keyOfRow, .selects RX0 yX0_keyOfRow yX0_keyOfRow, .initialized RX0, .code yX0_keyOfRow cX0_keyOfRow 2 (some .int), .fieldLink RX0 25 "ExternalSorter" "keys" "[I", .methodLink RX0 105 yX0_at, .static yX0_at, .code yX0_at cX0_at 2 (some .int), .methodLink RX0 113 yX0_put, .static yX0_put, .code yX0_put cX0_put 3 none] ++ wsX00)
def wsX0_mergeNeighbours : List Cond := .code yX0_mergeNeighbours cX0_mergeNeighbours 3 none :: ([.fieldLink RX0 44 "ExternalSorter" "fed" "I", .methodLink RX0 9 Lib.Math.min.name, .static Lib.Math.min.name, .initialized "java/lang/Math", .code Lib.Math.min.name Lib.Math.min.code 2 (some .int), .methodLink RX0 123 yX0_mergeStretches, .instanceMethod yX0_mergeStretches, .selects RX0 yX0_mergeStretches yX0_mergeStretches, .initialized RX0, .code yX0_mergeStretches cX0_mergeStretches 7 none, .fieldLink RX0 35 "ExternalSorter" "merged" "[I", .fieldLink RX0 32 "ExternalSorter" "order" "[I", .methodLink RX0 83 yX0_keyOfRow, .instanceMethod yX0_keyOfRow, .selects RX0 yX0_keyOfRow yX0_keyOfRow, .code yX0_keyOfRow cX0_keyOfRow 2 (some .int), .fieldLink RX0 25 "ExternalSorter" "keys" "[I", .methodLink RX0 105 yX0_at, .static yX0_at, .code yX0_at cX0_at 2 (some .int), .methodLink RX0 113 yX0_put, .static yX0_put, .code yX0_put cX0_put 3 none] ++ wsX00)
def wsX0_mergeRuns_r1 : List Cond := [Cond.fieldLink RX0 18 "ExternalSorter" "workSize" "I", Cond.fieldLink RX0 44 "ExternalSorter" "fed" "I", Cond.methodLink RX0 120 yX0_mergeNeighbours, Cond.instanceMethod yX0_mergeNeighbours, Cond.selects RX0 yX0_mergeNeighbours yX0_mergeNeighbours, Cond.initialized RX0, Cond.code yX0_mergeNeighbours cX0_mergeNeighbours 3 none, Cond.methodLink RX0 9 Lib.Math.min.name, Cond.static Lib.Math.min.name, Cond.initialized "java/lang/Math", Cond.code Lib.Math.min.name Lib.Math.min.code 2 (some .int), Cond.methodLink RX0 123 yX0_mergeStretches, Cond.instanceMethod yX0_mergeStretches, Cond.selects RX0 yX0_mergeStretches yX0_mergeStretches, Cond.code yX0_mergeStretches cX0_mergeStretches 7 none, Cond.fieldLink RX0 35 "ExternalSorter" "merged" "[I", Cond.fieldLink RX0 32 "ExternalSorter" "order" "[I", Cond.methodLink RX0 83 yX0_keyOfRow, Cond.instanceMethod yX0_keyOfRow, Cond.selects RX0 yX0_keyOfRow yX0_keyOfRow, Cond.code yX0_keyOfRow cX0_keyOfRow 2 (some .int), Cond.fieldLink RX0 25 "ExternalSorter" "keys" "[I", Cond.methodLink RX0 105 yX0_at, Cond.static yX0_at]
def wsX0_mergeRuns_r2 : List Cond := [Cond.code yX0_at cX0_at 2 (some .int), Cond.methodLink RX0 113 yX0_put, Cond.static yX0_put, Cond.code yX0_put cX0_put 3 none]
def wsX0_mergeRuns : List Cond := .code yX0_mergeRuns cX0_mergeRuns 3 none :: ((wsX0_mergeRuns_r1 ++ wsX0_mergeRuns_r2) ++ wsX00)
def wsX0_seal_r1 : List Cond := [Cond.fieldLink RX0 50 "ExternalSorter" "sealed" "Z", Cond.methodLink RX0 74 yX0_sortWorkArea, Cond.instanceMethod yX0_sortWorkArea, Cond.selects RX0 yX0_sortWorkArea yX0_sortWorkArea, Cond.initialized RX0, Cond.code yX0_sortWorkArea cX0_sortWorkArea 3 none, Cond.fieldLink RX0 44 "ExternalSorter" "fed" "I", Cond.methodLink RX0 109 yX0_spilledPairs, Cond.instanceMethod yX0_spilledPairs, Cond.selects RX0 yX0_spilledPairs yX0_spilledPairs, Cond.code yX0_spilledPairs cX0_spilledPairs 1 (some .int), Cond.fieldLink RX0 47 "ExternalSorter" "spilledRuns" "I", Cond.fieldLink RX0 18 "ExternalSorter" "workSize" "I", Cond.methodLink RX0 117 yX0_insertRow, Cond.instanceMethod yX0_insertRow, Cond.selects RX0 yX0_insertRow yX0_insertRow, Cond.code yX0_insertRow cX0_insertRow 6 none, Cond.fieldLink RX0 32 "ExternalSorter" "order" "[I", Cond.fieldLink RX0 25 "ExternalSorter" "keys" "[I", Cond.methodLink RX0 105 yX0_at, Cond.static yX0_at, Cond.code yX0_at cX0_at 2 (some .int), Cond.methodLink RX0 83 yX0_keyOfRow, Cond.instanceMethod yX0_keyOfRow]
def wsX0_seal_r2 : List Cond := [Cond.selects RX0 yX0_keyOfRow yX0_keyOfRow, Cond.code yX0_keyOfRow cX0_keyOfRow 2 (some .int), Cond.methodLink RX0 113 yX0_put, Cond.static yX0_put, Cond.code yX0_put cX0_put 3 none, Cond.methodLink RX0 77 yX0_countRowsOfRuns, Cond.instanceMethod yX0_countRowsOfRuns, Cond.selects RX0 yX0_countRowsOfRuns yX0_countRowsOfRuns, Cond.code yX0_countRowsOfRuns cX0_countRowsOfRuns 2 none, Cond.fieldLink RX0 57 "ExternalSorter" "openRuns" "I", Cond.fieldLink RX0 38 "ExternalSorter" "rowsLeft" "[I", Cond.methodLink RX0 9 Lib.Math.min.name, Cond.static Lib.Math.min.name, Cond.initialized "java/lang/Math", Cond.code Lib.Math.min.name Lib.Math.min.code 2 (some .int), Cond.methodLink RX0 80 yX0_mergeRuns, Cond.instanceMethod yX0_mergeRuns, Cond.selects RX0 yX0_mergeRuns yX0_mergeRuns, Cond.code yX0_mergeRuns cX0_mergeRuns 3 none, Cond.methodLink RX0 120 yX0_mergeNeighbours, Cond.instanceMethod yX0_mergeNeighbours, Cond.selects RX0 yX0_mergeNeighbours yX0_mergeNeighbours, Cond.code yX0_mergeNeighbours cX0_mergeNeighbours 3 none, Cond.methodLink RX0 123 yX0_mergeStretches]
def wsX0_seal_r3 : List Cond := [Cond.instanceMethod yX0_mergeStretches, Cond.selects RX0 yX0_mergeStretches yX0_mergeStretches, Cond.code yX0_mergeStretches cX0_mergeStretches 7 none, Cond.fieldLink RX0 35 "ExternalSorter" "merged" "[I"]
def wsX0_seal : List Cond := .code yX0_seal cX0_seal 1 (some .int) :: ((wsX0_seal_r1 ++ (wsX0_seal_r2 ++ wsX0_seal_r3)) ++ wsX00)
def wsX0_valueOfRow : List Cond := .code yX0_valueOfRow cX0_valueOfRow 2 (some .int) :: ([.fieldLink RX0 29 "ExternalSorter" "values" "[I", .fieldLink RX0 32 "ExternalSorter" "order" "[I", .methodLink RX0 105 yX0_at, .static yX0_at, .initialized RX0, .code yX0_at cX0_at 2 (some .int)] ++ wsX00)
def wsX0_takeFromRun : List Cond := .code yX0_takeFromRun cX0_takeFromRun 4 none :: ([.fieldLink RX0 32 "ExternalSorter" "order" "[I", .fieldLink RX0 18 "ExternalSorter" "workSize" "I", .fieldLink RX0 38 "ExternalSorter" "rowsLeft" "[I", .fieldLink RX0 57 "ExternalSorter" "openRuns" "I", .methodLink RX0 105 yX0_at, .static yX0_at, .initialized RX0, .code yX0_at cX0_at 2 (some .int), .methodLink RX0 113 yX0_put, .static yX0_put, .code yX0_put cX0_put 3 none] ++ wsX00)
def wsX0_nextRow_r1 : List Cond := [Cond.fieldLink RX0 50 "ExternalSorter" "sealed" "Z", Cond.fieldLink RX0 54 "ExternalSorter" "consumed" "I", Cond.fieldLink RX0 44 "ExternalSorter" "fed" "I", Cond.fieldLink RX0 87 "ExternalSorter" "currentKey" "I", Cond.fieldLink RX0 93 "ExternalSorter" "currentValue" "I", Cond.methodLink RX0 60 yX0_clearCurrent, Cond.instanceMethod yX0_clearCurrent, Cond.selects RX0 yX0_clearCurrent yX0_clearCurrent, Cond.initialized RX0, Cond.code yX0_clearCurrent cX0_clearCurrent 2 none, Cond.fieldLink RX0 41 "ExternalSorter" "currentGroup" "[I", Cond.methodLink RX0 113 yX0_put, Cond.static yX0_put, Cond.code yX0_put cX0_put 3 none, Cond.methodLink RX0 83 yX0_keyOfRow, Cond.instanceMethod yX0_keyOfRow, Cond.selects RX0 yX0_keyOfRow yX0_keyOfRow, Cond.code yX0_keyOfRow cX0_keyOfRow 2 (some .int), Cond.fieldLink RX0 25 "ExternalSorter" "keys" "[I", Cond.fieldLink RX0 32 "ExternalSorter" "order" "[I", Cond.methodLink RX0 105 yX0_at, Cond.static yX0_at, Cond.code yX0_at cX0_at 2 (some .int), Cond.methodLink RX0 90 yX0_valueOfRow]
def wsX0_nextRow_r2 : List Cond := [Cond.instanceMethod yX0_valueOfRow, Cond.selects RX0 yX0_valueOfRow yX0_valueOfRow, Cond.code yX0_valueOfRow cX0_valueOfRow 2 (some .int), Cond.fieldLink RX0 29 "ExternalSorter" "values" "[I", Cond.methodLink RX0 96 yX0_takeFromRun, Cond.instanceMethod yX0_takeFromRun, Cond.selects RX0 yX0_takeFromRun yX0_takeFromRun, Cond.code yX0_takeFromRun cX0_takeFromRun 4 none, Cond.fieldLink RX0 18 "ExternalSorter" "workSize" "I", Cond.fieldLink RX0 38 "ExternalSorter" "rowsLeft" "[I", Cond.fieldLink RX0 57 "ExternalSorter" "openRuns" "I"]
def wsX0_nextRow : List Cond := .code yX0_nextRow cX0_nextRow 1 (some .int) :: ((wsX0_nextRow_r1 ++ wsX0_nextRow_r2) ++ wsX00)
def wsX0_addToGroup : List Cond := .code yX0_addToGroup cX0_addToGroup 3 none :: ([.fieldLink RX0 41 "ExternalSorter" "currentGroup" "[I", .methodLink RX0 9 Lib.Math.min.name, .static Lib.Math.min.name, .initialized "java/lang/Math", .code Lib.Math.min.name Lib.Math.min.code 2 (some .int), .methodLink RX0 15 Lib.Math.max.name, .static Lib.Math.max.name, .code Lib.Math.max.name Lib.Math.max.code 2 (some .int), .methodLink RX0 105 yX0_at, .static yX0_at, .initialized RX0, .code yX0_at cX0_at 2 (some .int), .methodLink RX0 113 yX0_put, .static yX0_put, .code yX0_put cX0_put 3 none] ++ wsX00)
def wsX0_nextGroup_r1 : List Cond := [Cond.fieldLink RX0 50 "ExternalSorter" "sealed" "Z", Cond.fieldLink RX0 54 "ExternalSorter" "consumed" "I", Cond.fieldLink RX0 44 "ExternalSorter" "fed" "I", Cond.fieldLink RX0 87 "ExternalSorter" "currentKey" "I", Cond.methodLink RX0 60 yX0_clearCurrent, Cond.instanceMethod yX0_clearCurrent, Cond.selects RX0 yX0_clearCurrent yX0_clearCurrent, Cond.initialized RX0, Cond.code yX0_clearCurrent cX0_clearCurrent 2 none, Cond.fieldLink RX0 93 "ExternalSorter" "currentValue" "I", Cond.fieldLink RX0 41 "ExternalSorter" "currentGroup" "[I", Cond.methodLink RX0 113 yX0_put, Cond.static yX0_put, Cond.code yX0_put cX0_put 3 none, Cond.methodLink RX0 83 yX0_keyOfRow, Cond.instanceMethod yX0_keyOfRow, Cond.selects RX0 yX0_keyOfRow yX0_keyOfRow, Cond.code yX0_keyOfRow cX0_keyOfRow 2 (some .int), Cond.fieldLink RX0 25 "ExternalSorter" "keys" "[I", Cond.fieldLink RX0 32 "ExternalSorter" "order" "[I", Cond.methodLink RX0 105 yX0_at, Cond.static yX0_at, Cond.code yX0_at cX0_at 2 (some .int), Cond.methodLink RX0 90 yX0_valueOfRow]
def wsX0_nextGroup_r2 : List Cond := [Cond.instanceMethod yX0_valueOfRow, Cond.selects RX0 yX0_valueOfRow yX0_valueOfRow, Cond.code yX0_valueOfRow cX0_valueOfRow 2 (some .int), Cond.fieldLink RX0 29 "ExternalSorter" "values" "[I", Cond.methodLink RX0 100 yX0_addToGroup, Cond.instanceMethod yX0_addToGroup, Cond.selects RX0 yX0_addToGroup yX0_addToGroup, Cond.code yX0_addToGroup cX0_addToGroup 3 none, Cond.methodLink RX0 9 Lib.Math.min.name, Cond.static Lib.Math.min.name, Cond.initialized "java/lang/Math", Cond.code Lib.Math.min.name Lib.Math.min.code 2 (some .int), Cond.methodLink RX0 15 Lib.Math.max.name, Cond.static Lib.Math.max.name, Cond.code Lib.Math.max.name Lib.Math.max.code 2 (some .int), Cond.methodLink RX0 96 yX0_takeFromRun, Cond.instanceMethod yX0_takeFromRun, Cond.selects RX0 yX0_takeFromRun yX0_takeFromRun, Cond.code yX0_takeFromRun cX0_takeFromRun 4 none, Cond.fieldLink RX0 18 "ExternalSorter" "workSize" "I", Cond.fieldLink RX0 38 "ExternalSorter" "rowsLeft" "[I", Cond.fieldLink RX0 57 "ExternalSorter" "openRuns" "I"]
def wsX0_nextGroup : List Cond := .code yX0_nextGroup cX0_nextGroup 1 (some .int) :: ((wsX0_nextGroup_r1 ++ wsX0_nextGroup_r2) ++ wsX00)
def wsX0_skipTo_r1 : List Cond := [Cond.fieldLink RX0 50 "ExternalSorter" "sealed" "Z", Cond.fieldLink RX0 54 "ExternalSorter" "consumed" "I", Cond.fieldLink RX0 44 "ExternalSorter" "fed" "I", Cond.methodLink RX0 60 yX0_clearCurrent, Cond.instanceMethod yX0_clearCurrent, Cond.selects RX0 yX0_clearCurrent yX0_clearCurrent, Cond.initialized RX0, Cond.code yX0_clearCurrent cX0_clearCurrent 2 none, Cond.fieldLink RX0 87 "ExternalSorter" "currentKey" "I", Cond.fieldLink RX0 93 "ExternalSorter" "currentValue" "I", Cond.fieldLink RX0 41 "ExternalSorter" "currentGroup" "[I", Cond.methodLink RX0 113 yX0_put, Cond.static yX0_put, Cond.code yX0_put cX0_put 3 none, Cond.methodLink RX0 83 yX0_keyOfRow, Cond.instanceMethod yX0_keyOfRow, Cond.selects RX0 yX0_keyOfRow yX0_keyOfRow, Cond.code yX0_keyOfRow cX0_keyOfRow 2 (some .int), Cond.fieldLink RX0 25 "ExternalSorter" "keys" "[I", Cond.fieldLink RX0 32 "ExternalSorter" "order" "[I", Cond.methodLink RX0 105 yX0_at, Cond.static yX0_at, Cond.code yX0_at cX0_at 2 (some .int), Cond.methodLink RX0 96 yX0_takeFromRun]
def wsX0_skipTo_r2 : List Cond := [Cond.instanceMethod yX0_takeFromRun, Cond.selects RX0 yX0_takeFromRun yX0_takeFromRun, Cond.code yX0_takeFromRun cX0_takeFromRun 4 none, Cond.fieldLink RX0 18 "ExternalSorter" "workSize" "I", Cond.fieldLink RX0 38 "ExternalSorter" "rowsLeft" "[I", Cond.fieldLink RX0 57 "ExternalSorter" "openRuns" "I"]
def wsX0_skipTo : List Cond := .code yX0_skipTo cX0_skipTo 3 (some .int) :: ((wsX0_skipTo_r1 ++ wsX0_skipTo_r2) ++ wsX00)
def wsX0_key : List Cond := .code yX0_key cX0_key 1 (some .int) :: ([.fieldLink RX0 87 "ExternalSorter" "currentKey" "I"] ++ wsX00)
def wsX0_value : List Cond := .code yX0_value cX0_value 1 (some .int) :: ([.fieldLink RX0 93 "ExternalSorter" "currentValue" "I"] ++ wsX00)
def wsX0_group : List Cond := .code yX0_group cX0_group 2 (some .int) :: ([.classLink RX0 67 "java/lang/IllegalArgumentException", .initialized "java/lang/IllegalArgumentException", .fieldLink RX0 41 "ExternalSorter" "currentGroup" "[I", .methodLink RX0 105 yX0_at, .static yX0_at, .initialized RX0, .code yX0_at cX0_at 2 (some .int)] ++ wsX00 ++ (vx_atS RX0 71 "java/lang/IllegalArgumentException" ["java/lang/RuntimeException", "java/lang/Exception"]).filter goodWord)
def wsX0_count : List Cond := .code yX0_count cX0_count 2 (some .int) :: ([.classLink RX0 67 "java/lang/IllegalArgumentException", .initialized "java/lang/IllegalArgumentException", .fieldLink RX0 44 "ExternalSorter" "fed" "I", .fieldLink RX0 54 "ExternalSorter" "consumed" "I", .fieldLink RX0 50 "ExternalSorter" "sealed" "Z", .fieldLink RX0 57 "ExternalSorter" "openRuns" "I", .fieldLink RX0 47 "ExternalSorter" "spilledRuns" "I", .methodLink RX0 109 yX0_spilledPairs, .instanceMethod yX0_spilledPairs, .selects RX0 yX0_spilledPairs yX0_spilledPairs, .initialized RX0, .code yX0_spilledPairs cX0_spilledPairs 1 (some .int), .fieldLink RX0 18 "ExternalSorter" "workSize" "I"] ++ wsX00 ++ (vx_atS RX0 71 "java/lang/IllegalArgumentException" ["java/lang/RuntimeException", "java/lang/Exception"]).filter goodWord)
def wsX1_init : List Cond := .code yX1_init cX1_init 5 none :: ([.methodLink RX1 1 objectInit, .instanceMethod objectInit, .code objectInit ⟨#[0xb1]⟩ 1 none, .arrayClass .int, .fieldLink RX1 7 "ExternalSorterModel" "keys" "[I", .fieldLink RX1 13 "ExternalSorterModel" "values" "[I", .fieldLink RX1 16 "ExternalSorterModel" "order" "[I", .arrayClass .boolean, .fieldLink RX1 19 "ExternalSorterModel" "left" "[Z", .fieldLink RX1 23 "ExternalSorterModel" "wide" "I", .fieldLink RX1 27 "ExternalSorterModel" "room" "I"] ++ wsX10)
def wsX1_thrown : List Cond := .code yX1_thrown cX1_thrown 1 (some .int) :: ([.fieldLink RX1 30 "ExternalSorterModel" "thrown" "I"] ++ wsX10)
def wsX1_reset : List Cond := .code yX1_reset cX1_reset 1 none :: ([.fieldLink RX1 30 "ExternalSorterModel" "thrown" "I", .fieldLink RX1 33 "ExternalSorterModel" "fed" "I", .fieldLink RX1 36 "ExternalSorterModel" "spills" "I", .fieldLink RX1 39 "ExternalSorterModel" "held" "I", .fieldLink RX1 42 "ExternalSorterModel" "reading" "Z", .fieldLink RX1 46 "ExternalSorterModel" "gone" "I", .fieldLink RX1 49 "ExternalSorterModel" "current" "I"] ++ wsX10)
def wsX1_take : List Cond := .code yX1_take cX1_take 3 none :: ([.fieldLink RX1 39 "ExternalSorterModel" "held" "I", .fieldLink RX1 23 "ExternalSorterModel" "wide" "I", .fieldLink RX1 36 "ExternalSorterModel" "spills" "I", .fieldLink RX1 7 "ExternalSorterModel" "keys" "[I", .fieldLink RX1 33 "ExternalSorterModel" "fed" "I", .fieldLink RX1 13 "ExternalSorterModel" "values" "[I"] ++ wsX10)
def wsX1_feed : List Cond := .code yX1_feed cX1_feed 3 (some .int) :: ([.fieldLink RX1 30 "ExternalSorterModel" "thrown" "I", .fieldLink RX1 42 "ExternalSorterModel" "reading" "Z", .fieldLink RX1 33 "ExternalSorterModel" "fed" "I", .fieldLink RX1 27 "ExternalSorterModel" "room" "I", .methodLink RX1 52 yX1_take, .instanceMethod yX1_take, .selects RX1 yX1_take yX1_take, .initialized RX1, .code yX1_take cX1_take 3 none, .fieldLink RX1 39 "ExternalSorterModel" "held" "I", .fieldLink RX1 23 "ExternalSorterModel" "wide" "I", .fieldLink RX1 36 "ExternalSorterModel" "spills" "I", .fieldLink RX1 7 "ExternalSorterModel" "keys" "[I", .fieldLink RX1 13 "ExternalSorterModel" "values" "[I"] ++ wsX10)
def wsX1_feedMany : List Cond := .code yX1_feedMany cX1_feedMany 6 (some .int) :: ([.fieldLink RX1 30 "ExternalSorterModel" "thrown" "I", .fieldLink RX1 42 "ExternalSorterModel" "reading" "Z", .fieldLink RX1 33 "ExternalSorterModel" "fed" "I", .fieldLink RX1 27 "ExternalSorterModel" "room" "I", .methodLink RX1 52 yX1_take, .instanceMethod yX1_take, .selects RX1 yX1_take yX1_take, .initialized RX1, .code yX1_take cX1_take 3 none, .fieldLink RX1 39 "ExternalSorterModel" "held" "I", .fieldLink RX1 23 "ExternalSorterModel" "wide" "I", .fieldLink RX1 36 "ExternalSorterModel" "spills" "I", .fieldLink RX1 7 "ExternalSorterModel" "keys" "[I", .fieldLink RX1 13 "ExternalSorterModel" "values" "[I"] ++ wsX10)
def wsX1_seal : List Cond := .code yX1_seal cX1_seal 3 (some .int) :: ([.fieldLink RX1 30 "ExternalSorterModel" "thrown" "I", .fieldLink RX1 42 "ExternalSorterModel" "reading" "Z", .fieldLink RX1 46 "ExternalSorterModel" "gone" "I", .fieldLink RX1 49 "ExternalSorterModel" "current" "I", .fieldLink RX1 33 "ExternalSorterModel" "fed" "I", .fieldLink RX1 7 "ExternalSorterModel" "keys" "[I", .fieldLink RX1 16 "ExternalSorterModel" "order" "[I"] ++ wsX10)
def wsX1_nextRow : List Cond := .code yX1_nextRow cX1_nextRow 1 (some .int) :: ([.fieldLink RX1 30 "ExternalSorterModel" "thrown" "I", .fieldLink RX1 42 "ExternalSorterModel" "reading" "Z", .fieldLink RX1 46 "ExternalSorterModel" "gone" "I", .fieldLink RX1 33 "ExternalSorterModel" "fed" "I", .fieldLink RX1 49 "ExternalSorterModel" "current" "I", .fieldLink RX1 7 "ExternalSorterModel" "keys" "[I", .fieldLink RX1 16 "ExternalSorterModel" "order" "[I", .fieldLink RX1 56 "ExternalSorterModel" "nowKey" "I", .fieldLink RX1 13 "ExternalSorterModel" "values" "[I", .fieldLink RX1 59 "ExternalSorterModel" "nowValue" "I"] ++ wsX10)
def wsX1_nextGroup : List Cond := .code yX1_nextGroup cX1_nextGroup 2 (some .int) :: ([.fieldLink RX1 30 "ExternalSorterModel" "thrown" "I", .fieldLink RX1 42 "ExternalSorterModel" "reading" "Z", .fieldLink RX1 46 "ExternalSorterModel" "gone" "I", .fieldLink RX1 33 "ExternalSorterModel" "fed" "I", .fieldLink RX1 49 "ExternalSorterModel" "current" "I", .fieldLink RX1 7 "ExternalSorterModel" "keys" "[I", .fieldLink RX1 16 "ExternalSorterModel" "order" "[I", .fieldLink RX1 56 "ExternalSorterModel" "nowKey" "I", .fieldLink RX1 62 "ExternalSorterModel" "groupCount" "I", .fieldLink RX1 65 "ExternalSorterModel" "groupSum" "I", .fieldLink RX1 13 "ExternalSorterModel" "values" "[I", .fieldLink RX1 68 "ExternalSorterModel" "groupLeast" "I", .fieldLink RX1 71 "ExternalSorterModel" "groupMost" "I"] ++ wsX10)
def wsX1_skipTo : List Cond := .code yX1_skipTo cX1_skipTo 3 (some .int) :: ([.fieldLink RX1 30 "ExternalSorterModel" "thrown" "I", .fieldLink RX1 42 "ExternalSorterModel" "reading" "Z", .fieldLink RX1 46 "ExternalSorterModel" "gone" "I", .fieldLink RX1 33 "ExternalSorterModel" "fed" "I", .fieldLink RX1 7 "ExternalSorterModel" "keys" "[I", .fieldLink RX1 16 "ExternalSorterModel" "order" "[I", .fieldLink RX1 49 "ExternalSorterModel" "current" "I"] ++ wsX10)
def wsX1_key : List Cond := .code yX1_key cX1_key 1 (some .int) :: ([.fieldLink RX1 30 "ExternalSorterModel" "thrown" "I", .fieldLink RX1 49 "ExternalSorterModel" "current" "I", .fieldLink RX1 56 "ExternalSorterModel" "nowKey" "I"] ++ wsX10)
def wsX1_value : List Cond := .code yX1_value cX1_value 1 (some .int) :: ([.fieldLink RX1 30 "ExternalSorterModel" "thrown" "I", .fieldLink RX1 49 "ExternalSorterModel" "current" "I", .fieldLink RX1 59 "ExternalSorterModel" "nowValue" "I"] ++ wsX10)
def wsX1_group : List Cond := .code yX1_group cX1_group 2 (some .int) :: ([.fieldLink RX1 30 "ExternalSorterModel" "thrown" "I", .fieldLink RX1 49 "ExternalSorterModel" "current" "I", .fieldLink RX1 62 "ExternalSorterModel" "groupCount" "I", .fieldLink RX1 65 "ExternalSorterModel" "groupSum" "I", .fieldLink RX1 68 "ExternalSorterModel" "groupLeast" "I", .fieldLink RX1 71 "ExternalSorterModel" "groupMost" "I"] ++ wsX10)
def wsX1_runsLeft : List Cond := .code yX1_runsLeft cX1_runsLeft 4 (some .int) :: ([.fieldLink RX1 33 "ExternalSorterModel" "fed" "I", .fieldLink RX1 19 "ExternalSorterModel" "left" "[Z", .fieldLink RX1 46 "ExternalSorterModel" "gone" "I", .fieldLink RX1 16 "ExternalSorterModel" "order" "[I", .fieldLink RX1 23 "ExternalSorterModel" "wide" "I"] ++ wsX10)
def wsX1_count : List Cond := .code yX1_count cX1_count 2 (some .int) :: ([.fieldLink RX1 30 "ExternalSorterModel" "thrown" "I", .fieldLink RX1 33 "ExternalSorterModel" "fed" "I", .fieldLink RX1 36 "ExternalSorterModel" "spills" "I", .fieldLink RX1 23 "ExternalSorterModel" "wide" "I", .fieldLink RX1 46 "ExternalSorterModel" "gone" "I", .fieldLink RX1 42 "ExternalSorterModel" "reading" "Z", .methodLink RX1 74 yX1_runsLeft, .instanceMethod yX1_runsLeft, .selects RX1 yX1_runsLeft yX1_runsLeft, .initialized RX1, .code yX1_runsLeft cX1_runsLeft 4 (some .int), .fieldLink RX1 19 "ExternalSorterModel" "left" "[Z", .fieldLink RX1 16 "ExternalSorterModel" "order" "[I"] ++ wsX10)
def wsJ9_max_7cf53 : List Cond := .code yJ9_max_7cf53 cJ9_max_7cf53 2 (some .int) :: ([])
def wsJ9_min_7cf53 : List Cond := .code yJ9_min_7cf53 cJ9_min_7cf53 2 (some .int) :: ([])
def wsL_cell : List Cond := .code yL_cell cL_cell 2 (some .int) :: ([])
def wsL_feedMany_r1 : List Cond := [Cond.classLink RL 13 "java/lang/IllegalArgumentException", Cond.methodLink RL 7 yX0_feedMany, Cond.instanceMethod yX0_feedMany, Cond.selects RX0 yX0_feedMany yX0_feedMany, Cond.initialized RX0, Cond.code yX0_feedMany cX0_feedMany 7 (some .int), Cond.classLink RX0 67 "java/lang/IllegalArgumentException", Cond.initialized "java/lang/IllegalArgumentException", Cond.fieldLink RX0 50 "ExternalSorter" "sealed" "Z", Cond.fieldLink RX0 22 "ExternalSorter" "room" "I", Cond.fieldLink RX0 44 "ExternalSorter" "fed" "I", Cond.methodLink RX0 9 Lib.Math.min.name, Cond.static Lib.Math.min.name, Cond.initialized "java/lang/Math", Cond.code Lib.Math.min.name Lib.Math.min.code 2 (some .int), Cond.methodLink RX0 63 yX0_append, Cond.instanceMethod yX0_append, Cond.selects RX0 yX0_append yX0_append, Cond.code yX0_append cX0_append 3 none, Cond.fieldLink RX0 18 "ExternalSorter" "workSize" "I", Cond.fieldLink RX0 47 "ExternalSorter" "spilledRuns" "I", Cond.fieldLink RX0 25 "ExternalSorter" "keys" "[I", Cond.fieldLink RX0 29 "ExternalSorter" "values" "[I", Cond.fieldLink RX0 32 "ExternalSorter" "order" "[I"]
def wsL_feedMany_r2 : List Cond := [Cond.methodLink RX0 109 yX0_spilledPairs, Cond.instanceMethod yX0_spilledPairs, Cond.selects RX0 yX0_spilledPairs yX0_spilledPairs, Cond.code yX0_spilledPairs cX0_spilledPairs 1 (some .int), Cond.methodLink RX0 74 yX0_sortWorkArea, Cond.instanceMethod yX0_sortWorkArea, Cond.selects RX0 yX0_sortWorkArea yX0_sortWorkArea, Cond.code yX0_sortWorkArea cX0_sortWorkArea 3 none, Cond.methodLink RX0 117 yX0_insertRow, Cond.instanceMethod yX0_insertRow, Cond.selects RX0 yX0_insertRow yX0_insertRow, Cond.code yX0_insertRow cX0_insertRow 6 none, Cond.methodLink RX0 105 yX0_at, Cond.static yX0_at, Cond.code yX0_at cX0_at 2 (some .int), Cond.methodLink RX0 83 yX0_keyOfRow, Cond.instanceMethod yX0_keyOfRow, Cond.selects RX0 yX0_keyOfRow yX0_keyOfRow, Cond.code yX0_keyOfRow cX0_keyOfRow 2 (some .int), Cond.methodLink RX0 113 yX0_put, Cond.static yX0_put, Cond.code yX0_put cX0_put 3 none]
def wsL_feedMany : List Cond := .codeWith yL_feedMany cL_feedMany 7 (some .int) [(0, 14, 17, 13)] :: ((wsL_feedMany_r1 ++ wsL_feedMany_r2) ++ wsX00 ++ (vx_atS RX0 71 "java/lang/IllegalArgumentException" ["java/lang/RuntimeException", "java/lang/Exception"]).filter goodWord)
def wsL_group : List Cond := .codeWith yL_group cL_group 4 (some .int) [(0, 9, 12, 13)] :: ([.classLink RL 13 "java/lang/IllegalArgumentException", .methodLink RL 15 yX0_group, .instanceMethod yX0_group, .selects RX0 yX0_group yX0_group, .initialized RX0, .code yX0_group cX0_group 2 (some .int), .classLink RX0 67 "java/lang/IllegalArgumentException", .initialized "java/lang/IllegalArgumentException", .fieldLink RX0 41 "ExternalSorter" "currentGroup" "[I", .methodLink RX0 105 yX0_at, .static yX0_at, .code yX0_at cX0_at 2 (some .int)] ++ wsX00 ++ (vx_atS RX0 71 "java/lang/IllegalArgumentException" ["java/lang/RuntimeException", "java/lang/Exception"]).filter goodWord)
def wsL_count : List Cond := .codeWith yL_count cL_count 4 (some .int) [(0, 9, 12, 13)] :: ([.classLink RL 13 "java/lang/IllegalArgumentException", .methodLink RL 19 yX0_count, .instanceMethod yX0_count, .selects RX0 yX0_count yX0_count, .initialized RX0, .code yX0_count cX0_count 2 (some .int), .classLink RX0 67 "java/lang/IllegalArgumentException", .initialized "java/lang/IllegalArgumentException", .fieldLink RX0 44 "ExternalSorter" "fed" "I", .fieldLink RX0 54 "ExternalSorter" "consumed" "I", .fieldLink RX0 50 "ExternalSorter" "sealed" "Z", .fieldLink RX0 57 "ExternalSorter" "openRuns" "I", .fieldLink RX0 47 "ExternalSorter" "spilledRuns" "I", .methodLink RX0 109 yX0_spilledPairs, .instanceMethod yX0_spilledPairs, .selects RX0 yX0_spilledPairs yX0_spilledPairs, .code yX0_spilledPairs cX0_spilledPairs 1 (some .int), .fieldLink RX0 18 "ExternalSorter" "workSize" "I"] ++ wsX00 ++ (vx_atS RX0 71 "java/lang/IllegalArgumentException" ["java/lang/RuntimeException", "java/lang/Exception"]).filter goodWord)
def wsL_law0_r1 : List Cond := [Cond.classLink RL 8 RX0, Cond.instantiable RX0 15, Cond.initialized RX0, Cond.classLink RL 31 RX1, Cond.instantiable RX1 19, Cond.initialized RX1, Cond.arrayClass .long, Cond.methodLink RL 22 yL_cell, Cond.static yL_cell, Cond.initialized RL, Cond.code yL_cell cL_cell 2 (some .int), Cond.methodLink RL 28 yX0_init, Cond.instanceMethod yX0_init, Cond.code yX0_init cX0_init 5 none, Cond.methodLink RX0 1 objectInit, Cond.instanceMethod objectInit, Cond.code objectInit ⟨#[0xb1]⟩ 1 none, Cond.methodLink RX0 9 Lib.Math.min.name, Cond.static Lib.Math.min.name, Cond.initialized "java/lang/Math", Cond.code Lib.Math.min.name Lib.Math.min.code 2 (some .int), Cond.methodLink RX0 15 Lib.Math.max.name, Cond.static Lib.Math.max.name, Cond.code Lib.Math.max.name Lib.Math.max.code 2 (some .int)]
def wsL_law0_r2 : List Cond := [Cond.fieldLink RX0 18 "ExternalSorter" "workSize" "I", Cond.fieldLink RX0 22 "ExternalSorter" "room" "I", Cond.arrayClass .int, Cond.fieldLink RX0 25 "ExternalSorter" "keys" "[I", Cond.fieldLink RX0 29 "ExternalSorter" "values" "[I", Cond.fieldLink RX0 32 "ExternalSorter" "order" "[I", Cond.fieldLink RX0 35 "ExternalSorter" "merged" "[I", Cond.fieldLink RX0 38 "ExternalSorter" "rowsLeft" "[I", Cond.fieldLink RX0 41 "ExternalSorter" "currentGroup" "[I", Cond.methodLink RL 33 yX1_init, Cond.instanceMethod yX1_init, Cond.code yX1_init cX1_init 5 none, Cond.methodLink RX1 1 objectInit, Cond.fieldLink RX1 7 "ExternalSorterModel" "keys" "[I", Cond.fieldLink RX1 13 "ExternalSorterModel" "values" "[I", Cond.fieldLink RX1 16 "ExternalSorterModel" "order" "[I", Cond.arrayClass .boolean, Cond.fieldLink RX1 19 "ExternalSorterModel" "left" "[Z", Cond.fieldLink RX1 23 "ExternalSorterModel" "wide" "I", Cond.fieldLink RX1 27 "ExternalSorterModel" "room" "I", Cond.methodLink RL 34 yX0_reset, Cond.instanceMethod yX0_reset, Cond.selects RX0 yX0_reset yX0_reset, Cond.code yX0_reset cX0_reset 1 none]
def wsL_law0_r3 : List Cond := [Cond.fieldLink RX0 44 "ExternalSorter" "fed" "I", Cond.fieldLink RX0 47 "ExternalSorter" "spilledRuns" "I", Cond.fieldLink RX0 50 "ExternalSorter" "sealed" "Z", Cond.fieldLink RX0 54 "ExternalSorter" "consumed" "I", Cond.fieldLink RX0 57 "ExternalSorter" "openRuns" "I", Cond.methodLink RX0 60 yX0_clearCurrent, Cond.instanceMethod yX0_clearCurrent, Cond.selects RX0 yX0_clearCurrent yX0_clearCurrent, Cond.code yX0_clearCurrent cX0_clearCurrent 2 none, Cond.fieldLink RX0 87 "ExternalSorter" "currentKey" "I", Cond.fieldLink RX0 93 "ExternalSorter" "currentValue" "I", Cond.methodLink RX0 113 yX0_put, Cond.static yX0_put, Cond.code yX0_put cX0_put 3 none, Cond.methodLink RL 37 yX1_reset, Cond.instanceMethod yX1_reset, Cond.selects RX1 yX1_reset yX1_reset, Cond.code yX1_reset cX1_reset 1 none, Cond.fieldLink RX1 30 "ExternalSorterModel" "thrown" "I", Cond.fieldLink RX1 33 "ExternalSorterModel" "fed" "I", Cond.fieldLink RX1 36 "ExternalSorterModel" "spills" "I", Cond.fieldLink RX1 39 "ExternalSorterModel" "held" "I", Cond.fieldLink RX1 42 "ExternalSorterModel" "reading" "Z", Cond.fieldLink RX1 46 "ExternalSorterModel" "gone" "I"]
def wsL_law0_r4 : List Cond := [Cond.fieldLink RX1 49 "ExternalSorterModel" "current" "I", Cond.methodLink RL 38 yX0_feed, Cond.instanceMethod yX0_feed, Cond.selects RX0 yX0_feed yX0_feed, Cond.code yX0_feed cX0_feed 3 (some .int), Cond.methodLink RX0 63 yX0_append, Cond.instanceMethod yX0_append, Cond.selects RX0 yX0_append yX0_append, Cond.code yX0_append cX0_append 3 none, Cond.methodLink RX0 109 yX0_spilledPairs, Cond.instanceMethod yX0_spilledPairs, Cond.selects RX0 yX0_spilledPairs yX0_spilledPairs, Cond.code yX0_spilledPairs cX0_spilledPairs 1 (some .int), Cond.methodLink RX0 74 yX0_sortWorkArea, Cond.instanceMethod yX0_sortWorkArea, Cond.selects RX0 yX0_sortWorkArea yX0_sortWorkArea, Cond.code yX0_sortWorkArea cX0_sortWorkArea 3 none, Cond.methodLink RX0 117 yX0_insertRow, Cond.instanceMethod yX0_insertRow, Cond.selects RX0 yX0_insertRow yX0_insertRow, Cond.code yX0_insertRow cX0_insertRow 6 none, Cond.methodLink RX0 105 yX0_at, Cond.static yX0_at, Cond.code yX0_at cX0_at 2 (some .int)]
def wsL_law0_r5 : List Cond := [Cond.methodLink RX0 83 yX0_keyOfRow, Cond.instanceMethod yX0_keyOfRow, Cond.selects RX0 yX0_keyOfRow yX0_keyOfRow, Cond.code yX0_keyOfRow cX0_keyOfRow 2 (some .int), Cond.methodLink RL 42 yX1_feed, Cond.instanceMethod yX1_feed, Cond.selects RX1 yX1_feed yX1_feed, Cond.code yX1_feed cX1_feed 3 (some .int), Cond.methodLink RX1 52 yX1_take, Cond.instanceMethod yX1_take, Cond.selects RX1 yX1_take yX1_take, Cond.code yX1_take cX1_take 3 none, Cond.methodLink RL 43 yL_feedMany, Cond.static yL_feedMany, Cond.codeWith yL_feedMany cL_feedMany 7 (some .int) [(0, 14, 17, 13)], Cond.classLink RL 13 "java/lang/IllegalArgumentException", Cond.methodLink RL 7 yX0_feedMany, Cond.instanceMethod yX0_feedMany, Cond.selects RX0 yX0_feedMany yX0_feedMany, Cond.code yX0_feedMany cX0_feedMany 7 (some .int), Cond.classLink RX0 67 "java/lang/IllegalArgumentException", Cond.initialized "java/lang/IllegalArgumentException", Cond.methodLink RL 46 yX1_feedMany, Cond.instanceMethod yX1_feedMany]
def wsL_law0_r6 : List Cond := [Cond.selects RX1 yX1_feedMany yX1_feedMany, Cond.code yX1_feedMany cX1_feedMany 6 (some .int), Cond.methodLink RL 47 yX1_thrown, Cond.instanceMethod yX1_thrown, Cond.selects RX1 yX1_thrown yX1_thrown, Cond.code yX1_thrown cX1_thrown 1 (some .int), Cond.methodLink RL 51 yX0_seal, Cond.instanceMethod yX0_seal, Cond.selects RX0 yX0_seal yX0_seal, Cond.code yX0_seal cX0_seal 1 (some .int), Cond.methodLink RX0 77 yX0_countRowsOfRuns, Cond.instanceMethod yX0_countRowsOfRuns, Cond.selects RX0 yX0_countRowsOfRuns yX0_countRowsOfRuns, Cond.code yX0_countRowsOfRuns cX0_countRowsOfRuns 2 none, Cond.methodLink RX0 80 yX0_mergeRuns, Cond.instanceMethod yX0_mergeRuns, Cond.selects RX0 yX0_mergeRuns yX0_mergeRuns, Cond.code yX0_mergeRuns cX0_mergeRuns 3 none, Cond.methodLink RX0 120 yX0_mergeNeighbours, Cond.instanceMethod yX0_mergeNeighbours, Cond.selects RX0 yX0_mergeNeighbours yX0_mergeNeighbours, Cond.code yX0_mergeNeighbours cX0_mergeNeighbours 3 none, Cond.methodLink RX0 123 yX0_mergeStretches, Cond.instanceMethod yX0_mergeStretches]
def wsL_law0_r7 : List Cond := [Cond.selects RX0 yX0_mergeStretches yX0_mergeStretches, Cond.code yX0_mergeStretches cX0_mergeStretches 7 none, Cond.methodLink RL 54 yX1_seal, Cond.instanceMethod yX1_seal, Cond.selects RX1 yX1_seal yX1_seal, Cond.code yX1_seal cX1_seal 3 (some .int), Cond.methodLink RL 55 yX0_nextRow, Cond.instanceMethod yX0_nextRow, Cond.selects RX0 yX0_nextRow yX0_nextRow, Cond.code yX0_nextRow cX0_nextRow 1 (some .int), Cond.methodLink RX0 90 yX0_valueOfRow, Cond.instanceMethod yX0_valueOfRow, Cond.selects RX0 yX0_valueOfRow yX0_valueOfRow, Cond.code yX0_valueOfRow cX0_valueOfRow 2 (some .int), Cond.methodLink RX0 96 yX0_takeFromRun, Cond.instanceMethod yX0_takeFromRun, Cond.selects RX0 yX0_takeFromRun yX0_takeFromRun, Cond.code yX0_takeFromRun cX0_takeFromRun 4 none, Cond.methodLink RL 58 yX1_nextRow, Cond.instanceMethod yX1_nextRow, Cond.selects RX1 yX1_nextRow yX1_nextRow, Cond.code yX1_nextRow cX1_nextRow 1 (some .int), Cond.fieldLink RX1 56 "ExternalSorterModel" "nowKey" "I", Cond.fieldLink RX1 59 "ExternalSorterModel" "nowValue" "I"]
def wsL_law0_r8 : List Cond := [Cond.methodLink RL 59 yX0_nextGroup, Cond.instanceMethod yX0_nextGroup, Cond.selects RX0 yX0_nextGroup yX0_nextGroup, Cond.code yX0_nextGroup cX0_nextGroup 1 (some .int), Cond.methodLink RX0 100 yX0_addToGroup, Cond.instanceMethod yX0_addToGroup, Cond.selects RX0 yX0_addToGroup yX0_addToGroup, Cond.code yX0_addToGroup cX0_addToGroup 3 none, Cond.methodLink RL 62 yX1_nextGroup, Cond.instanceMethod yX1_nextGroup, Cond.selects RX1 yX1_nextGroup yX1_nextGroup, Cond.code yX1_nextGroup cX1_nextGroup 2 (some .int), Cond.fieldLink RX1 62 "ExternalSorterModel" "groupCount" "I", Cond.fieldLink RX1 65 "ExternalSorterModel" "groupSum" "I", Cond.fieldLink RX1 68 "ExternalSorterModel" "groupLeast" "I", Cond.fieldLink RX1 71 "ExternalSorterModel" "groupMost" "I", Cond.methodLink RL 63 yX0_skipTo, Cond.instanceMethod yX0_skipTo, Cond.selects RX0 yX0_skipTo yX0_skipTo, Cond.code yX0_skipTo cX0_skipTo 3 (some .int), Cond.methodLink RL 66 yX1_skipTo, Cond.instanceMethod yX1_skipTo, Cond.selects RX1 yX1_skipTo yX1_skipTo, Cond.code yX1_skipTo cX1_skipTo 3 (some .int)]
def wsL_law0_r9 : List Cond := [Cond.methodLink RL 67 yX0_key, Cond.instanceMethod yX0_key, Cond.selects RX0 yX0_key yX0_key, Cond.code yX0_key cX0_key 1 (some .int), Cond.methodLink RL 70 yX1_key, Cond.instanceMethod yX1_key, Cond.selects RX1 yX1_key yX1_key, Cond.code yX1_key cX1_key 1 (some .int), Cond.methodLink RL 71 yX0_value, Cond.instanceMethod yX0_value, Cond.selects RX0 yX0_value yX0_value, Cond.code yX0_value cX0_value 1 (some .int), Cond.methodLink RL 74 yX1_value, Cond.instanceMethod yX1_value, Cond.selects RX1 yX1_value yX1_value, Cond.code yX1_value cX1_value 1 (some .int), Cond.methodLink RL 75 yL_group, Cond.static yL_group, Cond.codeWith yL_group cL_group 4 (some .int) [(0, 9, 12, 13)], Cond.methodLink RL 15 yX0_group, Cond.instanceMethod yX0_group, Cond.selects RX0 yX0_group yX0_group, Cond.code yX0_group cX0_group 2 (some .int), Cond.methodLink RL 78 yX1_group]
def wsL_law0_r10 : List Cond := [Cond.instanceMethod yX1_group, Cond.selects RX1 yX1_group yX1_group, Cond.code yX1_group cX1_group 2 (some .int), Cond.methodLink RL 79 yL_count, Cond.static yL_count, Cond.codeWith yL_count cL_count 4 (some .int) [(0, 9, 12, 13)], Cond.methodLink RL 19 yX0_count, Cond.instanceMethod yX0_count, Cond.selects RX0 yX0_count yX0_count, Cond.code yX0_count cX0_count 2 (some .int), Cond.methodLink RL 81 yX1_count, Cond.instanceMethod yX1_count, Cond.selects RX1 yX1_count yX1_count, Cond.code yX1_count cX1_count 2 (some .int), Cond.methodLink RX1 74 yX1_runsLeft, Cond.instanceMethod yX1_runsLeft, Cond.selects RX1 yX1_runsLeft yX1_runsLeft, Cond.code yX1_runsLeft cX1_runsLeft 4 (some .int)]
def wsL_law0 : List Cond := (wsL_law0_r1 ++ (wsL_law0_r2 ++ (wsL_law0_r3 ++ (wsL_law0_r4 ++ (wsL_law0_r5 ++ (wsL_law0_r6 ++ (wsL_law0_r7 ++ (wsL_law0_r8 ++ (wsL_law0_r9 ++ wsL_law0_r10))))))))) ++ wsX00 ++ wsX10 ++ ([] : List Cond)
def wsL_law : List Cond := wsL_law0 ++ (vx_atS RX0 71 "java/lang/IllegalArgumentException" ["java/lang/RuntimeException", "java/lang/Exception"]).filter goodWord
set_option maxRecDepth 20000 in
theorem wsL_law_in0 : ∀ w ∈ wsL_law0, w ∈ lw_tbl := fun w h => (goodIn_p wsL_law0 [177, 28, 31, 34, 37, 271, 88, 92, 95, 339, 99, 103, 107, 111, 115, 118, 122, 343, 347, 185, 351, 335, 126, 130, 134, 138, 142, 355, 146, 150, 154, 359, 158, 162, 363, 166, 367, 170, 371, 174, 375, 258, 379, 266, 383, 387] (by decide +kernel) (by decide +kernel) w h).1
theorem wsL_law_x0 : ∀ w ∈ (vx_atS RX0 71 "java/lang/IllegalArgumentException" ["java/lang/RuntimeException", "java/lang/Exception"]).filter goodWord, w ∈ lw_tbl := by decide +kernel
theorem wsL_law_in : ∀ w ∈ wsL_law, w ∈ lw_tbl := fun w h => (List.mem_append.mp h).elim (fun h => wsL_law_in0 w h) (fun h => wsL_law_x0 w h)
theorem inlX0 : ∀ w ∈ wsX00, w ∈ wsL_law := fun _ h => List.mem_append_left _ (List.mem_append_left _ (List.mem_append_left _ (List.mem_append_right _ h)))
theorem inX0 : ∀ w ∈ wsX00, w ∈ lw_tbl := fun w h => wsL_law_in w (inlX0 w h)
theorem inlX1 : ∀ w ∈ wsX10, w ∈ wsL_law := fun _ h => List.mem_append_left _ (List.mem_append_left _ (List.mem_append_right _ h))
theorem inX1 : ∀ w ∈ wsX10, w ∈ lw_tbl := fun w h => wsL_law_in w (inlX1 w h)
theorem inJ9 : ∀ w ∈ wsJ90, w ∈ lw_tbl := by decide +kernel
theorem inJ0 : ∀ w ∈ wsJ00, w ∈ lw_tbl := by decide +kernel
abbrev vwCl : List vw_C := [(RX0, TX0, 15), (RX1, TX1, 19)]
end
section
theorem dX0_init_0 : decode cX0_init 0 = .ok (.aload_n 0, 1) := by decide +kernel
theorem dX0_init_1 : decode cX0_init 1 = .ok (.invokespecial 1, 3) := by decide +kernel
theorem dX0_init_4 : decode cX0_init 4 = .ok (.aload_n 0, 1) := by decide +kernel
theorem dX0_init_5 : decode cX0_init 5 = .ok (.iconst 1, 1) := by decide +kernel
theorem dX0_init_6 : decode cX0_init 6 = .ok (.bipush 64, 2) := by decide +kernel
theorem dX0_init_8 : decode cX0_init 8 = .ok (.iload_n 1, 1) := by decide +kernel
theorem dX0_init_9 : decode cX0_init 9 = .ok (.invokestatic 9, 3) := by decide +kernel
theorem dX0_init_12 : decode cX0_init 12 = .ok (.invokestatic 15, 3) := by decide +kernel
theorem dX0_init_15 : decode cX0_init 15 = .ok (.putfield 18, 3) := by decide +kernel
theorem dX0_init_18 : decode cX0_init 18 = .ok (.iconst 1, 1) := by decide +kernel
theorem dX0_init_19 : decode cX0_init 19 = .ok (.sipush 2000, 3) := by decide +kernel
theorem dX0_init_22 : decode cX0_init 22 = .ok (.iload_n 2, 1) := by decide +kernel
theorem dX0_init_23 : decode cX0_init 23 = .ok (.invokestatic 9, 3) := by decide +kernel
theorem dX0_init_26 : decode cX0_init 26 = .ok (.invokestatic 15, 3) := by decide +kernel
theorem dX0_init_29 : decode cX0_init 29 = .ok (.istore_n 3, 1) := by decide +kernel
theorem dX0_init_30 : decode cX0_init 30 = .ok (.iload_n 3, 1) := by decide +kernel
theorem dX0_init_31 : decode cX0_init 31 = .ok (.aload_n 0, 1) := by decide +kernel
theorem dX0_init_32 : decode cX0_init 32 = .ok (.getfield 18, 3) := by decide +kernel
theorem dX0_init_35 : decode cX0_init 35 = .ok (.idiv, 1) := by decide +kernel
theorem dX0_init_36 : decode cX0_init 36 = .ok (.iconst 1, 1) := by decide +kernel
theorem dX0_init_37 : decode cX0_init 37 = .ok (.iadd, 1) := by decide +kernel
theorem dX0_init_38 : decode cX0_init 38 = .ok (.istore 4, 2) := by decide +kernel
theorem dX0_init_40 : decode cX0_init 40 = .ok (.aload_n 0, 1) := by decide +kernel
theorem dX0_init_41 : decode cX0_init 41 = .ok (.aload_n 0, 1) := by decide +kernel
theorem dX0_init_42 : decode cX0_init 42 = .ok (.getfield 18, 3) := by decide +kernel
theorem dX0_init_45 : decode cX0_init 45 = .ok (.iload 4, 2) := by decide +kernel
theorem dX0_init_47 : decode cX0_init 47 = .ok (.imul, 1) := by decide +kernel
theorem dX0_init_48 : decode cX0_init 48 = .ok (.putfield 22, 3) := by decide +kernel
theorem dX0_init_51 : decode cX0_init 51 = .ok (.aload_n 0, 1) := by decide +kernel
theorem dX0_init_52 : decode cX0_init 52 = .ok (.aload_n 0, 1) := by decide +kernel
theorem dX0_init_53 : decode cX0_init 53 = .ok (.getfield 22, 3) := by decide +kernel
theorem dX0_init_56 : decode cX0_init 56 = .ok (.newarray .int, 2) := by decide +kernel
theorem dX0_init_58 : decode cX0_init 58 = .ok (.putfield 25, 3) := by decide +kernel
theorem dX0_init_61 : decode cX0_init 61 = .ok (.aload_n 0, 1) := by decide +kernel
theorem dX0_init_62 : decode cX0_init 62 = .ok (.aload_n 0, 1) := by decide +kernel
theorem dX0_init_63 : decode cX0_init 63 = .ok (.getfield 22, 3) := by decide +kernel
theorem dX0_init_66 : decode cX0_init 66 = .ok (.newarray .int, 2) := by decide +kernel
theorem dX0_init_68 : decode cX0_init 68 = .ok (.putfield 29, 3) := by decide +kernel
theorem dX0_init_71 : decode cX0_init 71 = .ok (.aload_n 0, 1) := by decide +kernel
theorem dX0_init_72 : decode cX0_init 72 = .ok (.aload_n 0, 1) := by decide +kernel
theorem dX0_init_73 : decode cX0_init 73 = .ok (.getfield 22, 3) := by decide +kernel
theorem dX0_init_76 : decode cX0_init 76 = .ok (.newarray .int, 2) := by decide +kernel
theorem dX0_init_78 : decode cX0_init 78 = .ok (.putfield 32, 3) := by decide +kernel
theorem dX0_init_81 : decode cX0_init 81 = .ok (.aload_n 0, 1) := by decide +kernel
theorem dX0_init_82 : decode cX0_init 82 = .ok (.aload_n 0, 1) := by decide +kernel
theorem dX0_init_83 : decode cX0_init 83 = .ok (.getfield 22, 3) := by decide +kernel
theorem dX0_init_86 : decode cX0_init 86 = .ok (.newarray .int, 2) := by decide +kernel
theorem dX0_init_88 : decode cX0_init 88 = .ok (.putfield 35, 3) := by decide +kernel
theorem dX0_init_91 : decode cX0_init 91 = .ok (.aload_n 0, 1) := by decide +kernel
theorem dX0_init_92 : decode cX0_init 92 = .ok (.iload 4, 2) := by decide +kernel
theorem dX0_init_94 : decode cX0_init 94 = .ok (.newarray .int, 2) := by decide +kernel
theorem dX0_init_96 : decode cX0_init 96 = .ok (.putfield 38, 3) := by decide +kernel
theorem dX0_init_99 : decode cX0_init 99 = .ok (.aload_n 0, 1) := by decide +kernel
theorem dX0_init_100 : decode cX0_init 100 = .ok (.iconst 4, 1) := by decide +kernel
theorem dX0_init_101 : decode cX0_init 101 = .ok (.newarray .int, 2) := by decide +kernel
theorem dX0_init_103 : decode cX0_init 103 = .ok (.putfield 41, 3) := by decide +kernel
theorem dX0_init_106 : decode cX0_init 106 = .ok (.return_, 1) := by decide +kernel
theorem dX0_reset_0 : decode cX0_reset 0 = .ok (.aload_n 0, 1) := by decide +kernel
theorem dX0_reset_1 : decode cX0_reset 1 = .ok (.iconst 0, 1) := by decide +kernel
theorem dX0_reset_2 : decode cX0_reset 2 = .ok (.putfield 44, 3) := by decide +kernel
theorem dX0_reset_5 : decode cX0_reset 5 = .ok (.aload_n 0, 1) := by decide +kernel
theorem dX0_reset_6 : decode cX0_reset 6 = .ok (.iconst 0, 1) := by decide +kernel
theorem dX0_reset_7 : decode cX0_reset 7 = .ok (.putfield 47, 3) := by decide +kernel
theorem dX0_reset_10 : decode cX0_reset 10 = .ok (.aload_n 0, 1) := by decide +kernel
theorem dX0_reset_11 : decode cX0_reset 11 = .ok (.iconst 0, 1) := by decide +kernel
theorem dX0_reset_12 : decode cX0_reset 12 = .ok (.putfield 50, 3) := by decide +kernel
theorem dX0_reset_15 : decode cX0_reset 15 = .ok (.aload_n 0, 1) := by decide +kernel
theorem dX0_reset_16 : decode cX0_reset 16 = .ok (.iconst 0, 1) := by decide +kernel
theorem dX0_reset_17 : decode cX0_reset 17 = .ok (.putfield 54, 3) := by decide +kernel
theorem dX0_reset_20 : decode cX0_reset 20 = .ok (.aload_n 0, 1) := by decide +kernel
theorem dX0_reset_21 : decode cX0_reset 21 = .ok (.iconst 0, 1) := by decide +kernel
theorem dX0_reset_22 : decode cX0_reset 22 = .ok (.putfield 57, 3) := by decide +kernel
theorem dX0_reset_25 : decode cX0_reset 25 = .ok (.aload_n 0, 1) := by decide +kernel
theorem dX0_reset_26 : decode cX0_reset 26 = .ok (.invokevirtual 60, 3) := by decide +kernel
theorem dX0_reset_29 : decode cX0_reset 29 = .ok (.return_, 1) := by decide +kernel
theorem dX0_feed_0 : decode cX0_feed 0 = .ok (.aload_n 0, 1) := by decide +kernel
theorem dX0_feed_1 : decode cX0_feed 1 = .ok (.getfield 50, 3) := by decide +kernel
theorem dX0_feed_4 : decode cX0_feed 4 = .ok (.ifCond .eq 6, 3) := by decide +kernel
theorem dX0_feed_7 : decode cX0_feed 7 = .ok (.bipush (-3), 2) := by decide +kernel
theorem dX0_feed_9 : decode cX0_feed 9 = .ok (.ireturn, 1) := by decide +kernel
theorem dX0_feed_10 : decode cX0_feed 10 = .ok (.aload_n 0, 1) := by decide +kernel
theorem dX0_feed_11 : decode cX0_feed 11 = .ok (.getfield 44, 3) := by decide +kernel
theorem dX0_feed_14 : decode cX0_feed 14 = .ok (.aload_n 0, 1) := by decide +kernel
theorem dX0_feed_15 : decode cX0_feed 15 = .ok (.getfield 22, 3) := by decide +kernel
theorem dX0_feed_18 : decode cX0_feed 18 = .ok (.if_icmp .lt 6, 3) := by decide +kernel
theorem dX0_feed_21 : decode cX0_feed 21 = .ok (.bipush (-2), 2) := by decide +kernel
theorem dX0_feed_23 : decode cX0_feed 23 = .ok (.ireturn, 1) := by decide +kernel
theorem dX0_feed_24 : decode cX0_feed 24 = .ok (.aload_n 0, 1) := by decide +kernel
theorem dX0_feed_25 : decode cX0_feed 25 = .ok (.iload_n 1, 1) := by decide +kernel
theorem dX0_feed_26 : decode cX0_feed 26 = .ok (.iload_n 2, 1) := by decide +kernel
theorem dX0_feed_27 : decode cX0_feed 27 = .ok (.invokevirtual 63, 3) := by decide +kernel
theorem dX0_feed_30 : decode cX0_feed 30 = .ok (.iconst 0, 1) := by decide +kernel
theorem dX0_feed_31 : decode cX0_feed 31 = .ok (.ireturn, 1) := by decide +kernel
theorem dX0_feedMany_0 : decode cX0_feedMany 0 = .ok (.iload 4, 2) := by decide +kernel
theorem dX0_feedMany_2 : decode cX0_feedMany 2 = .ok (.ifCond .lt 11, 3) := by decide +kernel
theorem dX0_feedMany_5 : decode cX0_feedMany 5 = .ok (.iload 4, 2) := by decide +kernel
theorem dX0_feedMany_7 : decode cX0_feedMany 7 = .ok (.sipush 200, 3) := by decide +kernel
theorem dX0_feedMany_10 : decode cX0_feedMany 10 = .ok (.if_icmp .le 13, 3) := by decide +kernel
theorem dX0_feedMany_13 : decode cX0_feedMany 13 = .ok (.new 67, 3) := by decide +kernel
theorem dX0_feedMany_16 : decode cX0_feedMany 16 = .ok (.dup, 1) := by decide +kernel
theorem dX0_feedMany_17 : decode cX0_feedMany 17 = .ok (.ldc 69, 2) := by decide +kernel
theorem dX0_feedMany_19 : decode cX0_feedMany 19 = .ok (.invokespecial 71, 3) := by decide +kernel
theorem dX0_feedMany_22 : decode cX0_feedMany 22 = .ok (.athrow, 1) := by decide +kernel
theorem dX0_feedMany_23 : decode cX0_feedMany 23 = .ok (.aload_n 0, 1) := by decide +kernel
theorem dX0_feedMany_24 : decode cX0_feedMany 24 = .ok (.getfield 50, 3) := by decide +kernel
theorem dX0_feedMany_27 : decode cX0_feedMany 27 = .ok (.ifCond .eq 6, 3) := by decide +kernel
theorem dX0_feedMany_30 : decode cX0_feedMany 30 = .ok (.bipush (-3), 2) := by decide +kernel
theorem dX0_feedMany_32 : decode cX0_feedMany 32 = .ok (.ireturn, 1) := by decide +kernel
theorem dX0_feedMany_33 : decode cX0_feedMany 33 = .ok (.iload 4, 2) := by decide +kernel
theorem dX0_feedMany_35 : decode cX0_feedMany 35 = .ok (.aload_n 0, 1) := by decide +kernel
theorem dX0_feedMany_36 : decode cX0_feedMany 36 = .ok (.getfield 22, 3) := by decide +kernel
theorem dX0_feedMany_39 : decode cX0_feedMany 39 = .ok (.aload_n 0, 1) := by decide +kernel
theorem dX0_feedMany_40 : decode cX0_feedMany 40 = .ok (.getfield 44, 3) := by decide +kernel
theorem dX0_feedMany_43 : decode cX0_feedMany 43 = .ok (.isub, 1) := by decide +kernel
theorem dX0_feedMany_44 : decode cX0_feedMany 44 = .ok (.invokestatic 9, 3) := by decide +kernel
theorem dX0_feedMany_47 : decode cX0_feedMany 47 = .ok (.istore 5, 2) := by decide +kernel
theorem dX0_feedMany_49 : decode cX0_feedMany 49 = .ok (.iconst 0, 1) := by decide +kernel
theorem dX0_feedMany_50 : decode cX0_feedMany 50 = .ok (.istore 6, 2) := by decide +kernel
theorem dX0_feedMany_52 : decode cX0_feedMany 52 = .ok (.iload 6, 2) := by decide +kernel
theorem dX0_feedMany_54 : decode cX0_feedMany 54 = .ok (.iload 5, 2) := by decide +kernel
theorem dX0_feedMany_56 : decode cX0_feedMany 56 = .ok (.if_icmp .ge 23, 3) := by decide +kernel
theorem dX0_feedMany_59 : decode cX0_feedMany 59 = .ok (.aload_n 0, 1) := by decide +kernel
theorem dX0_feedMany_60 : decode cX0_feedMany 60 = .ok (.iload_n 1, 1) := by decide +kernel
theorem dX0_feedMany_61 : decode cX0_feedMany 61 = .ok (.iload 6, 2) := by decide +kernel
theorem dX0_feedMany_63 : decode cX0_feedMany 63 = .ok (.iload_n 2, 1) := by decide +kernel
theorem dX0_feedMany_64 : decode cX0_feedMany 64 = .ok (.imul, 1) := by decide +kernel
theorem dX0_feedMany_65 : decode cX0_feedMany 65 = .ok (.iadd, 1) := by decide +kernel
theorem dX0_feedMany_66 : decode cX0_feedMany 66 = .ok (.iload_n 3, 1) := by decide +kernel
theorem dX0_feedMany_67 : decode cX0_feedMany 67 = .ok (.iload 6, 2) := by decide +kernel
theorem dX0_feedMany_69 : decode cX0_feedMany 69 = .ok (.iadd, 1) := by decide +kernel
theorem dX0_feedMany_70 : decode cX0_feedMany 70 = .ok (.invokevirtual 63, 3) := by decide +kernel
theorem dX0_feedMany_73 : decode cX0_feedMany 73 = .ok (.iinc 6 1, 3) := by decide +kernel
theorem dX0_feedMany_76 : decode cX0_feedMany 76 = .ok (.goto (-24), 3) := by decide +kernel
theorem dX0_feedMany_79 : decode cX0_feedMany 79 = .ok (.iload 5, 2) := by decide +kernel
theorem dX0_feedMany_81 : decode cX0_feedMany 81 = .ok (.ireturn, 1) := by decide +kernel
theorem dX0_seal_0 : decode cX0_seal 0 = .ok (.aload_n 0, 1) := by decide +kernel
theorem dX0_seal_1 : decode cX0_seal 1 = .ok (.getfield 50, 3) := by decide +kernel
theorem dX0_seal_4 : decode cX0_seal 4 = .ok (.ifCond .eq 6, 3) := by decide +kernel
theorem dX0_seal_7 : decode cX0_seal 7 = .ok (.bipush (-3), 2) := by decide +kernel
theorem dX0_seal_9 : decode cX0_seal 9 = .ok (.ireturn, 1) := by decide +kernel
theorem dX0_seal_10 : decode cX0_seal 10 = .ok (.aload_n 0, 1) := by decide +kernel
theorem dX0_seal_11 : decode cX0_seal 11 = .ok (.invokevirtual 74, 3) := by decide +kernel
theorem dX0_seal_14 : decode cX0_seal 14 = .ok (.aload_n 0, 1) := by decide +kernel
theorem dX0_seal_15 : decode cX0_seal 15 = .ok (.invokevirtual 77, 3) := by decide +kernel
theorem dX0_seal_18 : decode cX0_seal 18 = .ok (.aload_n 0, 1) := by decide +kernel
theorem dX0_seal_19 : decode cX0_seal 19 = .ok (.invokevirtual 80, 3) := by decide +kernel
theorem dX0_seal_22 : decode cX0_seal 22 = .ok (.aload_n 0, 1) := by decide +kernel
theorem dX0_seal_23 : decode cX0_seal 23 = .ok (.iconst 1, 1) := by decide +kernel
theorem dX0_seal_24 : decode cX0_seal 24 = .ok (.putfield 50, 3) := by decide +kernel
theorem dX0_seal_27 : decode cX0_seal 27 = .ok (.iconst 0, 1) := by decide +kernel
theorem dX0_seal_28 : decode cX0_seal 28 = .ok (.ireturn, 1) := by decide +kernel
theorem dX0_nextRow_0 : decode cX0_nextRow 0 = .ok (.aload_n 0, 1) := by decide +kernel
theorem dX0_nextRow_1 : decode cX0_nextRow 1 = .ok (.getfield 50, 3) := by decide +kernel
theorem dX0_nextRow_4 : decode cX0_nextRow 4 = .ok (.ifCond .ne 6, 3) := by decide +kernel
theorem dX0_nextRow_7 : decode cX0_nextRow 7 = .ok (.bipush (-4), 2) := by decide +kernel
theorem dX0_nextRow_9 : decode cX0_nextRow 9 = .ok (.ireturn, 1) := by decide +kernel
theorem dX0_nextRow_10 : decode cX0_nextRow 10 = .ok (.aload_n 0, 1) := by decide +kernel
theorem dX0_nextRow_11 : decode cX0_nextRow 11 = .ok (.invokevirtual 60, 3) := by decide +kernel
theorem dX0_nextRow_14 : decode cX0_nextRow 14 = .ok (.aload_n 0, 1) := by decide +kernel
theorem dX0_nextRow_15 : decode cX0_nextRow 15 = .ok (.getfield 54, 3) := by decide +kernel
theorem dX0_nextRow_18 : decode cX0_nextRow 18 = .ok (.aload_n 0, 1) := by decide +kernel
theorem dX0_nextRow_19 : decode cX0_nextRow 19 = .ok (.getfield 44, 3) := by decide +kernel
theorem dX0_nextRow_22 : decode cX0_nextRow 22 = .ok (.if_icmp .lt 5, 3) := by decide +kernel
theorem dX0_nextRow_25 : decode cX0_nextRow 25 = .ok (.iconst (-1), 1) := by decide +kernel
theorem dX0_nextRow_26 : decode cX0_nextRow 26 = .ok (.ireturn, 1) := by decide +kernel
theorem dX0_nextRow_27 : decode cX0_nextRow 27 = .ok (.aload_n 0, 1) := by decide +kernel
theorem dX0_nextRow_28 : decode cX0_nextRow 28 = .ok (.aload_n 0, 1) := by decide +kernel
theorem dX0_nextRow_29 : decode cX0_nextRow 29 = .ok (.aload_n 0, 1) := by decide +kernel
theorem dX0_nextRow_30 : decode cX0_nextRow 30 = .ok (.getfield 54, 3) := by decide +kernel
theorem dX0_nextRow_33 : decode cX0_nextRow 33 = .ok (.invokevirtual 83, 3) := by decide +kernel
theorem dX0_nextRow_36 : decode cX0_nextRow 36 = .ok (.putfield 87, 3) := by decide +kernel
theorem dX0_nextRow_39 : decode cX0_nextRow 39 = .ok (.aload_n 0, 1) := by decide +kernel
theorem dX0_nextRow_40 : decode cX0_nextRow 40 = .ok (.aload_n 0, 1) := by decide +kernel
theorem dX0_nextRow_41 : decode cX0_nextRow 41 = .ok (.aload_n 0, 1) := by decide +kernel
theorem dX0_nextRow_42 : decode cX0_nextRow 42 = .ok (.getfield 54, 3) := by decide +kernel
theorem dX0_nextRow_45 : decode cX0_nextRow 45 = .ok (.invokevirtual 90, 3) := by decide +kernel
theorem dX0_nextRow_48 : decode cX0_nextRow 48 = .ok (.putfield 93, 3) := by decide +kernel
theorem dX0_nextRow_51 : decode cX0_nextRow 51 = .ok (.aload_n 0, 1) := by decide +kernel
theorem dX0_nextRow_52 : decode cX0_nextRow 52 = .ok (.aload_n 0, 1) := by decide +kernel
theorem dX0_nextRow_53 : decode cX0_nextRow 53 = .ok (.getfield 54, 3) := by decide +kernel
theorem dX0_nextRow_56 : decode cX0_nextRow 56 = .ok (.invokevirtual 96, 3) := by decide +kernel
theorem dX0_nextRow_59 : decode cX0_nextRow 59 = .ok (.aload_n 0, 1) := by decide +kernel
theorem dX0_nextRow_60 : decode cX0_nextRow 60 = .ok (.dup, 1) := by decide +kernel
theorem dX0_nextRow_61 : decode cX0_nextRow 61 = .ok (.getfield 54, 3) := by decide +kernel
theorem dX0_nextRow_64 : decode cX0_nextRow 64 = .ok (.iconst 1, 1) := by decide +kernel
theorem dX0_nextRow_65 : decode cX0_nextRow 65 = .ok (.iadd, 1) := by decide +kernel
theorem dX0_nextRow_66 : decode cX0_nextRow 66 = .ok (.putfield 54, 3) := by decide +kernel
theorem dX0_nextRow_69 : decode cX0_nextRow 69 = .ok (.iconst 1, 1) := by decide +kernel
theorem dX0_nextRow_70 : decode cX0_nextRow 70 = .ok (.ireturn, 1) := by decide +kernel
theorem dX0_nextGroup_0 : decode cX0_nextGroup 0 = .ok (.aload_n 0, 1) := by decide +kernel
theorem dX0_nextGroup_1 : decode cX0_nextGroup 1 = .ok (.getfield 50, 3) := by decide +kernel
theorem dX0_nextGroup_4 : decode cX0_nextGroup 4 = .ok (.ifCond .ne 6, 3) := by decide +kernel
theorem dX0_nextGroup_7 : decode cX0_nextGroup 7 = .ok (.bipush (-4), 2) := by decide +kernel
theorem dX0_nextGroup_9 : decode cX0_nextGroup 9 = .ok (.ireturn, 1) := by decide +kernel
theorem dX0_nextGroup_10 : decode cX0_nextGroup 10 = .ok (.aload_n 0, 1) := by decide +kernel
theorem dX0_nextGroup_11 : decode cX0_nextGroup 11 = .ok (.invokevirtual 60, 3) := by decide +kernel
theorem dX0_nextGroup_14 : decode cX0_nextGroup 14 = .ok (.aload_n 0, 1) := by decide +kernel
theorem dX0_nextGroup_15 : decode cX0_nextGroup 15 = .ok (.getfield 54, 3) := by decide +kernel
theorem dX0_nextGroup_18 : decode cX0_nextGroup 18 = .ok (.aload_n 0, 1) := by decide +kernel
theorem dX0_nextGroup_19 : decode cX0_nextGroup 19 = .ok (.getfield 44, 3) := by decide +kernel
theorem dX0_nextGroup_22 : decode cX0_nextGroup 22 = .ok (.if_icmp .lt 5, 3) := by decide +kernel
theorem dX0_nextGroup_25 : decode cX0_nextGroup 25 = .ok (.iconst (-1), 1) := by decide +kernel
theorem dX0_nextGroup_26 : decode cX0_nextGroup 26 = .ok (.ireturn, 1) := by decide +kernel
theorem dX0_nextGroup_27 : decode cX0_nextGroup 27 = .ok (.aload_n 0, 1) := by decide +kernel
theorem dX0_nextGroup_28 : decode cX0_nextGroup 28 = .ok (.aload_n 0, 1) := by decide +kernel
theorem dX0_nextGroup_29 : decode cX0_nextGroup 29 = .ok (.aload_n 0, 1) := by decide +kernel
theorem dX0_nextGroup_30 : decode cX0_nextGroup 30 = .ok (.getfield 54, 3) := by decide +kernel
theorem dX0_nextGroup_33 : decode cX0_nextGroup 33 = .ok (.invokevirtual 83, 3) := by decide +kernel
theorem dX0_nextGroup_36 : decode cX0_nextGroup 36 = .ok (.putfield 87, 3) := by decide +kernel
theorem dX0_nextGroup_39 : decode cX0_nextGroup 39 = .ok (.aload_n 0, 1) := by decide +kernel
theorem dX0_nextGroup_40 : decode cX0_nextGroup 40 = .ok (.getfield 54, 3) := by decide +kernel
theorem dX0_nextGroup_43 : decode cX0_nextGroup 43 = .ok (.aload_n 0, 1) := by decide +kernel
theorem dX0_nextGroup_44 : decode cX0_nextGroup 44 = .ok (.getfield 44, 3) := by decide +kernel
theorem dX0_nextGroup_47 : decode cX0_nextGroup 47 = .ok (.if_icmp .ge 51, 3) := by decide +kernel
theorem dX0_nextGroup_50 : decode cX0_nextGroup 50 = .ok (.aload_n 0, 1) := by decide +kernel
theorem dX0_nextGroup_51 : decode cX0_nextGroup 51 = .ok (.aload_n 0, 1) := by decide +kernel
theorem dX0_nextGroup_52 : decode cX0_nextGroup 52 = .ok (.getfield 54, 3) := by decide +kernel
theorem dX0_nextGroup_55 : decode cX0_nextGroup 55 = .ok (.invokevirtual 83, 3) := by decide +kernel
theorem dX0_nextGroup_58 : decode cX0_nextGroup 58 = .ok (.aload_n 0, 1) := by decide +kernel
theorem dX0_nextGroup_59 : decode cX0_nextGroup 59 = .ok (.getfield 87, 3) := by decide +kernel
theorem dX0_nextGroup_62 : decode cX0_nextGroup 62 = .ok (.if_icmp .ne 36, 3) := by decide +kernel
theorem dX0_nextGroup_65 : decode cX0_nextGroup 65 = .ok (.aload_n 0, 1) := by decide +kernel
theorem dX0_nextGroup_66 : decode cX0_nextGroup 66 = .ok (.aload_n 0, 1) := by decide +kernel
theorem dX0_nextGroup_67 : decode cX0_nextGroup 67 = .ok (.aload_n 0, 1) := by decide +kernel
theorem dX0_nextGroup_68 : decode cX0_nextGroup 68 = .ok (.getfield 54, 3) := by decide +kernel
theorem dX0_nextGroup_71 : decode cX0_nextGroup 71 = .ok (.invokevirtual 90, 3) := by decide +kernel
theorem dX0_nextGroup_74 : decode cX0_nextGroup 74 = .ok (.invokevirtual 100, 3) := by decide +kernel
theorem dX0_nextGroup_77 : decode cX0_nextGroup 77 = .ok (.aload_n 0, 1) := by decide +kernel
theorem dX0_nextGroup_78 : decode cX0_nextGroup 78 = .ok (.aload_n 0, 1) := by decide +kernel
theorem dX0_nextGroup_79 : decode cX0_nextGroup 79 = .ok (.getfield 54, 3) := by decide +kernel
theorem dX0_nextGroup_82 : decode cX0_nextGroup 82 = .ok (.invokevirtual 96, 3) := by decide +kernel
theorem dX0_nextGroup_85 : decode cX0_nextGroup 85 = .ok (.aload_n 0, 1) := by decide +kernel
theorem dX0_nextGroup_86 : decode cX0_nextGroup 86 = .ok (.dup, 1) := by decide +kernel
theorem dX0_nextGroup_87 : decode cX0_nextGroup 87 = .ok (.getfield 54, 3) := by decide +kernel
theorem dX0_nextGroup_90 : decode cX0_nextGroup 90 = .ok (.iconst 1, 1) := by decide +kernel
theorem dX0_nextGroup_91 : decode cX0_nextGroup 91 = .ok (.iadd, 1) := by decide +kernel
theorem dX0_nextGroup_92 : decode cX0_nextGroup 92 = .ok (.putfield 54, 3) := by decide +kernel
theorem dX0_nextGroup_95 : decode cX0_nextGroup 95 = .ok (.goto (-56), 3) := by decide +kernel
theorem dX0_nextGroup_98 : decode cX0_nextGroup 98 = .ok (.iconst 2, 1) := by decide +kernel
theorem dX0_nextGroup_99 : decode cX0_nextGroup 99 = .ok (.ireturn, 1) := by decide +kernel
theorem dX0_skipTo_0 : decode cX0_skipTo 0 = .ok (.aload_n 0, 1) := by decide +kernel
theorem dX0_skipTo_1 : decode cX0_skipTo 1 = .ok (.getfield 50, 3) := by decide +kernel
theorem dX0_skipTo_4 : decode cX0_skipTo 4 = .ok (.ifCond .ne 6, 3) := by decide +kernel
theorem dX0_skipTo_7 : decode cX0_skipTo 7 = .ok (.bipush (-4), 2) := by decide +kernel
theorem dX0_skipTo_9 : decode cX0_skipTo 9 = .ok (.ireturn, 1) := by decide +kernel
theorem dX0_skipTo_10 : decode cX0_skipTo 10 = .ok (.aload_n 0, 1) := by decide +kernel
theorem dX0_skipTo_11 : decode cX0_skipTo 11 = .ok (.invokevirtual 60, 3) := by decide +kernel
theorem dX0_skipTo_14 : decode cX0_skipTo 14 = .ok (.aload_n 0, 1) := by decide +kernel
theorem dX0_skipTo_15 : decode cX0_skipTo 15 = .ok (.getfield 54, 3) := by decide +kernel
theorem dX0_skipTo_18 : decode cX0_skipTo 18 = .ok (.istore_n 2, 1) := by decide +kernel
end
section
theorem dX0_skipTo_19 : decode cX0_skipTo 19 = .ok (.aload_n 0, 1) := by decide +kernel
theorem dX0_skipTo_20 : decode cX0_skipTo 20 = .ok (.getfield 54, 3) := by decide +kernel
theorem dX0_skipTo_23 : decode cX0_skipTo 23 = .ok (.aload_n 0, 1) := by decide +kernel
theorem dX0_skipTo_24 : decode cX0_skipTo 24 = .ok (.getfield 44, 3) := by decide +kernel
theorem dX0_skipTo_27 : decode cX0_skipTo 27 = .ok (.if_icmp .ge 36, 3) := by decide +kernel
theorem dX0_skipTo_30 : decode cX0_skipTo 30 = .ok (.aload_n 0, 1) := by decide +kernel
theorem dX0_skipTo_31 : decode cX0_skipTo 31 = .ok (.aload_n 0, 1) := by decide +kernel
theorem dX0_skipTo_32 : decode cX0_skipTo 32 = .ok (.getfield 54, 3) := by decide +kernel
theorem dX0_skipTo_35 : decode cX0_skipTo 35 = .ok (.invokevirtual 83, 3) := by decide +kernel
theorem dX0_skipTo_38 : decode cX0_skipTo 38 = .ok (.iload_n 1, 1) := by decide +kernel
theorem dX0_skipTo_39 : decode cX0_skipTo 39 = .ok (.if_icmp .ge 24, 3) := by decide +kernel
theorem dX0_skipTo_42 : decode cX0_skipTo 42 = .ok (.aload_n 0, 1) := by decide +kernel
theorem dX0_skipTo_43 : decode cX0_skipTo 43 = .ok (.aload_n 0, 1) := by decide +kernel
theorem dX0_skipTo_44 : decode cX0_skipTo 44 = .ok (.getfield 54, 3) := by decide +kernel
theorem dX0_skipTo_47 : decode cX0_skipTo 47 = .ok (.invokevirtual 96, 3) := by decide +kernel
theorem dX0_skipTo_50 : decode cX0_skipTo 50 = .ok (.aload_n 0, 1) := by decide +kernel
theorem dX0_skipTo_51 : decode cX0_skipTo 51 = .ok (.dup, 1) := by decide +kernel
theorem dX0_skipTo_52 : decode cX0_skipTo 52 = .ok (.getfield 54, 3) := by decide +kernel
theorem dX0_skipTo_55 : decode cX0_skipTo 55 = .ok (.iconst 1, 1) := by decide +kernel
theorem dX0_skipTo_56 : decode cX0_skipTo 56 = .ok (.iadd, 1) := by decide +kernel
theorem dX0_skipTo_57 : decode cX0_skipTo 57 = .ok (.putfield 54, 3) := by decide +kernel
theorem dX0_skipTo_60 : decode cX0_skipTo 60 = .ok (.goto (-41), 3) := by decide +kernel
theorem dX0_skipTo_63 : decode cX0_skipTo 63 = .ok (.aload_n 0, 1) := by decide +kernel
theorem dX0_skipTo_64 : decode cX0_skipTo 64 = .ok (.getfield 54, 3) := by decide +kernel
theorem dX0_skipTo_67 : decode cX0_skipTo 67 = .ok (.iload_n 2, 1) := by decide +kernel
theorem dX0_skipTo_68 : decode cX0_skipTo 68 = .ok (.isub, 1) := by decide +kernel
theorem dX0_skipTo_69 : decode cX0_skipTo 69 = .ok (.ireturn, 1) := by decide +kernel
theorem dX0_key_0 : decode cX0_key 0 = .ok (.aload_n 0, 1) := by decide +kernel
theorem dX0_key_1 : decode cX0_key 1 = .ok (.getfield 87, 3) := by decide +kernel
theorem dX0_key_4 : decode cX0_key 4 = .ok (.ireturn, 1) := by decide +kernel
theorem dX0_value_0 : decode cX0_value 0 = .ok (.aload_n 0, 1) := by decide +kernel
theorem dX0_value_1 : decode cX0_value 1 = .ok (.getfield 93, 3) := by decide +kernel
theorem dX0_value_4 : decode cX0_value 4 = .ok (.ireturn, 1) := by decide +kernel
theorem dX0_group_0 : decode cX0_group 0 = .ok (.iload_n 1, 1) := by decide +kernel
theorem dX0_group_1 : decode cX0_group 1 = .ok (.ifCond .lt 8, 3) := by decide +kernel
theorem dX0_group_4 : decode cX0_group 4 = .ok (.iload_n 1, 1) := by decide +kernel
theorem dX0_group_5 : decode cX0_group 5 = .ok (.iconst 4, 1) := by decide +kernel
theorem dX0_group_6 : decode cX0_group 6 = .ok (.if_icmp .lt 13, 3) := by decide +kernel
theorem dX0_group_9 : decode cX0_group 9 = .ok (.new 67, 3) := by decide +kernel
theorem dX0_group_12 : decode cX0_group 12 = .ok (.dup, 1) := by decide +kernel
theorem dX0_group_13 : decode cX0_group 13 = .ok (.ldc 103, 2) := by decide +kernel
theorem dX0_group_15 : decode cX0_group 15 = .ok (.invokespecial 71, 3) := by decide +kernel
theorem dX0_group_18 : decode cX0_group 18 = .ok (.athrow, 1) := by decide +kernel
theorem dX0_group_19 : decode cX0_group 19 = .ok (.aload_n 0, 1) := by decide +kernel
theorem dX0_group_20 : decode cX0_group 20 = .ok (.getfield 41, 3) := by decide +kernel
theorem dX0_group_23 : decode cX0_group 23 = .ok (.iload_n 1, 1) := by decide +kernel
theorem dX0_group_24 : decode cX0_group 24 = .ok (.invokestatic 105, 3) := by decide +kernel
theorem dX0_group_27 : decode cX0_group 27 = .ok (.ireturn, 1) := by decide +kernel
theorem dX0_count_0 : decode cX0_count 0 = .ok (.iload_n 1, 1) := by decide +kernel
theorem dX0_count_1 : decode cX0_count 1 = .ok (.ifCond .lt 8, 3) := by decide +kernel
theorem dX0_count_4 : decode cX0_count 4 = .ok (.iload_n 1, 1) := by decide +kernel
theorem dX0_count_5 : decode cX0_count 5 = .ok (.iconst 4, 1) := by decide +kernel
theorem dX0_count_6 : decode cX0_count 6 = .ok (.if_icmp .lt 13, 3) := by decide +kernel
theorem dX0_count_9 : decode cX0_count 9 = .ok (.new 67, 3) := by decide +kernel
theorem dX0_count_12 : decode cX0_count 12 = .ok (.dup, 1) := by decide +kernel
theorem dX0_count_13 : decode cX0_count 13 = .ok (.ldc 103, 2) := by decide +kernel
theorem dX0_count_15 : decode cX0_count 15 = .ok (.invokespecial 71, 3) := by decide +kernel
theorem dX0_count_18 : decode cX0_count 18 = .ok (.athrow, 1) := by decide +kernel
theorem dX0_count_19 : decode cX0_count 19 = .ok (.iload_n 1, 1) := by decide +kernel
theorem dX0_count_20 : decode cX0_count 20 = .ok (.tableswitch 43 0 2 #[28, 33, 38], 28) := by decide +kernel
theorem dX0_count_48 : decode cX0_count 48 = .ok (.aload_n 0, 1) := by decide +kernel
theorem dX0_count_49 : decode cX0_count 49 = .ok (.getfield 44, 3) := by decide +kernel
theorem dX0_count_52 : decode cX0_count 52 = .ok (.ireturn, 1) := by decide +kernel
theorem dX0_count_53 : decode cX0_count 53 = .ok (.aload_n 0, 1) := by decide +kernel
theorem dX0_count_54 : decode cX0_count 54 = .ok (.invokevirtual 109, 3) := by decide +kernel
theorem dX0_count_57 : decode cX0_count 57 = .ok (.ireturn, 1) := by decide +kernel
theorem dX0_count_58 : decode cX0_count 58 = .ok (.aload_n 0, 1) := by decide +kernel
theorem dX0_count_59 : decode cX0_count 59 = .ok (.getfield 54, 3) := by decide +kernel
theorem dX0_count_62 : decode cX0_count 62 = .ok (.ireturn, 1) := by decide +kernel
theorem dX0_count_63 : decode cX0_count 63 = .ok (.aload_n 0, 1) := by decide +kernel
theorem dX0_count_64 : decode cX0_count 64 = .ok (.getfield 50, 3) := by decide +kernel
theorem dX0_count_67 : decode cX0_count 67 = .ok (.ifCond .eq 10, 3) := by decide +kernel
theorem dX0_count_70 : decode cX0_count 70 = .ok (.aload_n 0, 1) := by decide +kernel
theorem dX0_count_71 : decode cX0_count 71 = .ok (.getfield 57, 3) := by decide +kernel
theorem dX0_count_74 : decode cX0_count 74 = .ok (.goto 7, 3) := by decide +kernel
theorem dX0_count_77 : decode cX0_count 77 = .ok (.aload_n 0, 1) := by decide +kernel
theorem dX0_count_78 : decode cX0_count 78 = .ok (.getfield 47, 3) := by decide +kernel
theorem dX0_count_81 : decode cX0_count 81 = .ok (.ireturn, 1) := by decide +kernel
theorem dX0_append_0 : decode cX0_append 0 = .ok (.aload_n 0, 1) := by decide +kernel
theorem dX0_append_1 : decode cX0_append 1 = .ok (.getfield 44, 3) := by decide +kernel
theorem dX0_append_4 : decode cX0_append 4 = .ok (.aload_n 0, 1) := by decide +kernel
theorem dX0_append_5 : decode cX0_append 5 = .ok (.invokevirtual 109, 3) := by decide +kernel
theorem dX0_append_8 : decode cX0_append 8 = .ok (.isub, 1) := by decide +kernel
theorem dX0_append_9 : decode cX0_append 9 = .ok (.aload_n 0, 1) := by decide +kernel
theorem dX0_append_10 : decode cX0_append 10 = .ok (.getfield 18, 3) := by decide +kernel
theorem dX0_append_13 : decode cX0_append 13 = .ok (.if_icmp .lt 17, 3) := by decide +kernel
theorem dX0_append_16 : decode cX0_append 16 = .ok (.aload_n 0, 1) := by decide +kernel
theorem dX0_append_17 : decode cX0_append 17 = .ok (.invokevirtual 74, 3) := by decide +kernel
theorem dX0_append_20 : decode cX0_append 20 = .ok (.aload_n 0, 1) := by decide +kernel
theorem dX0_append_21 : decode cX0_append 21 = .ok (.dup, 1) := by decide +kernel
theorem dX0_append_22 : decode cX0_append 22 = .ok (.getfield 47, 3) := by decide +kernel
theorem dX0_append_25 : decode cX0_append 25 = .ok (.iconst 1, 1) := by decide +kernel
theorem dX0_append_26 : decode cX0_append 26 = .ok (.iadd, 1) := by decide +kernel
theorem dX0_append_27 : decode cX0_append 27 = .ok (.putfield 47, 3) := by decide +kernel
theorem dX0_append_30 : decode cX0_append 30 = .ok (.aload_n 0, 1) := by decide +kernel
theorem dX0_append_31 : decode cX0_append 31 = .ok (.getfield 25, 3) := by decide +kernel
theorem dX0_append_34 : decode cX0_append 34 = .ok (.aload_n 0, 1) := by decide +kernel
theorem dX0_append_35 : decode cX0_append 35 = .ok (.getfield 44, 3) := by decide +kernel
theorem dX0_append_38 : decode cX0_append 38 = .ok (.iload_n 1, 1) := by decide +kernel
theorem dX0_append_39 : decode cX0_append 39 = .ok (.invokestatic 113, 3) := by decide +kernel
theorem dX0_append_42 : decode cX0_append 42 = .ok (.aload_n 0, 1) := by decide +kernel
theorem dX0_append_43 : decode cX0_append 43 = .ok (.getfield 29, 3) := by decide +kernel
theorem dX0_append_46 : decode cX0_append 46 = .ok (.aload_n 0, 1) := by decide +kernel
theorem dX0_append_47 : decode cX0_append 47 = .ok (.getfield 44, 3) := by decide +kernel
theorem dX0_append_50 : decode cX0_append 50 = .ok (.iload_n 2, 1) := by decide +kernel
theorem dX0_append_51 : decode cX0_append 51 = .ok (.invokestatic 113, 3) := by decide +kernel
theorem dX0_append_54 : decode cX0_append 54 = .ok (.aload_n 0, 1) := by decide +kernel
theorem dX0_append_55 : decode cX0_append 55 = .ok (.getfield 32, 3) := by decide +kernel
theorem dX0_append_58 : decode cX0_append 58 = .ok (.aload_n 0, 1) := by decide +kernel
theorem dX0_append_59 : decode cX0_append 59 = .ok (.getfield 44, 3) := by decide +kernel
theorem dX0_append_62 : decode cX0_append 62 = .ok (.aload_n 0, 1) := by decide +kernel
theorem dX0_append_63 : decode cX0_append 63 = .ok (.getfield 44, 3) := by decide +kernel
theorem dX0_append_66 : decode cX0_append 66 = .ok (.invokestatic 113, 3) := by decide +kernel
theorem dX0_append_69 : decode cX0_append 69 = .ok (.aload_n 0, 1) := by decide +kernel
theorem dX0_append_70 : decode cX0_append 70 = .ok (.dup, 1) := by decide +kernel
theorem dX0_append_71 : decode cX0_append 71 = .ok (.getfield 44, 3) := by decide +kernel
theorem dX0_append_74 : decode cX0_append 74 = .ok (.iconst 1, 1) := by decide +kernel
theorem dX0_append_75 : decode cX0_append 75 = .ok (.iadd, 1) := by decide +kernel
theorem dX0_append_76 : decode cX0_append 76 = .ok (.putfield 44, 3) := by decide +kernel
theorem dX0_append_79 : decode cX0_append 79 = .ok (.return_, 1) := by decide +kernel
theorem dX0_spilledPairs_0 : decode cX0_spilledPairs 0 = .ok (.aload_n 0, 1) := by decide +kernel
theorem dX0_spilledPairs_1 : decode cX0_spilledPairs 1 = .ok (.getfield 47, 3) := by decide +kernel
theorem dX0_spilledPairs_4 : decode cX0_spilledPairs 4 = .ok (.aload_n 0, 1) := by decide +kernel
theorem dX0_spilledPairs_5 : decode cX0_spilledPairs 5 = .ok (.getfield 18, 3) := by decide +kernel
theorem dX0_spilledPairs_8 : decode cX0_spilledPairs 8 = .ok (.imul, 1) := by decide +kernel
theorem dX0_spilledPairs_9 : decode cX0_spilledPairs 9 = .ok (.ireturn, 1) := by decide +kernel
theorem dX0_sortWorkArea_0 : decode cX0_sortWorkArea 0 = .ok (.aload_n 0, 1) := by decide +kernel
theorem dX0_sortWorkArea_1 : decode cX0_sortWorkArea 1 = .ok (.invokevirtual 109, 3) := by decide +kernel
theorem dX0_sortWorkArea_4 : decode cX0_sortWorkArea 4 = .ok (.istore_n 1, 1) := by decide +kernel
theorem dX0_sortWorkArea_5 : decode cX0_sortWorkArea 5 = .ok (.iload_n 1, 1) := by decide +kernel
theorem dX0_sortWorkArea_6 : decode cX0_sortWorkArea 6 = .ok (.iconst 1, 1) := by decide +kernel
theorem dX0_sortWorkArea_7 : decode cX0_sortWorkArea 7 = .ok (.iadd, 1) := by decide +kernel
theorem dX0_sortWorkArea_8 : decode cX0_sortWorkArea 8 = .ok (.istore_n 2, 1) := by decide +kernel
theorem dX0_sortWorkArea_9 : decode cX0_sortWorkArea 9 = .ok (.iload_n 2, 1) := by decide +kernel
theorem dX0_sortWorkArea_10 : decode cX0_sortWorkArea 10 = .ok (.aload_n 0, 1) := by decide +kernel
theorem dX0_sortWorkArea_11 : decode cX0_sortWorkArea 11 = .ok (.getfield 44, 3) := by decide +kernel
theorem dX0_sortWorkArea_14 : decode cX0_sortWorkArea 14 = .ok (.if_icmp .ge 15, 3) := by decide +kernel
theorem dX0_sortWorkArea_17 : decode cX0_sortWorkArea 17 = .ok (.aload_n 0, 1) := by decide +kernel
theorem dX0_sortWorkArea_18 : decode cX0_sortWorkArea 18 = .ok (.iload_n 1, 1) := by decide +kernel
theorem dX0_sortWorkArea_19 : decode cX0_sortWorkArea 19 = .ok (.iload_n 2, 1) := by decide +kernel
theorem dX0_sortWorkArea_20 : decode cX0_sortWorkArea 20 = .ok (.invokevirtual 117, 3) := by decide +kernel
theorem dX0_sortWorkArea_23 : decode cX0_sortWorkArea 23 = .ok (.iinc 2 1, 3) := by decide +kernel
theorem dX0_sortWorkArea_26 : decode cX0_sortWorkArea 26 = .ok (.goto (-17), 3) := by decide +kernel
theorem dX0_sortWorkArea_29 : decode cX0_sortWorkArea 29 = .ok (.return_, 1) := by decide +kernel
theorem dX0_insertRow_0 : decode cX0_insertRow 0 = .ok (.aload_n 0, 1) := by decide +kernel
theorem dX0_insertRow_1 : decode cX0_insertRow 1 = .ok (.getfield 32, 3) := by decide +kernel
theorem dX0_insertRow_4 : decode cX0_insertRow 4 = .ok (.iload_n 2, 1) := by decide +kernel
theorem dX0_insertRow_5 : decode cX0_insertRow 5 = .ok (.invokestatic 105, 3) := by decide +kernel
theorem dX0_insertRow_8 : decode cX0_insertRow 8 = .ok (.istore_n 3, 1) := by decide +kernel
theorem dX0_insertRow_9 : decode cX0_insertRow 9 = .ok (.aload_n 0, 1) := by decide +kernel
theorem dX0_insertRow_10 : decode cX0_insertRow 10 = .ok (.getfield 25, 3) := by decide +kernel
theorem dX0_insertRow_13 : decode cX0_insertRow 13 = .ok (.iload_n 3, 1) := by decide +kernel
theorem dX0_insertRow_14 : decode cX0_insertRow 14 = .ok (.invokestatic 105, 3) := by decide +kernel
theorem dX0_insertRow_17 : decode cX0_insertRow 17 = .ok (.istore 4, 2) := by decide +kernel
theorem dX0_insertRow_19 : decode cX0_insertRow 19 = .ok (.iload_n 2, 1) := by decide +kernel
theorem dX0_insertRow_20 : decode cX0_insertRow 20 = .ok (.istore 5, 2) := by decide +kernel
theorem dX0_insertRow_22 : decode cX0_insertRow 22 = .ok (.iload 5, 2) := by decide +kernel
theorem dX0_insertRow_24 : decode cX0_insertRow 24 = .ok (.iload_n 1, 1) := by decide +kernel
theorem dX0_insertRow_25 : decode cX0_insertRow 25 = .ok (.if_icmp .le 42, 3) := by decide +kernel
theorem dX0_insertRow_28 : decode cX0_insertRow 28 = .ok (.aload_n 0, 1) := by decide +kernel
theorem dX0_insertRow_29 : decode cX0_insertRow 29 = .ok (.iload 5, 2) := by decide +kernel
theorem dX0_insertRow_31 : decode cX0_insertRow 31 = .ok (.iconst 1, 1) := by decide +kernel
theorem dX0_insertRow_32 : decode cX0_insertRow 32 = .ok (.isub, 1) := by decide +kernel
theorem dX0_insertRow_33 : decode cX0_insertRow 33 = .ok (.invokevirtual 83, 3) := by decide +kernel
theorem dX0_insertRow_36 : decode cX0_insertRow 36 = .ok (.iload 4, 2) := by decide +kernel
theorem dX0_insertRow_38 : decode cX0_insertRow 38 = .ok (.if_icmp .le 29, 3) := by decide +kernel
theorem dX0_insertRow_41 : decode cX0_insertRow 41 = .ok (.aload_n 0, 1) := by decide +kernel
theorem dX0_insertRow_42 : decode cX0_insertRow 42 = .ok (.getfield 32, 3) := by decide +kernel
theorem dX0_insertRow_45 : decode cX0_insertRow 45 = .ok (.iload 5, 2) := by decide +kernel
theorem dX0_insertRow_47 : decode cX0_insertRow 47 = .ok (.aload_n 0, 1) := by decide +kernel
theorem dX0_insertRow_48 : decode cX0_insertRow 48 = .ok (.getfield 32, 3) := by decide +kernel
theorem dX0_insertRow_51 : decode cX0_insertRow 51 = .ok (.iload 5, 2) := by decide +kernel
theorem dX0_insertRow_53 : decode cX0_insertRow 53 = .ok (.iconst 1, 1) := by decide +kernel
theorem dX0_insertRow_54 : decode cX0_insertRow 54 = .ok (.isub, 1) := by decide +kernel
theorem dX0_insertRow_55 : decode cX0_insertRow 55 = .ok (.invokestatic 105, 3) := by decide +kernel
theorem dX0_insertRow_58 : decode cX0_insertRow 58 = .ok (.invokestatic 113, 3) := by decide +kernel
theorem dX0_insertRow_61 : decode cX0_insertRow 61 = .ok (.iinc 5 (-1), 3) := by decide +kernel
theorem dX0_insertRow_64 : decode cX0_insertRow 64 = .ok (.goto (-42), 3) := by decide +kernel
theorem dX0_insertRow_67 : decode cX0_insertRow 67 = .ok (.aload_n 0, 1) := by decide +kernel
theorem dX0_insertRow_68 : decode cX0_insertRow 68 = .ok (.getfield 32, 3) := by decide +kernel
theorem dX0_insertRow_71 : decode cX0_insertRow 71 = .ok (.iload 5, 2) := by decide +kernel
theorem dX0_insertRow_73 : decode cX0_insertRow 73 = .ok (.iload_n 3, 1) := by decide +kernel
theorem dX0_insertRow_74 : decode cX0_insertRow 74 = .ok (.invokestatic 113, 3) := by decide +kernel
theorem dX0_insertRow_77 : decode cX0_insertRow 77 = .ok (.return_, 1) := by decide +kernel
theorem dX0_countRowsOfRuns_0 : decode cX0_countRowsOfRuns 0 = .ok (.aload_n 0, 1) := by decide +kernel
theorem dX0_countRowsOfRuns_1 : decode cX0_countRowsOfRuns 1 = .ok (.aload_n 0, 1) := by decide +kernel
theorem dX0_countRowsOfRuns_2 : decode cX0_countRowsOfRuns 2 = .ok (.getfield 44, 3) := by decide +kernel
theorem dX0_countRowsOfRuns_5 : decode cX0_countRowsOfRuns 5 = .ok (.ifCond .ne 7, 3) := by decide +kernel
theorem dX0_countRowsOfRuns_8 : decode cX0_countRowsOfRuns 8 = .ok (.iconst 0, 1) := by decide +kernel
theorem dX0_countRowsOfRuns_9 : decode cX0_countRowsOfRuns 9 = .ok (.goto 9, 3) := by decide +kernel
theorem dX0_countRowsOfRuns_12 : decode cX0_countRowsOfRuns 12 = .ok (.aload_n 0, 1) := by decide +kernel
theorem dX0_countRowsOfRuns_13 : decode cX0_countRowsOfRuns 13 = .ok (.getfield 47, 3) := by decide +kernel
theorem dX0_countRowsOfRuns_16 : decode cX0_countRowsOfRuns 16 = .ok (.iconst 1, 1) := by decide +kernel
theorem dX0_countRowsOfRuns_17 : decode cX0_countRowsOfRuns 17 = .ok (.iadd, 1) := by decide +kernel
theorem dX0_countRowsOfRuns_18 : decode cX0_countRowsOfRuns 18 = .ok (.putfield 57, 3) := by decide +kernel
theorem dX0_countRowsOfRuns_21 : decode cX0_countRowsOfRuns 21 = .ok (.iconst 0, 1) := by decide +kernel
theorem dX0_countRowsOfRuns_22 : decode cX0_countRowsOfRuns 22 = .ok (.istore_n 1, 1) := by decide +kernel
theorem dX0_countRowsOfRuns_23 : decode cX0_countRowsOfRuns 23 = .ok (.iload_n 1, 1) := by decide +kernel
theorem dX0_countRowsOfRuns_24 : decode cX0_countRowsOfRuns 24 = .ok (.aload_n 0, 1) := by decide +kernel
theorem dX0_countRowsOfRuns_25 : decode cX0_countRowsOfRuns 25 = .ok (.getfield 57, 3) := by decide +kernel
theorem dX0_countRowsOfRuns_28 : decode cX0_countRowsOfRuns 28 = .ok (.if_icmp .ge 35, 3) := by decide +kernel
theorem dX0_countRowsOfRuns_31 : decode cX0_countRowsOfRuns 31 = .ok (.aload_n 0, 1) := by decide +kernel
theorem dX0_countRowsOfRuns_32 : decode cX0_countRowsOfRuns 32 = .ok (.getfield 38, 3) := by decide +kernel
theorem dX0_countRowsOfRuns_35 : decode cX0_countRowsOfRuns 35 = .ok (.iload_n 1, 1) := by decide +kernel
theorem dX0_countRowsOfRuns_36 : decode cX0_countRowsOfRuns 36 = .ok (.aload_n 0, 1) := by decide +kernel
theorem dX0_countRowsOfRuns_37 : decode cX0_countRowsOfRuns 37 = .ok (.getfield 18, 3) := by decide +kernel
theorem dX0_countRowsOfRuns_40 : decode cX0_countRowsOfRuns 40 = .ok (.aload_n 0, 1) := by decide +kernel
theorem dX0_countRowsOfRuns_41 : decode cX0_countRowsOfRuns 41 = .ok (.getfield 44, 3) := by decide +kernel
theorem dX0_countRowsOfRuns_44 : decode cX0_countRowsOfRuns 44 = .ok (.iload_n 1, 1) := by decide +kernel
theorem dX0_countRowsOfRuns_45 : decode cX0_countRowsOfRuns 45 = .ok (.aload_n 0, 1) := by decide +kernel
theorem dX0_countRowsOfRuns_46 : decode cX0_countRowsOfRuns 46 = .ok (.getfield 18, 3) := by decide +kernel
theorem dX0_countRowsOfRuns_49 : decode cX0_countRowsOfRuns 49 = .ok (.imul, 1) := by decide +kernel
theorem dX0_countRowsOfRuns_50 : decode cX0_countRowsOfRuns 50 = .ok (.isub, 1) := by decide +kernel
theorem dX0_countRowsOfRuns_51 : decode cX0_countRowsOfRuns 51 = .ok (.invokestatic 9, 3) := by decide +kernel
theorem dX0_countRowsOfRuns_54 : decode cX0_countRowsOfRuns 54 = .ok (.invokestatic 113, 3) := by decide +kernel
theorem dX0_countRowsOfRuns_57 : decode cX0_countRowsOfRuns 57 = .ok (.iinc 1 1, 3) := by decide +kernel
theorem dX0_countRowsOfRuns_60 : decode cX0_countRowsOfRuns 60 = .ok (.goto (-37), 3) := by decide +kernel
theorem dX0_countRowsOfRuns_63 : decode cX0_countRowsOfRuns 63 = .ok (.return_, 1) := by decide +kernel
theorem dX0_mergeRuns_0 : decode cX0_mergeRuns 0 = .ok (.aload_n 0, 1) := by decide +kernel
theorem dX0_mergeRuns_1 : decode cX0_mergeRuns 1 = .ok (.getfield 18, 3) := by decide +kernel
theorem dX0_mergeRuns_4 : decode cX0_mergeRuns 4 = .ok (.istore_n 1, 1) := by decide +kernel
theorem dX0_mergeRuns_5 : decode cX0_mergeRuns 5 = .ok (.iconst 0, 1) := by decide +kernel
theorem dX0_mergeRuns_6 : decode cX0_mergeRuns 6 = .ok (.istore_n 2, 1) := by decide +kernel
theorem dX0_mergeRuns_7 : decode cX0_mergeRuns 7 = .ok (.iload_n 2, 1) := by decide +kernel
theorem dX0_mergeRuns_8 : decode cX0_mergeRuns 8 = .ok (.bipush 11, 2) := by decide +kernel
theorem dX0_mergeRuns_10 : decode cX0_mergeRuns 10 = .ok (.if_icmp .ge 26, 3) := by decide +kernel
theorem dX0_mergeRuns_13 : decode cX0_mergeRuns 13 = .ok (.iload_n 1, 1) := by decide +kernel
theorem dX0_mergeRuns_14 : decode cX0_mergeRuns 14 = .ok (.aload_n 0, 1) := by decide +kernel
theorem dX0_mergeRuns_15 : decode cX0_mergeRuns 15 = .ok (.getfield 44, 3) := by decide +kernel
theorem dX0_mergeRuns_18 : decode cX0_mergeRuns 18 = .ok (.if_icmp .ge 18, 3) := by decide +kernel
theorem dX0_mergeRuns_21 : decode cX0_mergeRuns 21 = .ok (.aload_n 0, 1) := by decide +kernel
theorem dX0_mergeRuns_22 : decode cX0_mergeRuns 22 = .ok (.iload_n 1, 1) := by decide +kernel
theorem dX0_mergeRuns_23 : decode cX0_mergeRuns 23 = .ok (.invokevirtual 120, 3) := by decide +kernel
theorem dX0_mergeRuns_26 : decode cX0_mergeRuns 26 = .ok (.iload_n 1, 1) := by decide +kernel
theorem dX0_mergeRuns_27 : decode cX0_mergeRuns 27 = .ok (.iload_n 1, 1) := by decide +kernel
theorem dX0_mergeRuns_28 : decode cX0_mergeRuns 28 = .ok (.iadd, 1) := by decide +kernel
theorem dX0_mergeRuns_29 : decode cX0_mergeRuns 29 = .ok (.istore_n 1, 1) := by decide +kernel
theorem dX0_mergeRuns_30 : decode cX0_mergeRuns 30 = .ok (.iinc 2 1, 3) := by decide +kernel
theorem dX0_mergeRuns_33 : decode cX0_mergeRuns 33 = .ok (.goto (-26), 3) := by decide +kernel
theorem dX0_mergeRuns_36 : decode cX0_mergeRuns 36 = .ok (.return_, 1) := by decide +kernel
theorem dX0_mergeNeighbours_0 : decode cX0_mergeNeighbours 0 = .ok (.iconst 0, 1) := by decide +kernel
theorem dX0_mergeNeighbours_1 : decode cX0_mergeNeighbours 1 = .ok (.istore_n 2, 1) := by decide +kernel
theorem dX0_mergeNeighbours_2 : decode cX0_mergeNeighbours 2 = .ok (.iload_n 2, 1) := by decide +kernel
theorem dX0_mergeNeighbours_3 : decode cX0_mergeNeighbours 3 = .ok (.iload_n 1, 1) := by decide +kernel
theorem dX0_mergeNeighbours_4 : decode cX0_mergeNeighbours 4 = .ok (.iadd, 1) := by decide +kernel
theorem dX0_mergeNeighbours_5 : decode cX0_mergeNeighbours 5 = .ok (.aload_n 0, 1) := by decide +kernel
theorem dX0_mergeNeighbours_6 : decode cX0_mergeNeighbours 6 = .ok (.getfield 44, 3) := by decide +kernel
theorem dX0_mergeNeighbours_9 : decode cX0_mergeNeighbours 9 = .ok (.if_icmp .ge 32, 3) := by decide +kernel
theorem dX0_mergeNeighbours_12 : decode cX0_mergeNeighbours 12 = .ok (.aload_n 0, 1) := by decide +kernel
theorem dX0_mergeNeighbours_13 : decode cX0_mergeNeighbours 13 = .ok (.iload_n 2, 1) := by decide +kernel
end
section
theorem dX0_mergeNeighbours_14 : decode cX0_mergeNeighbours 14 = .ok (.iload_n 2, 1) := by decide +kernel
theorem dX0_mergeNeighbours_15 : decode cX0_mergeNeighbours 15 = .ok (.iload_n 1, 1) := by decide +kernel
theorem dX0_mergeNeighbours_16 : decode cX0_mergeNeighbours 16 = .ok (.iadd, 1) := by decide +kernel
theorem dX0_mergeNeighbours_17 : decode cX0_mergeNeighbours 17 = .ok (.iload_n 2, 1) := by decide +kernel
theorem dX0_mergeNeighbours_18 : decode cX0_mergeNeighbours 18 = .ok (.iload_n 1, 1) := by decide +kernel
theorem dX0_mergeNeighbours_19 : decode cX0_mergeNeighbours 19 = .ok (.iadd, 1) := by decide +kernel
theorem dX0_mergeNeighbours_20 : decode cX0_mergeNeighbours 20 = .ok (.iload_n 1, 1) := by decide +kernel
theorem dX0_mergeNeighbours_21 : decode cX0_mergeNeighbours 21 = .ok (.iadd, 1) := by decide +kernel
theorem dX0_mergeNeighbours_22 : decode cX0_mergeNeighbours 22 = .ok (.aload_n 0, 1) := by decide +kernel
theorem dX0_mergeNeighbours_23 : decode cX0_mergeNeighbours 23 = .ok (.getfield 44, 3) := by decide +kernel
theorem dX0_mergeNeighbours_26 : decode cX0_mergeNeighbours 26 = .ok (.invokestatic 9, 3) := by decide +kernel
theorem dX0_mergeNeighbours_29 : decode cX0_mergeNeighbours 29 = .ok (.invokevirtual 123, 3) := by decide +kernel
theorem dX0_mergeNeighbours_32 : decode cX0_mergeNeighbours 32 = .ok (.iload_n 2, 1) := by decide +kernel
theorem dX0_mergeNeighbours_33 : decode cX0_mergeNeighbours 33 = .ok (.iload_n 1, 1) := by decide +kernel
theorem dX0_mergeNeighbours_34 : decode cX0_mergeNeighbours 34 = .ok (.iload_n 1, 1) := by decide +kernel
theorem dX0_mergeNeighbours_35 : decode cX0_mergeNeighbours 35 = .ok (.iadd, 1) := by decide +kernel
theorem dX0_mergeNeighbours_36 : decode cX0_mergeNeighbours 36 = .ok (.iadd, 1) := by decide +kernel
theorem dX0_mergeNeighbours_37 : decode cX0_mergeNeighbours 37 = .ok (.istore_n 2, 1) := by decide +kernel
theorem dX0_mergeNeighbours_38 : decode cX0_mergeNeighbours 38 = .ok (.goto (-36), 3) := by decide +kernel
theorem dX0_mergeNeighbours_41 : decode cX0_mergeNeighbours 41 = .ok (.return_, 1) := by decide +kernel
theorem dX0_mergeStretches_0 : decode cX0_mergeStretches 0 = .ok (.iload_n 1, 1) := by decide +kernel
theorem dX0_mergeStretches_1 : decode cX0_mergeStretches 1 = .ok (.istore 4, 2) := by decide +kernel
theorem dX0_mergeStretches_3 : decode cX0_mergeStretches 3 = .ok (.iload_n 2, 1) := by decide +kernel
theorem dX0_mergeStretches_4 : decode cX0_mergeStretches 4 = .ok (.istore 5, 2) := by decide +kernel
theorem dX0_mergeStretches_6 : decode cX0_mergeStretches 6 = .ok (.iload_n 1, 1) := by decide +kernel
theorem dX0_mergeStretches_7 : decode cX0_mergeStretches 7 = .ok (.istore 6, 2) := by decide +kernel
theorem dX0_mergeStretches_9 : decode cX0_mergeStretches 9 = .ok (.iload 6, 2) := by decide +kernel
theorem dX0_mergeStretches_11 : decode cX0_mergeStretches 11 = .ok (.iload_n 3, 1) := by decide +kernel
theorem dX0_mergeStretches_12 : decode cX0_mergeStretches 12 = .ok (.if_icmp .ge 81, 3) := by decide +kernel
theorem dX0_mergeStretches_15 : decode cX0_mergeStretches 15 = .ok (.iload 5, 2) := by decide +kernel
theorem dX0_mergeStretches_17 : decode cX0_mergeStretches 17 = .ok (.iload_n 3, 1) := by decide +kernel
theorem dX0_mergeStretches_18 : decode cX0_mergeStretches 18 = .ok (.if_icmp .ge 24, 3) := by decide +kernel
theorem dX0_mergeStretches_21 : decode cX0_mergeStretches 21 = .ok (.iload 4, 2) := by decide +kernel
theorem dX0_mergeStretches_23 : decode cX0_mergeStretches 23 = .ok (.iload_n 2, 1) := by decide +kernel
theorem dX0_mergeStretches_24 : decode cX0_mergeStretches 24 = .ok (.if_icmp .ge 42, 3) := by decide +kernel
theorem dX0_mergeStretches_27 : decode cX0_mergeStretches 27 = .ok (.aload_n 0, 1) := by decide +kernel
theorem dX0_mergeStretches_28 : decode cX0_mergeStretches 28 = .ok (.iload 4, 2) := by decide +kernel
theorem dX0_mergeStretches_30 : decode cX0_mergeStretches 30 = .ok (.invokevirtual 83, 3) := by decide +kernel
theorem dX0_mergeStretches_33 : decode cX0_mergeStretches 33 = .ok (.aload_n 0, 1) := by decide +kernel
theorem dX0_mergeStretches_34 : decode cX0_mergeStretches 34 = .ok (.iload 5, 2) := by decide +kernel
theorem dX0_mergeStretches_36 : decode cX0_mergeStretches 36 = .ok (.invokevirtual 83, 3) := by decide +kernel
theorem dX0_mergeStretches_39 : decode cX0_mergeStretches 39 = .ok (.if_icmp .gt 27, 3) := by decide +kernel
theorem dX0_mergeStretches_42 : decode cX0_mergeStretches 42 = .ok (.aload_n 0, 1) := by decide +kernel
theorem dX0_mergeStretches_43 : decode cX0_mergeStretches 43 = .ok (.getfield 35, 3) := by decide +kernel
theorem dX0_mergeStretches_46 : decode cX0_mergeStretches 46 = .ok (.iload 6, 2) := by decide +kernel
theorem dX0_mergeStretches_48 : decode cX0_mergeStretches 48 = .ok (.aload_n 0, 1) := by decide +kernel
theorem dX0_mergeStretches_49 : decode cX0_mergeStretches 49 = .ok (.getfield 32, 3) := by decide +kernel
theorem dX0_mergeStretches_52 : decode cX0_mergeStretches 52 = .ok (.iload 4, 2) := by decide +kernel
theorem dX0_mergeStretches_54 : decode cX0_mergeStretches 54 = .ok (.invokestatic 105, 3) := by decide +kernel
theorem dX0_mergeStretches_57 : decode cX0_mergeStretches 57 = .ok (.invokestatic 113, 3) := by decide +kernel
theorem dX0_mergeStretches_60 : decode cX0_mergeStretches 60 = .ok (.iinc 4 1, 3) := by decide +kernel
theorem dX0_mergeStretches_63 : decode cX0_mergeStretches 63 = .ok (.goto 24, 3) := by decide +kernel
theorem dX0_mergeStretches_66 : decode cX0_mergeStretches 66 = .ok (.aload_n 0, 1) := by decide +kernel
theorem dX0_mergeStretches_67 : decode cX0_mergeStretches 67 = .ok (.getfield 35, 3) := by decide +kernel
theorem dX0_mergeStretches_70 : decode cX0_mergeStretches 70 = .ok (.iload 6, 2) := by decide +kernel
theorem dX0_mergeStretches_72 : decode cX0_mergeStretches 72 = .ok (.aload_n 0, 1) := by decide +kernel
theorem dX0_mergeStretches_73 : decode cX0_mergeStretches 73 = .ok (.getfield 32, 3) := by decide +kernel
theorem dX0_mergeStretches_76 : decode cX0_mergeStretches 76 = .ok (.iload 5, 2) := by decide +kernel
theorem dX0_mergeStretches_78 : decode cX0_mergeStretches 78 = .ok (.invokestatic 105, 3) := by decide +kernel
theorem dX0_mergeStretches_81 : decode cX0_mergeStretches 81 = .ok (.invokestatic 113, 3) := by decide +kernel
theorem dX0_mergeStretches_84 : decode cX0_mergeStretches 84 = .ok (.iinc 5 1, 3) := by decide +kernel
theorem dX0_mergeStretches_87 : decode cX0_mergeStretches 87 = .ok (.iinc 6 1, 3) := by decide +kernel
theorem dX0_mergeStretches_90 : decode cX0_mergeStretches 90 = .ok (.goto (-81), 3) := by decide +kernel
theorem dX0_mergeStretches_93 : decode cX0_mergeStretches 93 = .ok (.iload_n 1, 1) := by decide +kernel
theorem dX0_mergeStretches_94 : decode cX0_mergeStretches 94 = .ok (.istore 6, 2) := by decide +kernel
theorem dX0_mergeStretches_96 : decode cX0_mergeStretches 96 = .ok (.iload 6, 2) := by decide +kernel
theorem dX0_mergeStretches_98 : decode cX0_mergeStretches 98 = .ok (.iload_n 3, 1) := by decide +kernel
theorem dX0_mergeStretches_99 : decode cX0_mergeStretches 99 = .ok (.if_icmp .ge 27, 3) := by decide +kernel
theorem dX0_mergeStretches_102 : decode cX0_mergeStretches 102 = .ok (.aload_n 0, 1) := by decide +kernel
theorem dX0_mergeStretches_103 : decode cX0_mergeStretches 103 = .ok (.getfield 32, 3) := by decide +kernel
theorem dX0_mergeStretches_106 : decode cX0_mergeStretches 106 = .ok (.iload 6, 2) := by decide +kernel
theorem dX0_mergeStretches_108 : decode cX0_mergeStretches 108 = .ok (.aload_n 0, 1) := by decide +kernel
theorem dX0_mergeStretches_109 : decode cX0_mergeStretches 109 = .ok (.getfield 35, 3) := by decide +kernel
theorem dX0_mergeStretches_112 : decode cX0_mergeStretches 112 = .ok (.iload 6, 2) := by decide +kernel
theorem dX0_mergeStretches_114 : decode cX0_mergeStretches 114 = .ok (.invokestatic 105, 3) := by decide +kernel
theorem dX0_mergeStretches_117 : decode cX0_mergeStretches 117 = .ok (.invokestatic 113, 3) := by decide +kernel
theorem dX0_mergeStretches_120 : decode cX0_mergeStretches 120 = .ok (.iinc 6 1, 3) := by decide +kernel
theorem dX0_mergeStretches_123 : decode cX0_mergeStretches 123 = .ok (.goto (-27), 3) := by decide +kernel
theorem dX0_mergeStretches_126 : decode cX0_mergeStretches 126 = .ok (.return_, 1) := by decide +kernel
theorem dX0_keyOfRow_0 : decode cX0_keyOfRow 0 = .ok (.aload_n 0, 1) := by decide +kernel
theorem dX0_keyOfRow_1 : decode cX0_keyOfRow 1 = .ok (.getfield 25, 3) := by decide +kernel
theorem dX0_keyOfRow_4 : decode cX0_keyOfRow 4 = .ok (.aload_n 0, 1) := by decide +kernel
theorem dX0_keyOfRow_5 : decode cX0_keyOfRow 5 = .ok (.getfield 32, 3) := by decide +kernel
theorem dX0_keyOfRow_8 : decode cX0_keyOfRow 8 = .ok (.iload_n 1, 1) := by decide +kernel
theorem dX0_keyOfRow_9 : decode cX0_keyOfRow 9 = .ok (.invokestatic 105, 3) := by decide +kernel
theorem dX0_keyOfRow_12 : decode cX0_keyOfRow 12 = .ok (.invokestatic 105, 3) := by decide +kernel
theorem dX0_keyOfRow_15 : decode cX0_keyOfRow 15 = .ok (.ireturn, 1) := by decide +kernel
theorem dX0_valueOfRow_0 : decode cX0_valueOfRow 0 = .ok (.aload_n 0, 1) := by decide +kernel
theorem dX0_valueOfRow_1 : decode cX0_valueOfRow 1 = .ok (.getfield 29, 3) := by decide +kernel
theorem dX0_valueOfRow_4 : decode cX0_valueOfRow 4 = .ok (.aload_n 0, 1) := by decide +kernel
theorem dX0_valueOfRow_5 : decode cX0_valueOfRow 5 = .ok (.getfield 32, 3) := by decide +kernel
theorem dX0_valueOfRow_8 : decode cX0_valueOfRow 8 = .ok (.iload_n 1, 1) := by decide +kernel
theorem dX0_valueOfRow_9 : decode cX0_valueOfRow 9 = .ok (.invokestatic 105, 3) := by decide +kernel
theorem dX0_valueOfRow_12 : decode cX0_valueOfRow 12 = .ok (.invokestatic 105, 3) := by decide +kernel
theorem dX0_valueOfRow_15 : decode cX0_valueOfRow 15 = .ok (.ireturn, 1) := by decide +kernel
theorem dX0_takeFromRun_0 : decode cX0_takeFromRun 0 = .ok (.aload_n 0, 1) := by decide +kernel
theorem dX0_takeFromRun_1 : decode cX0_takeFromRun 1 = .ok (.getfield 32, 3) := by decide +kernel
theorem dX0_takeFromRun_4 : decode cX0_takeFromRun 4 = .ok (.iload_n 1, 1) := by decide +kernel
theorem dX0_takeFromRun_5 : decode cX0_takeFromRun 5 = .ok (.invokestatic 105, 3) := by decide +kernel
theorem dX0_takeFromRun_8 : decode cX0_takeFromRun 8 = .ok (.aload_n 0, 1) := by decide +kernel
theorem dX0_takeFromRun_9 : decode cX0_takeFromRun 9 = .ok (.getfield 18, 3) := by decide +kernel
theorem dX0_takeFromRun_12 : decode cX0_takeFromRun 12 = .ok (.idiv, 1) := by decide +kernel
theorem dX0_takeFromRun_13 : decode cX0_takeFromRun 13 = .ok (.istore_n 2, 1) := by decide +kernel
theorem dX0_takeFromRun_14 : decode cX0_takeFromRun 14 = .ok (.aload_n 0, 1) := by decide +kernel
theorem dX0_takeFromRun_15 : decode cX0_takeFromRun 15 = .ok (.getfield 38, 3) := by decide +kernel
theorem dX0_takeFromRun_18 : decode cX0_takeFromRun 18 = .ok (.iload_n 2, 1) := by decide +kernel
theorem dX0_takeFromRun_19 : decode cX0_takeFromRun 19 = .ok (.invokestatic 105, 3) := by decide +kernel
theorem dX0_takeFromRun_22 : decode cX0_takeFromRun 22 = .ok (.iconst 1, 1) := by decide +kernel
theorem dX0_takeFromRun_23 : decode cX0_takeFromRun 23 = .ok (.isub, 1) := by decide +kernel
theorem dX0_takeFromRun_24 : decode cX0_takeFromRun 24 = .ok (.istore_n 3, 1) := by decide +kernel
theorem dX0_takeFromRun_25 : decode cX0_takeFromRun 25 = .ok (.aload_n 0, 1) := by decide +kernel
theorem dX0_takeFromRun_26 : decode cX0_takeFromRun 26 = .ok (.getfield 38, 3) := by decide +kernel
theorem dX0_takeFromRun_29 : decode cX0_takeFromRun 29 = .ok (.iload_n 2, 1) := by decide +kernel
theorem dX0_takeFromRun_30 : decode cX0_takeFromRun 30 = .ok (.iload_n 3, 1) := by decide +kernel
theorem dX0_takeFromRun_31 : decode cX0_takeFromRun 31 = .ok (.invokestatic 113, 3) := by decide +kernel
theorem dX0_takeFromRun_34 : decode cX0_takeFromRun 34 = .ok (.iload_n 3, 1) := by decide +kernel
theorem dX0_takeFromRun_35 : decode cX0_takeFromRun 35 = .ok (.ifCond .ne 13, 3) := by decide +kernel
theorem dX0_takeFromRun_38 : decode cX0_takeFromRun 38 = .ok (.aload_n 0, 1) := by decide +kernel
theorem dX0_takeFromRun_39 : decode cX0_takeFromRun 39 = .ok (.dup, 1) := by decide +kernel
theorem dX0_takeFromRun_40 : decode cX0_takeFromRun 40 = .ok (.getfield 57, 3) := by decide +kernel
theorem dX0_takeFromRun_43 : decode cX0_takeFromRun 43 = .ok (.iconst 1, 1) := by decide +kernel
theorem dX0_takeFromRun_44 : decode cX0_takeFromRun 44 = .ok (.isub, 1) := by decide +kernel
theorem dX0_takeFromRun_45 : decode cX0_takeFromRun 45 = .ok (.putfield 57, 3) := by decide +kernel
theorem dX0_takeFromRun_48 : decode cX0_takeFromRun 48 = .ok (.return_, 1) := by decide +kernel
theorem dX0_addToGroup_0 : decode cX0_addToGroup 0 = .ok (.aload_n 0, 1) := by decide +kernel
theorem dX0_addToGroup_1 : decode cX0_addToGroup 1 = .ok (.getfield 41, 3) := by decide +kernel
theorem dX0_addToGroup_4 : decode cX0_addToGroup 4 = .ok (.iconst 0, 1) := by decide +kernel
theorem dX0_addToGroup_5 : decode cX0_addToGroup 5 = .ok (.invokestatic 105, 3) := by decide +kernel
theorem dX0_addToGroup_8 : decode cX0_addToGroup 8 = .ok (.ifCond .ne 7, 3) := by decide +kernel
theorem dX0_addToGroup_11 : decode cX0_addToGroup 11 = .ok (.iconst 1, 1) := by decide +kernel
theorem dX0_addToGroup_12 : decode cX0_addToGroup 12 = .ok (.goto 4, 3) := by decide +kernel
theorem dX0_addToGroup_15 : decode cX0_addToGroup 15 = .ok (.iconst 0, 1) := by decide +kernel
theorem dX0_addToGroup_16 : decode cX0_addToGroup 16 = .ok (.istore_n 2, 1) := by decide +kernel
theorem dX0_addToGroup_17 : decode cX0_addToGroup 17 = .ok (.aload_n 0, 1) := by decide +kernel
theorem dX0_addToGroup_18 : decode cX0_addToGroup 18 = .ok (.getfield 41, 3) := by decide +kernel
theorem dX0_addToGroup_21 : decode cX0_addToGroup 21 = .ok (.iconst 0, 1) := by decide +kernel
theorem dX0_addToGroup_22 : decode cX0_addToGroup 22 = .ok (.aload_n 0, 1) := by decide +kernel
theorem dX0_addToGroup_23 : decode cX0_addToGroup 23 = .ok (.getfield 41, 3) := by decide +kernel
theorem dX0_addToGroup_26 : decode cX0_addToGroup 26 = .ok (.iconst 0, 1) := by decide +kernel
theorem dX0_addToGroup_27 : decode cX0_addToGroup 27 = .ok (.invokestatic 105, 3) := by decide +kernel
theorem dX0_addToGroup_30 : decode cX0_addToGroup 30 = .ok (.iconst 1, 1) := by decide +kernel
theorem dX0_addToGroup_31 : decode cX0_addToGroup 31 = .ok (.iadd, 1) := by decide +kernel
theorem dX0_addToGroup_32 : decode cX0_addToGroup 32 = .ok (.invokestatic 113, 3) := by decide +kernel
theorem dX0_addToGroup_35 : decode cX0_addToGroup 35 = .ok (.aload_n 0, 1) := by decide +kernel
theorem dX0_addToGroup_36 : decode cX0_addToGroup 36 = .ok (.getfield 41, 3) := by decide +kernel
theorem dX0_addToGroup_39 : decode cX0_addToGroup 39 = .ok (.iconst 1, 1) := by decide +kernel
theorem dX0_addToGroup_40 : decode cX0_addToGroup 40 = .ok (.aload_n 0, 1) := by decide +kernel
theorem dX0_addToGroup_41 : decode cX0_addToGroup 41 = .ok (.getfield 41, 3) := by decide +kernel
theorem dX0_addToGroup_44 : decode cX0_addToGroup 44 = .ok (.iconst 1, 1) := by decide +kernel
theorem dX0_addToGroup_45 : decode cX0_addToGroup 45 = .ok (.invokestatic 105, 3) := by decide +kernel
theorem dX0_addToGroup_48 : decode cX0_addToGroup 48 = .ok (.iload_n 1, 1) := by decide +kernel
theorem dX0_addToGroup_49 : decode cX0_addToGroup 49 = .ok (.iadd, 1) := by decide +kernel
theorem dX0_addToGroup_50 : decode cX0_addToGroup 50 = .ok (.invokestatic 113, 3) := by decide +kernel
theorem dX0_addToGroup_53 : decode cX0_addToGroup 53 = .ok (.aload_n 0, 1) := by decide +kernel
theorem dX0_addToGroup_54 : decode cX0_addToGroup 54 = .ok (.getfield 41, 3) := by decide +kernel
theorem dX0_addToGroup_57 : decode cX0_addToGroup 57 = .ok (.iconst 2, 1) := by decide +kernel
theorem dX0_addToGroup_58 : decode cX0_addToGroup 58 = .ok (.iload_n 2, 1) := by decide +kernel
theorem dX0_addToGroup_59 : decode cX0_addToGroup 59 = .ok (.ifCond .eq 7, 3) := by decide +kernel
theorem dX0_addToGroup_62 : decode cX0_addToGroup 62 = .ok (.iload_n 1, 1) := by decide +kernel
theorem dX0_addToGroup_63 : decode cX0_addToGroup 63 = .ok (.goto 15, 3) := by decide +kernel
theorem dX0_addToGroup_66 : decode cX0_addToGroup 66 = .ok (.aload_n 0, 1) := by decide +kernel
theorem dX0_addToGroup_67 : decode cX0_addToGroup 67 = .ok (.getfield 41, 3) := by decide +kernel
theorem dX0_addToGroup_70 : decode cX0_addToGroup 70 = .ok (.iconst 2, 1) := by decide +kernel
theorem dX0_addToGroup_71 : decode cX0_addToGroup 71 = .ok (.invokestatic 105, 3) := by decide +kernel
theorem dX0_addToGroup_74 : decode cX0_addToGroup 74 = .ok (.iload_n 1, 1) := by decide +kernel
theorem dX0_addToGroup_75 : decode cX0_addToGroup 75 = .ok (.invokestatic 9, 3) := by decide +kernel
theorem dX0_addToGroup_78 : decode cX0_addToGroup 78 = .ok (.invokestatic 113, 3) := by decide +kernel
theorem dX0_addToGroup_81 : decode cX0_addToGroup 81 = .ok (.aload_n 0, 1) := by decide +kernel
theorem dX0_addToGroup_82 : decode cX0_addToGroup 82 = .ok (.getfield 41, 3) := by decide +kernel
theorem dX0_addToGroup_85 : decode cX0_addToGroup 85 = .ok (.iconst 3, 1) := by decide +kernel
theorem dX0_addToGroup_86 : decode cX0_addToGroup 86 = .ok (.iload_n 2, 1) := by decide +kernel
theorem dX0_addToGroup_87 : decode cX0_addToGroup 87 = .ok (.ifCond .eq 7, 3) := by decide +kernel
theorem dX0_addToGroup_90 : decode cX0_addToGroup 90 = .ok (.iload_n 1, 1) := by decide +kernel
theorem dX0_addToGroup_91 : decode cX0_addToGroup 91 = .ok (.goto 15, 3) := by decide +kernel
theorem dX0_addToGroup_94 : decode cX0_addToGroup 94 = .ok (.aload_n 0, 1) := by decide +kernel
theorem dX0_addToGroup_95 : decode cX0_addToGroup 95 = .ok (.getfield 41, 3) := by decide +kernel
theorem dX0_addToGroup_98 : decode cX0_addToGroup 98 = .ok (.iconst 3, 1) := by decide +kernel
theorem dX0_addToGroup_99 : decode cX0_addToGroup 99 = .ok (.invokestatic 105, 3) := by decide +kernel
theorem dX0_addToGroup_102 : decode cX0_addToGroup 102 = .ok (.iload_n 1, 1) := by decide +kernel
theorem dX0_addToGroup_103 : decode cX0_addToGroup 103 = .ok (.invokestatic 15, 3) := by decide +kernel
theorem dX0_addToGroup_106 : decode cX0_addToGroup 106 = .ok (.invokestatic 113, 3) := by decide +kernel
theorem dX0_addToGroup_109 : decode cX0_addToGroup 109 = .ok (.return_, 1) := by decide +kernel
theorem dX0_clearCurrent_0 : decode cX0_clearCurrent 0 = .ok (.aload_n 0, 1) := by decide +kernel
theorem dX0_clearCurrent_1 : decode cX0_clearCurrent 1 = .ok (.iconst 0, 1) := by decide +kernel
theorem dX0_clearCurrent_2 : decode cX0_clearCurrent 2 = .ok (.putfield 87, 3) := by decide +kernel
theorem dX0_clearCurrent_5 : decode cX0_clearCurrent 5 = .ok (.aload_n 0, 1) := by decide +kernel
theorem dX0_clearCurrent_6 : decode cX0_clearCurrent 6 = .ok (.iconst 0, 1) := by decide +kernel
theorem dX0_clearCurrent_7 : decode cX0_clearCurrent 7 = .ok (.putfield 93, 3) := by decide +kernel
theorem dX0_clearCurrent_10 : decode cX0_clearCurrent 10 = .ok (.iconst 0, 1) := by decide +kernel
theorem dX0_clearCurrent_11 : decode cX0_clearCurrent 11 = .ok (.istore_n 1, 1) := by decide +kernel
theorem dX0_clearCurrent_12 : decode cX0_clearCurrent 12 = .ok (.iload_n 1, 1) := by decide +kernel
theorem dX0_clearCurrent_13 : decode cX0_clearCurrent 13 = .ok (.iconst 4, 1) := by decide +kernel
theorem dX0_clearCurrent_14 : decode cX0_clearCurrent 14 = .ok (.if_icmp .ge 18, 3) := by decide +kernel
theorem dX0_clearCurrent_17 : decode cX0_clearCurrent 17 = .ok (.aload_n 0, 1) := by decide +kernel
theorem dX0_clearCurrent_18 : decode cX0_clearCurrent 18 = .ok (.getfield 41, 3) := by decide +kernel
theorem dX0_clearCurrent_21 : decode cX0_clearCurrent 21 = .ok (.iload_n 1, 1) := by decide +kernel
theorem dX0_clearCurrent_22 : decode cX0_clearCurrent 22 = .ok (.iconst 0, 1) := by decide +kernel
theorem dX0_clearCurrent_23 : decode cX0_clearCurrent 23 = .ok (.invokestatic 113, 3) := by decide +kernel
theorem dX0_clearCurrent_26 : decode cX0_clearCurrent 26 = .ok (.iinc 1 1, 3) := by decide +kernel
theorem dX0_clearCurrent_29 : decode cX0_clearCurrent 29 = .ok (.goto (-17), 3) := by decide +kernel
theorem dX0_clearCurrent_32 : decode cX0_clearCurrent 32 = .ok (.return_, 1) := by decide +kernel
theorem dX0_at_0 : decode cX0_at 0 = .ok (.iload_n 1, 1) := by decide +kernel
theorem dX0_at_1 : decode cX0_at 1 = .ok (.ifCond .lt 15, 3) := by decide +kernel
theorem dX0_at_4 : decode cX0_at 4 = .ok (.iload_n 1, 1) := by decide +kernel
theorem dX0_at_5 : decode cX0_at 5 = .ok (.aload_n 0, 1) := by decide +kernel
theorem dX0_at_6 : decode cX0_at 6 = .ok (.arraylength, 1) := by decide +kernel
theorem dX0_at_7 : decode cX0_at 7 = .ok (.if_icmp .ge 9, 3) := by decide +kernel
theorem dX0_at_10 : decode cX0_at 10 = .ok (.aload_n 0, 1) := by decide +kernel
theorem dX0_at_11 : decode cX0_at 11 = .ok (.iload_n 1, 1) := by decide +kernel
theorem dX0_at_12 : decode cX0_at 12 = .ok (.iaload, 1) := by decide +kernel
theorem dX0_at_13 : decode cX0_at 13 = .ok (.goto 4, 3) := by decide +kernel
theorem dX0_at_16 : decode cX0_at 16 = .ok (.iconst 0, 1) := by decide +kernel
theorem dX0_at_17 : decode cX0_at 17 = .ok (.ireturn, 1) := by decide +kernel
theorem dX0_put_0 : decode cX0_put 0 = .ok (.iload_n 1, 1) := by decide +kernel
theorem dX0_put_1 : decode cX0_put 1 = .ok (.ifCond .lt 13, 3) := by decide +kernel
theorem dX0_put_4 : decode cX0_put 4 = .ok (.iload_n 1, 1) := by decide +kernel
theorem dX0_put_5 : decode cX0_put 5 = .ok (.aload_n 0, 1) := by decide +kernel
theorem dX0_put_6 : decode cX0_put 6 = .ok (.arraylength, 1) := by decide +kernel
theorem dX0_put_7 : decode cX0_put 7 = .ok (.if_icmp .ge 7, 3) := by decide +kernel
theorem dX0_put_10 : decode cX0_put 10 = .ok (.aload_n 0, 1) := by decide +kernel
theorem dX0_put_11 : decode cX0_put 11 = .ok (.iload_n 1, 1) := by decide +kernel
theorem dX0_put_12 : decode cX0_put 12 = .ok (.iload_n 2, 1) := by decide +kernel
theorem dX0_put_13 : decode cX0_put 13 = .ok (.iastore, 1) := by decide +kernel
theorem dX0_put_14 : decode cX0_put 14 = .ok (.return_, 1) := by decide +kernel
theorem dX1_init_0 : decode cX1_init 0 = .ok (.aload_n 0, 1) := by decide +kernel
theorem dX1_init_1 : decode cX1_init 1 = .ok (.invokespecial 1, 3) := by decide +kernel
theorem dX1_init_4 : decode cX1_init 4 = .ok (.aload_n 0, 1) := by decide +kernel
theorem dX1_init_5 : decode cX1_init 5 = .ok (.sipush 2064, 3) := by decide +kernel
theorem dX1_init_8 : decode cX1_init 8 = .ok (.newarray .int, 2) := by decide +kernel
theorem dX1_init_10 : decode cX1_init 10 = .ok (.putfield 7, 3) := by decide +kernel
theorem dX1_init_13 : decode cX1_init 13 = .ok (.aload_n 0, 1) := by decide +kernel
theorem dX1_init_14 : decode cX1_init 14 = .ok (.sipush 2064, 3) := by decide +kernel
theorem dX1_init_17 : decode cX1_init 17 = .ok (.newarray .int, 2) := by decide +kernel
theorem dX1_init_19 : decode cX1_init 19 = .ok (.putfield 13, 3) := by decide +kernel
theorem dX1_init_22 : decode cX1_init 22 = .ok (.aload_n 0, 1) := by decide +kernel
theorem dX1_init_23 : decode cX1_init 23 = .ok (.sipush 2064, 3) := by decide +kernel
theorem dX1_init_26 : decode cX1_init 26 = .ok (.newarray .int, 2) := by decide +kernel
theorem dX1_init_28 : decode cX1_init 28 = .ok (.putfield 16, 3) := by decide +kernel
theorem dX1_init_31 : decode cX1_init 31 = .ok (.aload_n 0, 1) := by decide +kernel
theorem dX1_init_32 : decode cX1_init 32 = .ok (.sipush 2064, 3) := by decide +kernel
theorem dX1_init_35 : decode cX1_init 35 = .ok (.newarray .boolean, 2) := by decide +kernel
theorem dX1_init_37 : decode cX1_init 37 = .ok (.putfield 19, 3) := by decide +kernel
theorem dX1_init_40 : decode cX1_init 40 = .ok (.iload_n 1, 1) := by decide +kernel
theorem dX1_init_41 : decode cX1_init 41 = .ok (.iconst 1, 1) := by decide +kernel
theorem dX1_init_42 : decode cX1_init 42 = .ok (.if_icmp .ge 7, 3) := by decide +kernel
theorem dX1_init_45 : decode cX1_init 45 = .ok (.iconst 1, 1) := by decide +kernel
theorem dX1_init_46 : decode cX1_init 46 = .ok (.goto 15, 3) := by decide +kernel
theorem dX1_init_49 : decode cX1_init 49 = .ok (.iload_n 1, 1) := by decide +kernel
theorem dX1_init_50 : decode cX1_init 50 = .ok (.bipush 64, 2) := by decide +kernel
theorem dX1_init_52 : decode cX1_init 52 = .ok (.if_icmp .le 8, 3) := by decide +kernel
end
section
theorem dX1_init_55 : decode cX1_init 55 = .ok (.bipush 64, 2) := by decide +kernel
theorem dX1_init_57 : decode cX1_init 57 = .ok (.goto 4, 3) := by decide +kernel
theorem dX1_init_60 : decode cX1_init 60 = .ok (.iload_n 1, 1) := by decide +kernel
theorem dX1_init_61 : decode cX1_init 61 = .ok (.istore_n 3, 1) := by decide +kernel
theorem dX1_init_62 : decode cX1_init 62 = .ok (.iload_n 2, 1) := by decide +kernel
theorem dX1_init_63 : decode cX1_init 63 = .ok (.iconst 1, 1) := by decide +kernel
theorem dX1_init_64 : decode cX1_init 64 = .ok (.if_icmp .ge 7, 3) := by decide +kernel
theorem dX1_init_67 : decode cX1_init 67 = .ok (.iconst 1, 1) := by decide +kernel
theorem dX1_init_68 : decode cX1_init 68 = .ok (.goto 17, 3) := by decide +kernel
theorem dX1_init_71 : decode cX1_init 71 = .ok (.iload_n 2, 1) := by decide +kernel
theorem dX1_init_72 : decode cX1_init 72 = .ok (.sipush 2000, 3) := by decide +kernel
theorem dX1_init_75 : decode cX1_init 75 = .ok (.if_icmp .le 9, 3) := by decide +kernel
theorem dX1_init_78 : decode cX1_init 78 = .ok (.sipush 2000, 3) := by decide +kernel
theorem dX1_init_81 : decode cX1_init 81 = .ok (.goto 4, 3) := by decide +kernel
theorem dX1_init_84 : decode cX1_init 84 = .ok (.iload_n 2, 1) := by decide +kernel
theorem dX1_init_85 : decode cX1_init 85 = .ok (.istore 4, 2) := by decide +kernel
theorem dX1_init_87 : decode cX1_init 87 = .ok (.aload_n 0, 1) := by decide +kernel
theorem dX1_init_88 : decode cX1_init 88 = .ok (.iload_n 3, 1) := by decide +kernel
theorem dX1_init_89 : decode cX1_init 89 = .ok (.putfield 23, 3) := by decide +kernel
theorem dX1_init_92 : decode cX1_init 92 = .ok (.aload_n 0, 1) := by decide +kernel
theorem dX1_init_93 : decode cX1_init 93 = .ok (.iload_n 3, 1) := by decide +kernel
theorem dX1_init_94 : decode cX1_init 94 = .ok (.iload 4, 2) := by decide +kernel
theorem dX1_init_96 : decode cX1_init 96 = .ok (.iload_n 3, 1) := by decide +kernel
theorem dX1_init_97 : decode cX1_init 97 = .ok (.idiv, 1) := by decide +kernel
theorem dX1_init_98 : decode cX1_init 98 = .ok (.iconst 1, 1) := by decide +kernel
theorem dX1_init_99 : decode cX1_init 99 = .ok (.iadd, 1) := by decide +kernel
theorem dX1_init_100 : decode cX1_init 100 = .ok (.imul, 1) := by decide +kernel
theorem dX1_init_101 : decode cX1_init 101 = .ok (.putfield 27, 3) := by decide +kernel
theorem dX1_init_104 : decode cX1_init 104 = .ok (.return_, 1) := by decide +kernel
theorem dX1_thrown_0 : decode cX1_thrown 0 = .ok (.aload_n 0, 1) := by decide +kernel
theorem dX1_thrown_1 : decode cX1_thrown 1 = .ok (.getfield 30, 3) := by decide +kernel
theorem dX1_thrown_4 : decode cX1_thrown 4 = .ok (.ireturn, 1) := by decide +kernel
theorem dX1_reset_0 : decode cX1_reset 0 = .ok (.aload_n 0, 1) := by decide +kernel
theorem dX1_reset_1 : decode cX1_reset 1 = .ok (.iconst 0, 1) := by decide +kernel
theorem dX1_reset_2 : decode cX1_reset 2 = .ok (.putfield 30, 3) := by decide +kernel
theorem dX1_reset_5 : decode cX1_reset 5 = .ok (.aload_n 0, 1) := by decide +kernel
theorem dX1_reset_6 : decode cX1_reset 6 = .ok (.iconst 0, 1) := by decide +kernel
theorem dX1_reset_7 : decode cX1_reset 7 = .ok (.putfield 33, 3) := by decide +kernel
theorem dX1_reset_10 : decode cX1_reset 10 = .ok (.aload_n 0, 1) := by decide +kernel
theorem dX1_reset_11 : decode cX1_reset 11 = .ok (.iconst 0, 1) := by decide +kernel
theorem dX1_reset_12 : decode cX1_reset 12 = .ok (.putfield 36, 3) := by decide +kernel
theorem dX1_reset_15 : decode cX1_reset 15 = .ok (.aload_n 0, 1) := by decide +kernel
theorem dX1_reset_16 : decode cX1_reset 16 = .ok (.iconst 0, 1) := by decide +kernel
theorem dX1_reset_17 : decode cX1_reset 17 = .ok (.putfield 39, 3) := by decide +kernel
theorem dX1_reset_20 : decode cX1_reset 20 = .ok (.aload_n 0, 1) := by decide +kernel
theorem dX1_reset_21 : decode cX1_reset 21 = .ok (.iconst 0, 1) := by decide +kernel
theorem dX1_reset_22 : decode cX1_reset 22 = .ok (.putfield 42, 3) := by decide +kernel
theorem dX1_reset_25 : decode cX1_reset 25 = .ok (.aload_n 0, 1) := by decide +kernel
theorem dX1_reset_26 : decode cX1_reset 26 = .ok (.iconst 0, 1) := by decide +kernel
theorem dX1_reset_27 : decode cX1_reset 27 = .ok (.putfield 46, 3) := by decide +kernel
theorem dX1_reset_30 : decode cX1_reset 30 = .ok (.aload_n 0, 1) := by decide +kernel
theorem dX1_reset_31 : decode cX1_reset 31 = .ok (.iconst 0, 1) := by decide +kernel
theorem dX1_reset_32 : decode cX1_reset 32 = .ok (.putfield 49, 3) := by decide +kernel
theorem dX1_reset_35 : decode cX1_reset 35 = .ok (.return_, 1) := by decide +kernel
theorem dX1_take_0 : decode cX1_take 0 = .ok (.aload_n 0, 1) := by decide +kernel
theorem dX1_take_1 : decode cX1_take 1 = .ok (.getfield 39, 3) := by decide +kernel
theorem dX1_take_4 : decode cX1_take 4 = .ok (.aload_n 0, 1) := by decide +kernel
theorem dX1_take_5 : decode cX1_take 5 = .ok (.getfield 23, 3) := by decide +kernel
theorem dX1_take_8 : decode cX1_take 8 = .ok (.if_icmp .ne 18, 3) := by decide +kernel
theorem dX1_take_11 : decode cX1_take 11 = .ok (.aload_n 0, 1) := by decide +kernel
theorem dX1_take_12 : decode cX1_take 12 = .ok (.dup, 1) := by decide +kernel
theorem dX1_take_13 : decode cX1_take 13 = .ok (.getfield 36, 3) := by decide +kernel
theorem dX1_take_16 : decode cX1_take 16 = .ok (.iconst 1, 1) := by decide +kernel
theorem dX1_take_17 : decode cX1_take 17 = .ok (.iadd, 1) := by decide +kernel
theorem dX1_take_18 : decode cX1_take 18 = .ok (.putfield 36, 3) := by decide +kernel
theorem dX1_take_21 : decode cX1_take 21 = .ok (.aload_n 0, 1) := by decide +kernel
theorem dX1_take_22 : decode cX1_take 22 = .ok (.iconst 0, 1) := by decide +kernel
theorem dX1_take_23 : decode cX1_take 23 = .ok (.putfield 39, 3) := by decide +kernel
theorem dX1_take_26 : decode cX1_take 26 = .ok (.aload_n 0, 1) := by decide +kernel
theorem dX1_take_27 : decode cX1_take 27 = .ok (.getfield 7, 3) := by decide +kernel
theorem dX1_take_30 : decode cX1_take 30 = .ok (.aload_n 0, 1) := by decide +kernel
theorem dX1_take_31 : decode cX1_take 31 = .ok (.getfield 33, 3) := by decide +kernel
theorem dX1_take_34 : decode cX1_take 34 = .ok (.iload_n 1, 1) := by decide +kernel
theorem dX1_take_35 : decode cX1_take 35 = .ok (.iastore, 1) := by decide +kernel
theorem dX1_take_36 : decode cX1_take 36 = .ok (.aload_n 0, 1) := by decide +kernel
theorem dX1_take_37 : decode cX1_take 37 = .ok (.getfield 13, 3) := by decide +kernel
theorem dX1_take_40 : decode cX1_take 40 = .ok (.aload_n 0, 1) := by decide +kernel
theorem dX1_take_41 : decode cX1_take 41 = .ok (.getfield 33, 3) := by decide +kernel
theorem dX1_take_44 : decode cX1_take 44 = .ok (.iload_n 2, 1) := by decide +kernel
theorem dX1_take_45 : decode cX1_take 45 = .ok (.iastore, 1) := by decide +kernel
theorem dX1_take_46 : decode cX1_take 46 = .ok (.aload_n 0, 1) := by decide +kernel
theorem dX1_take_47 : decode cX1_take 47 = .ok (.dup, 1) := by decide +kernel
theorem dX1_take_48 : decode cX1_take 48 = .ok (.getfield 33, 3) := by decide +kernel
theorem dX1_take_51 : decode cX1_take 51 = .ok (.iconst 1, 1) := by decide +kernel
theorem dX1_take_52 : decode cX1_take 52 = .ok (.iadd, 1) := by decide +kernel
theorem dX1_take_53 : decode cX1_take 53 = .ok (.putfield 33, 3) := by decide +kernel
theorem dX1_take_56 : decode cX1_take 56 = .ok (.aload_n 0, 1) := by decide +kernel
theorem dX1_take_57 : decode cX1_take 57 = .ok (.dup, 1) := by decide +kernel
theorem dX1_take_58 : decode cX1_take 58 = .ok (.getfield 39, 3) := by decide +kernel
theorem dX1_take_61 : decode cX1_take 61 = .ok (.iconst 1, 1) := by decide +kernel
theorem dX1_take_62 : decode cX1_take 62 = .ok (.iadd, 1) := by decide +kernel
theorem dX1_take_63 : decode cX1_take 63 = .ok (.putfield 39, 3) := by decide +kernel
theorem dX1_take_66 : decode cX1_take 66 = .ok (.return_, 1) := by decide +kernel
theorem dX1_feed_0 : decode cX1_feed 0 = .ok (.aload_n 0, 1) := by decide +kernel
theorem dX1_feed_1 : decode cX1_feed 1 = .ok (.iconst 0, 1) := by decide +kernel
theorem dX1_feed_2 : decode cX1_feed 2 = .ok (.putfield 30, 3) := by decide +kernel
theorem dX1_feed_5 : decode cX1_feed 5 = .ok (.aload_n 0, 1) := by decide +kernel
theorem dX1_feed_6 : decode cX1_feed 6 = .ok (.getfield 42, 3) := by decide +kernel
theorem dX1_feed_9 : decode cX1_feed 9 = .ok (.ifCond .eq 6, 3) := by decide +kernel
theorem dX1_feed_12 : decode cX1_feed 12 = .ok (.bipush (-3), 2) := by decide +kernel
theorem dX1_feed_14 : decode cX1_feed 14 = .ok (.ireturn, 1) := by decide +kernel
theorem dX1_feed_15 : decode cX1_feed 15 = .ok (.aload_n 0, 1) := by decide +kernel
theorem dX1_feed_16 : decode cX1_feed 16 = .ok (.getfield 33, 3) := by decide +kernel
theorem dX1_feed_19 : decode cX1_feed 19 = .ok (.aload_n 0, 1) := by decide +kernel
theorem dX1_feed_20 : decode cX1_feed 20 = .ok (.getfield 27, 3) := by decide +kernel
theorem dX1_feed_23 : decode cX1_feed 23 = .ok (.if_icmp .ne 6, 3) := by decide +kernel
theorem dX1_feed_26 : decode cX1_feed 26 = .ok (.bipush (-2), 2) := by decide +kernel
theorem dX1_feed_28 : decode cX1_feed 28 = .ok (.ireturn, 1) := by decide +kernel
theorem dX1_feed_29 : decode cX1_feed 29 = .ok (.aload_n 0, 1) := by decide +kernel
theorem dX1_feed_30 : decode cX1_feed 30 = .ok (.iload_n 1, 1) := by decide +kernel
theorem dX1_feed_31 : decode cX1_feed 31 = .ok (.iload_n 2, 1) := by decide +kernel
theorem dX1_feed_32 : decode cX1_feed 32 = .ok (.invokevirtual 52, 3) := by decide +kernel
theorem dX1_feed_35 : decode cX1_feed 35 = .ok (.iconst 0, 1) := by decide +kernel
theorem dX1_feed_36 : decode cX1_feed 36 = .ok (.ireturn, 1) := by decide +kernel
theorem dX1_feedMany_0 : decode cX1_feedMany 0 = .ok (.aload_n 0, 1) := by decide +kernel
theorem dX1_feedMany_1 : decode cX1_feedMany 1 = .ok (.iload 4, 2) := by decide +kernel
theorem dX1_feedMany_3 : decode cX1_feedMany 3 = .ok (.ifCond .lt 11, 3) := by decide +kernel
theorem dX1_feedMany_6 : decode cX1_feedMany 6 = .ok (.iload 4, 2) := by decide +kernel
theorem dX1_feedMany_8 : decode cX1_feedMany 8 = .ok (.sipush 200, 3) := by decide +kernel
theorem dX1_feedMany_11 : decode cX1_feedMany 11 = .ok (.if_icmp .le 7, 3) := by decide +kernel
theorem dX1_feedMany_14 : decode cX1_feedMany 14 = .ok (.iconst 1, 1) := by decide +kernel
theorem dX1_feedMany_15 : decode cX1_feedMany 15 = .ok (.goto 4, 3) := by decide +kernel
theorem dX1_feedMany_18 : decode cX1_feedMany 18 = .ok (.iconst 0, 1) := by decide +kernel
theorem dX1_feedMany_19 : decode cX1_feedMany 19 = .ok (.putfield 30, 3) := by decide +kernel
theorem dX1_feedMany_22 : decode cX1_feedMany 22 = .ok (.aload_n 0, 1) := by decide +kernel
theorem dX1_feedMany_23 : decode cX1_feedMany 23 = .ok (.getfield 30, 3) := by decide +kernel
theorem dX1_feedMany_26 : decode cX1_feedMany 26 = .ok (.ifCond .le 5, 3) := by decide +kernel
theorem dX1_feedMany_29 : decode cX1_feedMany 29 = .ok (.iconst 0, 1) := by decide +kernel
theorem dX1_feedMany_30 : decode cX1_feedMany 30 = .ok (.ireturn, 1) := by decide +kernel
theorem dX1_feedMany_31 : decode cX1_feedMany 31 = .ok (.aload_n 0, 1) := by decide +kernel
theorem dX1_feedMany_32 : decode cX1_feedMany 32 = .ok (.getfield 42, 3) := by decide +kernel
theorem dX1_feedMany_35 : decode cX1_feedMany 35 = .ok (.ifCond .eq 6, 3) := by decide +kernel
theorem dX1_feedMany_38 : decode cX1_feedMany 38 = .ok (.bipush (-3), 2) := by decide +kernel
theorem dX1_feedMany_40 : decode cX1_feedMany 40 = .ok (.ireturn, 1) := by decide +kernel
theorem dX1_feedMany_41 : decode cX1_feedMany 41 = .ok (.iconst 0, 1) := by decide +kernel
theorem dX1_feedMany_42 : decode cX1_feedMany 42 = .ok (.istore 5, 2) := by decide +kernel
theorem dX1_feedMany_44 : decode cX1_feedMany 44 = .ok (.iload 5, 2) := by decide +kernel
theorem dX1_feedMany_46 : decode cX1_feedMany 46 = .ok (.iload 4, 2) := by decide +kernel
theorem dX1_feedMany_48 : decode cX1_feedMany 48 = .ok (.if_icmp .ge 34, 3) := by decide +kernel
theorem dX1_feedMany_51 : decode cX1_feedMany 51 = .ok (.aload_n 0, 1) := by decide +kernel
theorem dX1_feedMany_52 : decode cX1_feedMany 52 = .ok (.getfield 33, 3) := by decide +kernel
theorem dX1_feedMany_55 : decode cX1_feedMany 55 = .ok (.aload_n 0, 1) := by decide +kernel
theorem dX1_feedMany_56 : decode cX1_feedMany 56 = .ok (.getfield 27, 3) := by decide +kernel
theorem dX1_feedMany_59 : decode cX1_feedMany 59 = .ok (.if_icmp .ge 23, 3) := by decide +kernel
theorem dX1_feedMany_62 : decode cX1_feedMany 62 = .ok (.aload_n 0, 1) := by decide +kernel
theorem dX1_feedMany_63 : decode cX1_feedMany 63 = .ok (.iload_n 1, 1) := by decide +kernel
theorem dX1_feedMany_64 : decode cX1_feedMany 64 = .ok (.iload 5, 2) := by decide +kernel
theorem dX1_feedMany_66 : decode cX1_feedMany 66 = .ok (.iload_n 2, 1) := by decide +kernel
theorem dX1_feedMany_67 : decode cX1_feedMany 67 = .ok (.imul, 1) := by decide +kernel
theorem dX1_feedMany_68 : decode cX1_feedMany 68 = .ok (.iadd, 1) := by decide +kernel
theorem dX1_feedMany_69 : decode cX1_feedMany 69 = .ok (.iload_n 3, 1) := by decide +kernel
theorem dX1_feedMany_70 : decode cX1_feedMany 70 = .ok (.iload 5, 2) := by decide +kernel
theorem dX1_feedMany_72 : decode cX1_feedMany 72 = .ok (.iadd, 1) := by decide +kernel
theorem dX1_feedMany_73 : decode cX1_feedMany 73 = .ok (.invokevirtual 52, 3) := by decide +kernel
theorem dX1_feedMany_76 : decode cX1_feedMany 76 = .ok (.iinc 5 1, 3) := by decide +kernel
theorem dX1_feedMany_79 : decode cX1_feedMany 79 = .ok (.goto (-35), 3) := by decide +kernel
theorem dX1_feedMany_82 : decode cX1_feedMany 82 = .ok (.iload 5, 2) := by decide +kernel
theorem dX1_feedMany_84 : decode cX1_feedMany 84 = .ok (.ireturn, 1) := by decide +kernel
theorem dX1_seal_0 : decode cX1_seal 0 = .ok (.aload_n 0, 1) := by decide +kernel
theorem dX1_seal_1 : decode cX1_seal 1 = .ok (.iconst 0, 1) := by decide +kernel
theorem dX1_seal_2 : decode cX1_seal 2 = .ok (.putfield 30, 3) := by decide +kernel
theorem dX1_seal_5 : decode cX1_seal 5 = .ok (.aload_n 0, 1) := by decide +kernel
theorem dX1_seal_6 : decode cX1_seal 6 = .ok (.getfield 42, 3) := by decide +kernel
theorem dX1_seal_9 : decode cX1_seal 9 = .ok (.ifCond .eq 6, 3) := by decide +kernel
theorem dX1_seal_12 : decode cX1_seal 12 = .ok (.bipush (-3), 2) := by decide +kernel
theorem dX1_seal_14 : decode cX1_seal 14 = .ok (.ireturn, 1) := by decide +kernel
theorem dX1_seal_15 : decode cX1_seal 15 = .ok (.aload_n 0, 1) := by decide +kernel
theorem dX1_seal_16 : decode cX1_seal 16 = .ok (.iconst 1, 1) := by decide +kernel
theorem dX1_seal_17 : decode cX1_seal 17 = .ok (.putfield 42, 3) := by decide +kernel
theorem dX1_seal_20 : decode cX1_seal 20 = .ok (.aload_n 0, 1) := by decide +kernel
theorem dX1_seal_21 : decode cX1_seal 21 = .ok (.iconst 0, 1) := by decide +kernel
theorem dX1_seal_22 : decode cX1_seal 22 = .ok (.putfield 46, 3) := by decide +kernel
theorem dX1_seal_25 : decode cX1_seal 25 = .ok (.aload_n 0, 1) := by decide +kernel
theorem dX1_seal_26 : decode cX1_seal 26 = .ok (.iconst 0, 1) := by decide +kernel
theorem dX1_seal_27 : decode cX1_seal 27 = .ok (.putfield 49, 3) := by decide +kernel
theorem dX1_seal_30 : decode cX1_seal 30 = .ok (.iconst 0, 1) := by decide +kernel
theorem dX1_seal_31 : decode cX1_seal 31 = .ok (.istore_n 1, 1) := by decide +kernel
theorem dX1_seal_32 : decode cX1_seal 32 = .ok (.iload_n 1, 1) := by decide +kernel
theorem dX1_seal_33 : decode cX1_seal 33 = .ok (.aload_n 0, 1) := by decide +kernel
theorem dX1_seal_34 : decode cX1_seal 34 = .ok (.getfield 33, 3) := by decide +kernel
theorem dX1_seal_37 : decode cX1_seal 37 = .ok (.if_icmp .ge 64, 3) := by decide +kernel
theorem dX1_seal_40 : decode cX1_seal 40 = .ok (.iload_n 1, 1) := by decide +kernel
theorem dX1_seal_41 : decode cX1_seal 41 = .ok (.istore_n 2, 1) := by decide +kernel
theorem dX1_seal_42 : decode cX1_seal 42 = .ok (.iload_n 2, 1) := by decide +kernel
theorem dX1_seal_43 : decode cX1_seal 43 = .ok (.ifCond .le 45, 3) := by decide +kernel
theorem dX1_seal_46 : decode cX1_seal 46 = .ok (.aload_n 0, 1) := by decide +kernel
theorem dX1_seal_47 : decode cX1_seal 47 = .ok (.getfield 7, 3) := by decide +kernel
theorem dX1_seal_50 : decode cX1_seal 50 = .ok (.aload_n 0, 1) := by decide +kernel
theorem dX1_seal_51 : decode cX1_seal 51 = .ok (.getfield 16, 3) := by decide +kernel
theorem dX1_seal_54 : decode cX1_seal 54 = .ok (.iload_n 2, 1) := by decide +kernel
theorem dX1_seal_55 : decode cX1_seal 55 = .ok (.iconst 1, 1) := by decide +kernel
theorem dX1_seal_56 : decode cX1_seal 56 = .ok (.isub, 1) := by decide +kernel
theorem dX1_seal_57 : decode cX1_seal 57 = .ok (.iaload, 1) := by decide +kernel
theorem dX1_seal_58 : decode cX1_seal 58 = .ok (.iaload, 1) := by decide +kernel
theorem dX1_seal_59 : decode cX1_seal 59 = .ok (.aload_n 0, 1) := by decide +kernel
theorem dX1_seal_60 : decode cX1_seal 60 = .ok (.getfield 7, 3) := by decide +kernel
theorem dX1_seal_63 : decode cX1_seal 63 = .ok (.iload_n 1, 1) := by decide +kernel
theorem dX1_seal_64 : decode cX1_seal 64 = .ok (.iaload, 1) := by decide +kernel
theorem dX1_seal_65 : decode cX1_seal 65 = .ok (.if_icmp .le 23, 3) := by decide +kernel
theorem dX1_seal_68 : decode cX1_seal 68 = .ok (.aload_n 0, 1) := by decide +kernel
theorem dX1_seal_69 : decode cX1_seal 69 = .ok (.getfield 16, 3) := by decide +kernel
theorem dX1_seal_72 : decode cX1_seal 72 = .ok (.iload_n 2, 1) := by decide +kernel
theorem dX1_seal_73 : decode cX1_seal 73 = .ok (.aload_n 0, 1) := by decide +kernel
theorem dX1_seal_74 : decode cX1_seal 74 = .ok (.getfield 16, 3) := by decide +kernel
theorem dX1_seal_77 : decode cX1_seal 77 = .ok (.iload_n 2, 1) := by decide +kernel
theorem dX1_seal_78 : decode cX1_seal 78 = .ok (.iconst 1, 1) := by decide +kernel
theorem dX1_seal_79 : decode cX1_seal 79 = .ok (.isub, 1) := by decide +kernel
theorem dX1_seal_80 : decode cX1_seal 80 = .ok (.iaload, 1) := by decide +kernel
theorem dX1_seal_81 : decode cX1_seal 81 = .ok (.iastore, 1) := by decide +kernel
theorem dX1_seal_82 : decode cX1_seal 82 = .ok (.iinc 2 (-1), 3) := by decide +kernel
theorem dX1_seal_85 : decode cX1_seal 85 = .ok (.goto (-43), 3) := by decide +kernel
theorem dX1_seal_88 : decode cX1_seal 88 = .ok (.aload_n 0, 1) := by decide +kernel
theorem dX1_seal_89 : decode cX1_seal 89 = .ok (.getfield 16, 3) := by decide +kernel
theorem dX1_seal_92 : decode cX1_seal 92 = .ok (.iload_n 2, 1) := by decide +kernel
theorem dX1_seal_93 : decode cX1_seal 93 = .ok (.iload_n 1, 1) := by decide +kernel
theorem dX1_seal_94 : decode cX1_seal 94 = .ok (.iastore, 1) := by decide +kernel
theorem dX1_seal_95 : decode cX1_seal 95 = .ok (.iinc 1 1, 3) := by decide +kernel
theorem dX1_seal_98 : decode cX1_seal 98 = .ok (.goto (-66), 3) := by decide +kernel
theorem dX1_seal_101 : decode cX1_seal 101 = .ok (.iconst 0, 1) := by decide +kernel
theorem dX1_seal_102 : decode cX1_seal 102 = .ok (.ireturn, 1) := by decide +kernel
theorem dX1_nextRow_0 : decode cX1_nextRow 0 = .ok (.aload_n 0, 1) := by decide +kernel
theorem dX1_nextRow_1 : decode cX1_nextRow 1 = .ok (.iconst 0, 1) := by decide +kernel
theorem dX1_nextRow_2 : decode cX1_nextRow 2 = .ok (.putfield 30, 3) := by decide +kernel
theorem dX1_nextRow_5 : decode cX1_nextRow 5 = .ok (.aload_n 0, 1) := by decide +kernel
theorem dX1_nextRow_6 : decode cX1_nextRow 6 = .ok (.getfield 42, 3) := by decide +kernel
theorem dX1_nextRow_9 : decode cX1_nextRow 9 = .ok (.ifCond .ne 6, 3) := by decide +kernel
theorem dX1_nextRow_12 : decode cX1_nextRow 12 = .ok (.bipush (-4), 2) := by decide +kernel
theorem dX1_nextRow_14 : decode cX1_nextRow 14 = .ok (.ireturn, 1) := by decide +kernel
theorem dX1_nextRow_15 : decode cX1_nextRow 15 = .ok (.aload_n 0, 1) := by decide +kernel
theorem dX1_nextRow_16 : decode cX1_nextRow 16 = .ok (.getfield 46, 3) := by decide +kernel
theorem dX1_nextRow_19 : decode cX1_nextRow 19 = .ok (.aload_n 0, 1) := by decide +kernel
theorem dX1_nextRow_20 : decode cX1_nextRow 20 = .ok (.getfield 33, 3) := by decide +kernel
theorem dX1_nextRow_23 : decode cX1_nextRow 23 = .ok (.if_icmp .ne 10, 3) := by decide +kernel
theorem dX1_nextRow_26 : decode cX1_nextRow 26 = .ok (.aload_n 0, 1) := by decide +kernel
theorem dX1_nextRow_27 : decode cX1_nextRow 27 = .ok (.iconst 0, 1) := by decide +kernel
theorem dX1_nextRow_28 : decode cX1_nextRow 28 = .ok (.putfield 49, 3) := by decide +kernel
theorem dX1_nextRow_31 : decode cX1_nextRow 31 = .ok (.iconst (-1), 1) := by decide +kernel
theorem dX1_nextRow_32 : decode cX1_nextRow 32 = .ok (.ireturn, 1) := by decide +kernel
theorem dX1_nextRow_33 : decode cX1_nextRow 33 = .ok (.aload_n 0, 1) := by decide +kernel
theorem dX1_nextRow_34 : decode cX1_nextRow 34 = .ok (.iconst 1, 1) := by decide +kernel
theorem dX1_nextRow_35 : decode cX1_nextRow 35 = .ok (.putfield 49, 3) := by decide +kernel
theorem dX1_nextRow_38 : decode cX1_nextRow 38 = .ok (.aload_n 0, 1) := by decide +kernel
theorem dX1_nextRow_39 : decode cX1_nextRow 39 = .ok (.aload_n 0, 1) := by decide +kernel
theorem dX1_nextRow_40 : decode cX1_nextRow 40 = .ok (.getfield 7, 3) := by decide +kernel
theorem dX1_nextRow_43 : decode cX1_nextRow 43 = .ok (.aload_n 0, 1) := by decide +kernel
theorem dX1_nextRow_44 : decode cX1_nextRow 44 = .ok (.getfield 16, 3) := by decide +kernel
theorem dX1_nextRow_47 : decode cX1_nextRow 47 = .ok (.aload_n 0, 1) := by decide +kernel
theorem dX1_nextRow_48 : decode cX1_nextRow 48 = .ok (.getfield 46, 3) := by decide +kernel
theorem dX1_nextRow_51 : decode cX1_nextRow 51 = .ok (.iaload, 1) := by decide +kernel
theorem dX1_nextRow_52 : decode cX1_nextRow 52 = .ok (.iaload, 1) := by decide +kernel
end
section
theorem dX1_nextRow_53 : decode cX1_nextRow 53 = .ok (.putfield 56, 3) := by decide +kernel
theorem dX1_nextRow_56 : decode cX1_nextRow 56 = .ok (.aload_n 0, 1) := by decide +kernel
theorem dX1_nextRow_57 : decode cX1_nextRow 57 = .ok (.aload_n 0, 1) := by decide +kernel
theorem dX1_nextRow_58 : decode cX1_nextRow 58 = .ok (.getfield 13, 3) := by decide +kernel
theorem dX1_nextRow_61 : decode cX1_nextRow 61 = .ok (.aload_n 0, 1) := by decide +kernel
theorem dX1_nextRow_62 : decode cX1_nextRow 62 = .ok (.getfield 16, 3) := by decide +kernel
theorem dX1_nextRow_65 : decode cX1_nextRow 65 = .ok (.aload_n 0, 1) := by decide +kernel
theorem dX1_nextRow_66 : decode cX1_nextRow 66 = .ok (.getfield 46, 3) := by decide +kernel
theorem dX1_nextRow_69 : decode cX1_nextRow 69 = .ok (.iaload, 1) := by decide +kernel
theorem dX1_nextRow_70 : decode cX1_nextRow 70 = .ok (.iaload, 1) := by decide +kernel
theorem dX1_nextRow_71 : decode cX1_nextRow 71 = .ok (.putfield 59, 3) := by decide +kernel
theorem dX1_nextRow_74 : decode cX1_nextRow 74 = .ok (.aload_n 0, 1) := by decide +kernel
theorem dX1_nextRow_75 : decode cX1_nextRow 75 = .ok (.dup, 1) := by decide +kernel
theorem dX1_nextRow_76 : decode cX1_nextRow 76 = .ok (.getfield 46, 3) := by decide +kernel
theorem dX1_nextRow_79 : decode cX1_nextRow 79 = .ok (.iconst 1, 1) := by decide +kernel
theorem dX1_nextRow_80 : decode cX1_nextRow 80 = .ok (.iadd, 1) := by decide +kernel
theorem dX1_nextRow_81 : decode cX1_nextRow 81 = .ok (.putfield 46, 3) := by decide +kernel
theorem dX1_nextRow_84 : decode cX1_nextRow 84 = .ok (.iconst 1, 1) := by decide +kernel
theorem dX1_nextRow_85 : decode cX1_nextRow 85 = .ok (.ireturn, 1) := by decide +kernel
theorem dX1_nextGroup_0 : decode cX1_nextGroup 0 = .ok (.aload_n 0, 1) := by decide +kernel
theorem dX1_nextGroup_1 : decode cX1_nextGroup 1 = .ok (.iconst 0, 1) := by decide +kernel
theorem dX1_nextGroup_2 : decode cX1_nextGroup 2 = .ok (.putfield 30, 3) := by decide +kernel
theorem dX1_nextGroup_5 : decode cX1_nextGroup 5 = .ok (.aload_n 0, 1) := by decide +kernel
theorem dX1_nextGroup_6 : decode cX1_nextGroup 6 = .ok (.getfield 42, 3) := by decide +kernel
theorem dX1_nextGroup_9 : decode cX1_nextGroup 9 = .ok (.ifCond .ne 6, 3) := by decide +kernel
theorem dX1_nextGroup_12 : decode cX1_nextGroup 12 = .ok (.bipush (-4), 2) := by decide +kernel
theorem dX1_nextGroup_14 : decode cX1_nextGroup 14 = .ok (.ireturn, 1) := by decide +kernel
theorem dX1_nextGroup_15 : decode cX1_nextGroup 15 = .ok (.aload_n 0, 1) := by decide +kernel
theorem dX1_nextGroup_16 : decode cX1_nextGroup 16 = .ok (.getfield 46, 3) := by decide +kernel
theorem dX1_nextGroup_19 : decode cX1_nextGroup 19 = .ok (.aload_n 0, 1) := by decide +kernel
theorem dX1_nextGroup_20 : decode cX1_nextGroup 20 = .ok (.getfield 33, 3) := by decide +kernel
theorem dX1_nextGroup_23 : decode cX1_nextGroup 23 = .ok (.if_icmp .ne 10, 3) := by decide +kernel
theorem dX1_nextGroup_26 : decode cX1_nextGroup 26 = .ok (.aload_n 0, 1) := by decide +kernel
theorem dX1_nextGroup_27 : decode cX1_nextGroup 27 = .ok (.iconst 0, 1) := by decide +kernel
theorem dX1_nextGroup_28 : decode cX1_nextGroup 28 = .ok (.putfield 49, 3) := by decide +kernel
theorem dX1_nextGroup_31 : decode cX1_nextGroup 31 = .ok (.iconst (-1), 1) := by decide +kernel
theorem dX1_nextGroup_32 : decode cX1_nextGroup 32 = .ok (.ireturn, 1) := by decide +kernel
theorem dX1_nextGroup_33 : decode cX1_nextGroup 33 = .ok (.aload_n 0, 1) := by decide +kernel
theorem dX1_nextGroup_34 : decode cX1_nextGroup 34 = .ok (.iconst 2, 1) := by decide +kernel
theorem dX1_nextGroup_35 : decode cX1_nextGroup 35 = .ok (.putfield 49, 3) := by decide +kernel
theorem dX1_nextGroup_38 : decode cX1_nextGroup 38 = .ok (.aload_n 0, 1) := by decide +kernel
theorem dX1_nextGroup_39 : decode cX1_nextGroup 39 = .ok (.aload_n 0, 1) := by decide +kernel
theorem dX1_nextGroup_40 : decode cX1_nextGroup 40 = .ok (.getfield 7, 3) := by decide +kernel
theorem dX1_nextGroup_43 : decode cX1_nextGroup 43 = .ok (.aload_n 0, 1) := by decide +kernel
theorem dX1_nextGroup_44 : decode cX1_nextGroup 44 = .ok (.getfield 16, 3) := by decide +kernel
theorem dX1_nextGroup_47 : decode cX1_nextGroup 47 = .ok (.aload_n 0, 1) := by decide +kernel
theorem dX1_nextGroup_48 : decode cX1_nextGroup 48 = .ok (.getfield 46, 3) := by decide +kernel
theorem dX1_nextGroup_51 : decode cX1_nextGroup 51 = .ok (.iaload, 1) := by decide +kernel
theorem dX1_nextGroup_52 : decode cX1_nextGroup 52 = .ok (.iaload, 1) := by decide +kernel
theorem dX1_nextGroup_53 : decode cX1_nextGroup 53 = .ok (.putfield 56, 3) := by decide +kernel
theorem dX1_nextGroup_56 : decode cX1_nextGroup 56 = .ok (.aload_n 0, 1) := by decide +kernel
theorem dX1_nextGroup_57 : decode cX1_nextGroup 57 = .ok (.iconst 0, 1) := by decide +kernel
theorem dX1_nextGroup_58 : decode cX1_nextGroup 58 = .ok (.putfield 62, 3) := by decide +kernel
theorem dX1_nextGroup_61 : decode cX1_nextGroup 61 = .ok (.aload_n 0, 1) := by decide +kernel
theorem dX1_nextGroup_62 : decode cX1_nextGroup 62 = .ok (.iconst 0, 1) := by decide +kernel
theorem dX1_nextGroup_63 : decode cX1_nextGroup 63 = .ok (.putfield 65, 3) := by decide +kernel
theorem dX1_nextGroup_66 : decode cX1_nextGroup 66 = .ok (.aload_n 0, 1) := by decide +kernel
theorem dX1_nextGroup_67 : decode cX1_nextGroup 67 = .ok (.getfield 46, 3) := by decide +kernel
theorem dX1_nextGroup_70 : decode cX1_nextGroup 70 = .ok (.aload_n 0, 1) := by decide +kernel
theorem dX1_nextGroup_71 : decode cX1_nextGroup 71 = .ok (.getfield 33, 3) := by decide +kernel
theorem dX1_nextGroup_74 : decode cX1_nextGroup 74 = .ok (.if_icmp .ge 126, 3) := by decide +kernel
theorem dX1_nextGroup_77 : decode cX1_nextGroup 77 = .ok (.aload_n 0, 1) := by decide +kernel
theorem dX1_nextGroup_78 : decode cX1_nextGroup 78 = .ok (.getfield 7, 3) := by decide +kernel
theorem dX1_nextGroup_81 : decode cX1_nextGroup 81 = .ok (.aload_n 0, 1) := by decide +kernel
theorem dX1_nextGroup_82 : decode cX1_nextGroup 82 = .ok (.getfield 16, 3) := by decide +kernel
theorem dX1_nextGroup_85 : decode cX1_nextGroup 85 = .ok (.aload_n 0, 1) := by decide +kernel
theorem dX1_nextGroup_86 : decode cX1_nextGroup 86 = .ok (.getfield 46, 3) := by decide +kernel
theorem dX1_nextGroup_89 : decode cX1_nextGroup 89 = .ok (.iaload, 1) := by decide +kernel
theorem dX1_nextGroup_90 : decode cX1_nextGroup 90 = .ok (.iaload, 1) := by decide +kernel
theorem dX1_nextGroup_91 : decode cX1_nextGroup 91 = .ok (.aload_n 0, 1) := by decide +kernel
theorem dX1_nextGroup_92 : decode cX1_nextGroup 92 = .ok (.getfield 56, 3) := by decide +kernel
theorem dX1_nextGroup_95 : decode cX1_nextGroup 95 = .ok (.if_icmp .ne 105, 3) := by decide +kernel
theorem dX1_nextGroup_98 : decode cX1_nextGroup 98 = .ok (.aload_n 0, 1) := by decide +kernel
theorem dX1_nextGroup_99 : decode cX1_nextGroup 99 = .ok (.getfield 13, 3) := by decide +kernel
theorem dX1_nextGroup_102 : decode cX1_nextGroup 102 = .ok (.aload_n 0, 1) := by decide +kernel
theorem dX1_nextGroup_103 : decode cX1_nextGroup 103 = .ok (.getfield 16, 3) := by decide +kernel
theorem dX1_nextGroup_106 : decode cX1_nextGroup 106 = .ok (.aload_n 0, 1) := by decide +kernel
theorem dX1_nextGroup_107 : decode cX1_nextGroup 107 = .ok (.getfield 46, 3) := by decide +kernel
theorem dX1_nextGroup_110 : decode cX1_nextGroup 110 = .ok (.iaload, 1) := by decide +kernel
theorem dX1_nextGroup_111 : decode cX1_nextGroup 111 = .ok (.iaload, 1) := by decide +kernel
theorem dX1_nextGroup_112 : decode cX1_nextGroup 112 = .ok (.istore_n 1, 1) := by decide +kernel
theorem dX1_nextGroup_113 : decode cX1_nextGroup 113 = .ok (.aload_n 0, 1) := by decide +kernel
theorem dX1_nextGroup_114 : decode cX1_nextGroup 114 = .ok (.aload_n 0, 1) := by decide +kernel
theorem dX1_nextGroup_115 : decode cX1_nextGroup 115 = .ok (.getfield 62, 3) := by decide +kernel
theorem dX1_nextGroup_118 : decode cX1_nextGroup 118 = .ok (.ifCond .eq 11, 3) := by decide +kernel
theorem dX1_nextGroup_121 : decode cX1_nextGroup 121 = .ok (.iload_n 1, 1) := by decide +kernel
theorem dX1_nextGroup_122 : decode cX1_nextGroup 122 = .ok (.aload_n 0, 1) := by decide +kernel
theorem dX1_nextGroup_123 : decode cX1_nextGroup 123 = .ok (.getfield 68, 3) := by decide +kernel
theorem dX1_nextGroup_126 : decode cX1_nextGroup 126 = .ok (.if_icmp .ge 7, 3) := by decide +kernel
theorem dX1_nextGroup_129 : decode cX1_nextGroup 129 = .ok (.iload_n 1, 1) := by decide +kernel
theorem dX1_nextGroup_130 : decode cX1_nextGroup 130 = .ok (.goto 7, 3) := by decide +kernel
theorem dX1_nextGroup_133 : decode cX1_nextGroup 133 = .ok (.aload_n 0, 1) := by decide +kernel
theorem dX1_nextGroup_134 : decode cX1_nextGroup 134 = .ok (.getfield 68, 3) := by decide +kernel
theorem dX1_nextGroup_137 : decode cX1_nextGroup 137 = .ok (.putfield 68, 3) := by decide +kernel
theorem dX1_nextGroup_140 : decode cX1_nextGroup 140 = .ok (.aload_n 0, 1) := by decide +kernel
theorem dX1_nextGroup_141 : decode cX1_nextGroup 141 = .ok (.aload_n 0, 1) := by decide +kernel
theorem dX1_nextGroup_142 : decode cX1_nextGroup 142 = .ok (.getfield 62, 3) := by decide +kernel
theorem dX1_nextGroup_145 : decode cX1_nextGroup 145 = .ok (.ifCond .eq 11, 3) := by decide +kernel
theorem dX1_nextGroup_148 : decode cX1_nextGroup 148 = .ok (.iload_n 1, 1) := by decide +kernel
theorem dX1_nextGroup_149 : decode cX1_nextGroup 149 = .ok (.aload_n 0, 1) := by decide +kernel
theorem dX1_nextGroup_150 : decode cX1_nextGroup 150 = .ok (.getfield 71, 3) := by decide +kernel
theorem dX1_nextGroup_153 : decode cX1_nextGroup 153 = .ok (.if_icmp .le 7, 3) := by decide +kernel
theorem dX1_nextGroup_156 : decode cX1_nextGroup 156 = .ok (.iload_n 1, 1) := by decide +kernel
theorem dX1_nextGroup_157 : decode cX1_nextGroup 157 = .ok (.goto 7, 3) := by decide +kernel
theorem dX1_nextGroup_160 : decode cX1_nextGroup 160 = .ok (.aload_n 0, 1) := by decide +kernel
theorem dX1_nextGroup_161 : decode cX1_nextGroup 161 = .ok (.getfield 71, 3) := by decide +kernel
theorem dX1_nextGroup_164 : decode cX1_nextGroup 164 = .ok (.putfield 71, 3) := by decide +kernel
theorem dX1_nextGroup_167 : decode cX1_nextGroup 167 = .ok (.aload_n 0, 1) := by decide +kernel
theorem dX1_nextGroup_168 : decode cX1_nextGroup 168 = .ok (.aload_n 0, 1) := by decide +kernel
theorem dX1_nextGroup_169 : decode cX1_nextGroup 169 = .ok (.getfield 65, 3) := by decide +kernel
theorem dX1_nextGroup_172 : decode cX1_nextGroup 172 = .ok (.iload_n 1, 1) := by decide +kernel
theorem dX1_nextGroup_173 : decode cX1_nextGroup 173 = .ok (.iadd, 1) := by decide +kernel
theorem dX1_nextGroup_174 : decode cX1_nextGroup 174 = .ok (.putfield 65, 3) := by decide +kernel
theorem dX1_nextGroup_177 : decode cX1_nextGroup 177 = .ok (.aload_n 0, 1) := by decide +kernel
theorem dX1_nextGroup_178 : decode cX1_nextGroup 178 = .ok (.dup, 1) := by decide +kernel
theorem dX1_nextGroup_179 : decode cX1_nextGroup 179 = .ok (.getfield 62, 3) := by decide +kernel
theorem dX1_nextGroup_182 : decode cX1_nextGroup 182 = .ok (.iconst 1, 1) := by decide +kernel
theorem dX1_nextGroup_183 : decode cX1_nextGroup 183 = .ok (.iadd, 1) := by decide +kernel
theorem dX1_nextGroup_184 : decode cX1_nextGroup 184 = .ok (.putfield 62, 3) := by decide +kernel
theorem dX1_nextGroup_187 : decode cX1_nextGroup 187 = .ok (.aload_n 0, 1) := by decide +kernel
theorem dX1_nextGroup_188 : decode cX1_nextGroup 188 = .ok (.dup, 1) := by decide +kernel
theorem dX1_nextGroup_189 : decode cX1_nextGroup 189 = .ok (.getfield 46, 3) := by decide +kernel
theorem dX1_nextGroup_192 : decode cX1_nextGroup 192 = .ok (.iconst 1, 1) := by decide +kernel
theorem dX1_nextGroup_193 : decode cX1_nextGroup 193 = .ok (.iadd, 1) := by decide +kernel
theorem dX1_nextGroup_194 : decode cX1_nextGroup 194 = .ok (.putfield 46, 3) := by decide +kernel
theorem dX1_nextGroup_197 : decode cX1_nextGroup 197 = .ok (.goto (-131), 3) := by decide +kernel
theorem dX1_nextGroup_200 : decode cX1_nextGroup 200 = .ok (.iconst 2, 1) := by decide +kernel
theorem dX1_nextGroup_201 : decode cX1_nextGroup 201 = .ok (.ireturn, 1) := by decide +kernel
theorem dX1_skipTo_0 : decode cX1_skipTo 0 = .ok (.aload_n 0, 1) := by decide +kernel
theorem dX1_skipTo_1 : decode cX1_skipTo 1 = .ok (.iconst 0, 1) := by decide +kernel
theorem dX1_skipTo_2 : decode cX1_skipTo 2 = .ok (.putfield 30, 3) := by decide +kernel
theorem dX1_skipTo_5 : decode cX1_skipTo 5 = .ok (.aload_n 0, 1) := by decide +kernel
theorem dX1_skipTo_6 : decode cX1_skipTo 6 = .ok (.getfield 42, 3) := by decide +kernel
theorem dX1_skipTo_9 : decode cX1_skipTo 9 = .ok (.ifCond .ne 6, 3) := by decide +kernel
theorem dX1_skipTo_12 : decode cX1_skipTo 12 = .ok (.bipush (-4), 2) := by decide +kernel
theorem dX1_skipTo_14 : decode cX1_skipTo 14 = .ok (.ireturn, 1) := by decide +kernel
theorem dX1_skipTo_15 : decode cX1_skipTo 15 = .ok (.iconst 0, 1) := by decide +kernel
theorem dX1_skipTo_16 : decode cX1_skipTo 16 = .ok (.istore_n 2, 1) := by decide +kernel
theorem dX1_skipTo_17 : decode cX1_skipTo 17 = .ok (.aload_n 0, 1) := by decide +kernel
theorem dX1_skipTo_18 : decode cX1_skipTo 18 = .ok (.getfield 46, 3) := by decide +kernel
theorem dX1_skipTo_21 : decode cX1_skipTo 21 = .ok (.aload_n 0, 1) := by decide +kernel
theorem dX1_skipTo_22 : decode cX1_skipTo 22 = .ok (.getfield 33, 3) := by decide +kernel
theorem dX1_skipTo_25 : decode cX1_skipTo 25 = .ok (.if_icmp .ge 37, 3) := by decide +kernel
theorem dX1_skipTo_28 : decode cX1_skipTo 28 = .ok (.aload_n 0, 1) := by decide +kernel
theorem dX1_skipTo_29 : decode cX1_skipTo 29 = .ok (.getfield 7, 3) := by decide +kernel
theorem dX1_skipTo_32 : decode cX1_skipTo 32 = .ok (.aload_n 0, 1) := by decide +kernel
theorem dX1_skipTo_33 : decode cX1_skipTo 33 = .ok (.getfield 16, 3) := by decide +kernel
theorem dX1_skipTo_36 : decode cX1_skipTo 36 = .ok (.aload_n 0, 1) := by decide +kernel
theorem dX1_skipTo_37 : decode cX1_skipTo 37 = .ok (.getfield 46, 3) := by decide +kernel
theorem dX1_skipTo_40 : decode cX1_skipTo 40 = .ok (.iaload, 1) := by decide +kernel
theorem dX1_skipTo_41 : decode cX1_skipTo 41 = .ok (.iaload, 1) := by decide +kernel
theorem dX1_skipTo_42 : decode cX1_skipTo 42 = .ok (.iload_n 1, 1) := by decide +kernel
theorem dX1_skipTo_43 : decode cX1_skipTo 43 = .ok (.if_icmp .ge 19, 3) := by decide +kernel
theorem dX1_skipTo_46 : decode cX1_skipTo 46 = .ok (.aload_n 0, 1) := by decide +kernel
theorem dX1_skipTo_47 : decode cX1_skipTo 47 = .ok (.dup, 1) := by decide +kernel
theorem dX1_skipTo_48 : decode cX1_skipTo 48 = .ok (.getfield 46, 3) := by decide +kernel
theorem dX1_skipTo_51 : decode cX1_skipTo 51 = .ok (.iconst 1, 1) := by decide +kernel
theorem dX1_skipTo_52 : decode cX1_skipTo 52 = .ok (.iadd, 1) := by decide +kernel
theorem dX1_skipTo_53 : decode cX1_skipTo 53 = .ok (.putfield 46, 3) := by decide +kernel
theorem dX1_skipTo_56 : decode cX1_skipTo 56 = .ok (.iinc 2 1, 3) := by decide +kernel
theorem dX1_skipTo_59 : decode cX1_skipTo 59 = .ok (.goto (-42), 3) := by decide +kernel
theorem dX1_skipTo_62 : decode cX1_skipTo 62 = .ok (.aload_n 0, 1) := by decide +kernel
theorem dX1_skipTo_63 : decode cX1_skipTo 63 = .ok (.iconst 0, 1) := by decide +kernel
theorem dX1_skipTo_64 : decode cX1_skipTo 64 = .ok (.putfield 49, 3) := by decide +kernel
theorem dX1_skipTo_67 : decode cX1_skipTo 67 = .ok (.iload_n 2, 1) := by decide +kernel
theorem dX1_skipTo_68 : decode cX1_skipTo 68 = .ok (.ireturn, 1) := by decide +kernel
theorem dX1_key_0 : decode cX1_key 0 = .ok (.aload_n 0, 1) := by decide +kernel
theorem dX1_key_1 : decode cX1_key 1 = .ok (.iconst 0, 1) := by decide +kernel
theorem dX1_key_2 : decode cX1_key 2 = .ok (.putfield 30, 3) := by decide +kernel
theorem dX1_key_5 : decode cX1_key 5 = .ok (.aload_n 0, 1) := by decide +kernel
theorem dX1_key_6 : decode cX1_key 6 = .ok (.getfield 49, 3) := by decide +kernel
theorem dX1_key_9 : decode cX1_key 9 = .ok (.ifCond .ne 7, 3) := by decide +kernel
theorem dX1_key_12 : decode cX1_key 12 = .ok (.iconst 0, 1) := by decide +kernel
theorem dX1_key_13 : decode cX1_key 13 = .ok (.goto 7, 3) := by decide +kernel
theorem dX1_key_16 : decode cX1_key 16 = .ok (.aload_n 0, 1) := by decide +kernel
theorem dX1_key_17 : decode cX1_key 17 = .ok (.getfield 56, 3) := by decide +kernel
theorem dX1_key_20 : decode cX1_key 20 = .ok (.ireturn, 1) := by decide +kernel
theorem dX1_value_0 : decode cX1_value 0 = .ok (.aload_n 0, 1) := by decide +kernel
theorem dX1_value_1 : decode cX1_value 1 = .ok (.iconst 0, 1) := by decide +kernel
theorem dX1_value_2 : decode cX1_value 2 = .ok (.putfield 30, 3) := by decide +kernel
theorem dX1_value_5 : decode cX1_value 5 = .ok (.aload_n 0, 1) := by decide +kernel
theorem dX1_value_6 : decode cX1_value 6 = .ok (.getfield 49, 3) := by decide +kernel
theorem dX1_value_9 : decode cX1_value 9 = .ok (.iconst 1, 1) := by decide +kernel
theorem dX1_value_10 : decode cX1_value 10 = .ok (.if_icmp .ne 10, 3) := by decide +kernel
theorem dX1_value_13 : decode cX1_value 13 = .ok (.aload_n 0, 1) := by decide +kernel
theorem dX1_value_14 : decode cX1_value 14 = .ok (.getfield 59, 3) := by decide +kernel
theorem dX1_value_17 : decode cX1_value 17 = .ok (.goto 4, 3) := by decide +kernel
theorem dX1_value_20 : decode cX1_value 20 = .ok (.iconst 0, 1) := by decide +kernel
theorem dX1_value_21 : decode cX1_value 21 = .ok (.ireturn, 1) := by decide +kernel
theorem dX1_group_0 : decode cX1_group 0 = .ok (.aload_n 0, 1) := by decide +kernel
theorem dX1_group_1 : decode cX1_group 1 = .ok (.iload_n 1, 1) := by decide +kernel
theorem dX1_group_2 : decode cX1_group 2 = .ok (.ifCond .lt 8, 3) := by decide +kernel
theorem dX1_group_5 : decode cX1_group 5 = .ok (.iload_n 1, 1) := by decide +kernel
theorem dX1_group_6 : decode cX1_group 6 = .ok (.iconst 3, 1) := by decide +kernel
theorem dX1_group_7 : decode cX1_group 7 = .ok (.if_icmp .le 7, 3) := by decide +kernel
theorem dX1_group_10 : decode cX1_group 10 = .ok (.iconst 1, 1) := by decide +kernel
theorem dX1_group_11 : decode cX1_group 11 = .ok (.goto 4, 3) := by decide +kernel
theorem dX1_group_14 : decode cX1_group 14 = .ok (.iconst 0, 1) := by decide +kernel
theorem dX1_group_15 : decode cX1_group 15 = .ok (.putfield 30, 3) := by decide +kernel
theorem dX1_group_18 : decode cX1_group 18 = .ok (.aload_n 0, 1) := by decide +kernel
theorem dX1_group_19 : decode cX1_group 19 = .ok (.getfield 30, 3) := by decide +kernel
theorem dX1_group_22 : decode cX1_group 22 = .ok (.ifCond .gt 11, 3) := by decide +kernel
theorem dX1_group_25 : decode cX1_group 25 = .ok (.aload_n 0, 1) := by decide +kernel
theorem dX1_group_26 : decode cX1_group 26 = .ok (.getfield 49, 3) := by decide +kernel
theorem dX1_group_29 : decode cX1_group 29 = .ok (.iconst 2, 1) := by decide +kernel
theorem dX1_group_30 : decode cX1_group 30 = .ok (.if_icmp .eq 5, 3) := by decide +kernel
theorem dX1_group_33 : decode cX1_group 33 = .ok (.iconst 0, 1) := by decide +kernel
theorem dX1_group_34 : decode cX1_group 34 = .ok (.ireturn, 1) := by decide +kernel
theorem dX1_group_35 : decode cX1_group 35 = .ok (.iload_n 1, 1) := by decide +kernel
theorem dX1_group_36 : decode cX1_group 36 = .ok (.ifCond .ne 10, 3) := by decide +kernel
theorem dX1_group_39 : decode cX1_group 39 = .ok (.aload_n 0, 1) := by decide +kernel
theorem dX1_group_40 : decode cX1_group 40 = .ok (.getfield 62, 3) := by decide +kernel
theorem dX1_group_43 : decode cX1_group 43 = .ok (.goto 31, 3) := by decide +kernel
theorem dX1_group_46 : decode cX1_group 46 = .ok (.iload_n 1, 1) := by decide +kernel
theorem dX1_group_47 : decode cX1_group 47 = .ok (.iconst 1, 1) := by decide +kernel
theorem dX1_group_48 : decode cX1_group 48 = .ok (.if_icmp .ne 10, 3) := by decide +kernel
theorem dX1_group_51 : decode cX1_group 51 = .ok (.aload_n 0, 1) := by decide +kernel
theorem dX1_group_52 : decode cX1_group 52 = .ok (.getfield 65, 3) := by decide +kernel
theorem dX1_group_55 : decode cX1_group 55 = .ok (.goto 19, 3) := by decide +kernel
theorem dX1_group_58 : decode cX1_group 58 = .ok (.iload_n 1, 1) := by decide +kernel
theorem dX1_group_59 : decode cX1_group 59 = .ok (.iconst 2, 1) := by decide +kernel
theorem dX1_group_60 : decode cX1_group 60 = .ok (.if_icmp .ne 10, 3) := by decide +kernel
theorem dX1_group_63 : decode cX1_group 63 = .ok (.aload_n 0, 1) := by decide +kernel
theorem dX1_group_64 : decode cX1_group 64 = .ok (.getfield 68, 3) := by decide +kernel
theorem dX1_group_67 : decode cX1_group 67 = .ok (.goto 7, 3) := by decide +kernel
theorem dX1_group_70 : decode cX1_group 70 = .ok (.aload_n 0, 1) := by decide +kernel
theorem dX1_group_71 : decode cX1_group 71 = .ok (.getfield 71, 3) := by decide +kernel
theorem dX1_group_74 : decode cX1_group 74 = .ok (.ireturn, 1) := by decide +kernel
theorem dX1_runsLeft_0 : decode cX1_runsLeft 0 = .ok (.iconst 0, 1) := by decide +kernel
theorem dX1_runsLeft_1 : decode cX1_runsLeft 1 = .ok (.istore_n 1, 1) := by decide +kernel
theorem dX1_runsLeft_2 : decode cX1_runsLeft 2 = .ok (.iload_n 1, 1) := by decide +kernel
theorem dX1_runsLeft_3 : decode cX1_runsLeft 3 = .ok (.aload_n 0, 1) := by decide +kernel
theorem dX1_runsLeft_4 : decode cX1_runsLeft 4 = .ok (.getfield 33, 3) := by decide +kernel
theorem dX1_runsLeft_7 : decode cX1_runsLeft 7 = .ok (.if_icmp .ge 16, 3) := by decide +kernel
theorem dX1_runsLeft_10 : decode cX1_runsLeft 10 = .ok (.aload_n 0, 1) := by decide +kernel
theorem dX1_runsLeft_11 : decode cX1_runsLeft 11 = .ok (.getfield 19, 3) := by decide +kernel
theorem dX1_runsLeft_14 : decode cX1_runsLeft 14 = .ok (.iload_n 1, 1) := by decide +kernel
theorem dX1_runsLeft_15 : decode cX1_runsLeft 15 = .ok (.iconst 0, 1) := by decide +kernel
theorem dX1_runsLeft_16 : decode cX1_runsLeft 16 = .ok (.bastore, 1) := by decide +kernel
theorem dX1_runsLeft_17 : decode cX1_runsLeft 17 = .ok (.iinc 1 1, 3) := by decide +kernel
theorem dX1_runsLeft_20 : decode cX1_runsLeft 20 = .ok (.goto (-18), 3) := by decide +kernel
theorem dX1_runsLeft_23 : decode cX1_runsLeft 23 = .ok (.iconst 0, 1) := by decide +kernel
theorem dX1_runsLeft_24 : decode cX1_runsLeft 24 = .ok (.istore_n 1, 1) := by decide +kernel
theorem dX1_runsLeft_25 : decode cX1_runsLeft 25 = .ok (.aload_n 0, 1) := by decide +kernel
theorem dX1_runsLeft_26 : decode cX1_runsLeft 26 = .ok (.getfield 46, 3) := by decide +kernel
theorem dX1_runsLeft_29 : decode cX1_runsLeft 29 = .ok (.istore_n 2, 1) := by decide +kernel
theorem dX1_runsLeft_30 : decode cX1_runsLeft 30 = .ok (.iload_n 2, 1) := by decide +kernel
theorem dX1_runsLeft_31 : decode cX1_runsLeft 31 = .ok (.aload_n 0, 1) := by decide +kernel
theorem dX1_runsLeft_32 : decode cX1_runsLeft 32 = .ok (.getfield 33, 3) := by decide +kernel
theorem dX1_runsLeft_35 : decode cX1_runsLeft 35 = .ok (.if_icmp .ge 45, 3) := by decide +kernel
end
section
theorem dX1_runsLeft_38 : decode cX1_runsLeft 38 = .ok (.aload_n 0, 1) := by decide +kernel
theorem dX1_runsLeft_39 : decode cX1_runsLeft 39 = .ok (.getfield 16, 3) := by decide +kernel
theorem dX1_runsLeft_42 : decode cX1_runsLeft 42 = .ok (.iload_n 2, 1) := by decide +kernel
theorem dX1_runsLeft_43 : decode cX1_runsLeft 43 = .ok (.iaload, 1) := by decide +kernel
theorem dX1_runsLeft_44 : decode cX1_runsLeft 44 = .ok (.aload_n 0, 1) := by decide +kernel
theorem dX1_runsLeft_45 : decode cX1_runsLeft 45 = .ok (.getfield 23, 3) := by decide +kernel
theorem dX1_runsLeft_48 : decode cX1_runsLeft 48 = .ok (.idiv, 1) := by decide +kernel
theorem dX1_runsLeft_49 : decode cX1_runsLeft 49 = .ok (.istore_n 3, 1) := by decide +kernel
theorem dX1_runsLeft_50 : decode cX1_runsLeft 50 = .ok (.aload_n 0, 1) := by decide +kernel
theorem dX1_runsLeft_51 : decode cX1_runsLeft 51 = .ok (.getfield 19, 3) := by decide +kernel
theorem dX1_runsLeft_54 : decode cX1_runsLeft 54 = .ok (.iload_n 3, 1) := by decide +kernel
theorem dX1_runsLeft_55 : decode cX1_runsLeft 55 = .ok (.baload, 1) := by decide +kernel
theorem dX1_runsLeft_56 : decode cX1_runsLeft 56 = .ok (.ifCond .eq 7, 3) := by decide +kernel
theorem dX1_runsLeft_59 : decode cX1_runsLeft 59 = .ok (.iload_n 1, 1) := by decide +kernel
theorem dX1_runsLeft_60 : decode cX1_runsLeft 60 = .ok (.goto 6, 3) := by decide +kernel
theorem dX1_runsLeft_63 : decode cX1_runsLeft 63 = .ok (.iload_n 1, 1) := by decide +kernel
theorem dX1_runsLeft_64 : decode cX1_runsLeft 64 = .ok (.iconst 1, 1) := by decide +kernel
theorem dX1_runsLeft_65 : decode cX1_runsLeft 65 = .ok (.iadd, 1) := by decide +kernel
theorem dX1_runsLeft_66 : decode cX1_runsLeft 66 = .ok (.istore_n 1, 1) := by decide +kernel
theorem dX1_runsLeft_67 : decode cX1_runsLeft 67 = .ok (.aload_n 0, 1) := by decide +kernel
theorem dX1_runsLeft_68 : decode cX1_runsLeft 68 = .ok (.getfield 19, 3) := by decide +kernel
theorem dX1_runsLeft_71 : decode cX1_runsLeft 71 = .ok (.iload_n 3, 1) := by decide +kernel
theorem dX1_runsLeft_72 : decode cX1_runsLeft 72 = .ok (.iconst 1, 1) := by decide +kernel
theorem dX1_runsLeft_73 : decode cX1_runsLeft 73 = .ok (.bastore, 1) := by decide +kernel
theorem dX1_runsLeft_74 : decode cX1_runsLeft 74 = .ok (.iinc 2 1, 3) := by decide +kernel
theorem dX1_runsLeft_77 : decode cX1_runsLeft 77 = .ok (.goto (-47), 3) := by decide +kernel
theorem dX1_runsLeft_80 : decode cX1_runsLeft 80 = .ok (.iload_n 1, 1) := by decide +kernel
theorem dX1_runsLeft_81 : decode cX1_runsLeft 81 = .ok (.ireturn, 1) := by decide +kernel
theorem dX1_count_0 : decode cX1_count 0 = .ok (.aload_n 0, 1) := by decide +kernel
theorem dX1_count_1 : decode cX1_count 1 = .ok (.iload_n 1, 1) := by decide +kernel
theorem dX1_count_2 : decode cX1_count 2 = .ok (.ifCond .lt 8, 3) := by decide +kernel
theorem dX1_count_5 : decode cX1_count 5 = .ok (.iload_n 1, 1) := by decide +kernel
theorem dX1_count_6 : decode cX1_count 6 = .ok (.iconst 3, 1) := by decide +kernel
theorem dX1_count_7 : decode cX1_count 7 = .ok (.if_icmp .le 7, 3) := by decide +kernel
theorem dX1_count_10 : decode cX1_count 10 = .ok (.iconst 1, 1) := by decide +kernel
theorem dX1_count_11 : decode cX1_count 11 = .ok (.goto 4, 3) := by decide +kernel
theorem dX1_count_14 : decode cX1_count 14 = .ok (.iconst 0, 1) := by decide +kernel
theorem dX1_count_15 : decode cX1_count 15 = .ok (.putfield 30, 3) := by decide +kernel
theorem dX1_count_18 : decode cX1_count 18 = .ok (.aload_n 0, 1) := by decide +kernel
theorem dX1_count_19 : decode cX1_count 19 = .ok (.getfield 30, 3) := by decide +kernel
theorem dX1_count_22 : decode cX1_count 22 = .ok (.ifCond .le 5, 3) := by decide +kernel
theorem dX1_count_25 : decode cX1_count 25 = .ok (.iconst 0, 1) := by decide +kernel
theorem dX1_count_26 : decode cX1_count 26 = .ok (.ireturn, 1) := by decide +kernel
theorem dX1_count_27 : decode cX1_count 27 = .ok (.iload_n 1, 1) := by decide +kernel
theorem dX1_count_28 : decode cX1_count 28 = .ok (.tableswitch 48 0 2 #[28, 33, 43], 28) := by decide +kernel
theorem dX1_count_56 : decode cX1_count 56 = .ok (.aload_n 0, 1) := by decide +kernel
theorem dX1_count_57 : decode cX1_count 57 = .ok (.getfield 33, 3) := by decide +kernel
theorem dX1_count_60 : decode cX1_count 60 = .ok (.ireturn, 1) := by decide +kernel
theorem dX1_count_61 : decode cX1_count 61 = .ok (.aload_n 0, 1) := by decide +kernel
theorem dX1_count_62 : decode cX1_count 62 = .ok (.getfield 36, 3) := by decide +kernel
theorem dX1_count_65 : decode cX1_count 65 = .ok (.aload_n 0, 1) := by decide +kernel
theorem dX1_count_66 : decode cX1_count 66 = .ok (.getfield 23, 3) := by decide +kernel
theorem dX1_count_69 : decode cX1_count 69 = .ok (.imul, 1) := by decide +kernel
theorem dX1_count_70 : decode cX1_count 70 = .ok (.ireturn, 1) := by decide +kernel
theorem dX1_count_71 : decode cX1_count 71 = .ok (.aload_n 0, 1) := by decide +kernel
theorem dX1_count_72 : decode cX1_count 72 = .ok (.getfield 46, 3) := by decide +kernel
theorem dX1_count_75 : decode cX1_count 75 = .ok (.ireturn, 1) := by decide +kernel
theorem dX1_count_76 : decode cX1_count 76 = .ok (.aload_n 0, 1) := by decide +kernel
theorem dX1_count_77 : decode cX1_count 77 = .ok (.getfield 42, 3) := by decide +kernel
theorem dX1_count_80 : decode cX1_count 80 = .ok (.ifCond .eq 10, 3) := by decide +kernel
theorem dX1_count_83 : decode cX1_count 83 = .ok (.aload_n 0, 1) := by decide +kernel
theorem dX1_count_84 : decode cX1_count 84 = .ok (.invokevirtual 74, 3) := by decide +kernel
theorem dX1_count_87 : decode cX1_count 87 = .ok (.goto 7, 3) := by decide +kernel
theorem dX1_count_90 : decode cX1_count 90 = .ok (.aload_n 0, 1) := by decide +kernel
theorem dX1_count_91 : decode cX1_count 91 = .ok (.getfield 36, 3) := by decide +kernel
theorem dX1_count_94 : decode cX1_count 94 = .ok (.ireturn, 1) := by decide +kernel
theorem dJ9_max_7cf53_0 : decode cJ9_max_7cf53 0 = .ok (.iload_n 0, 1) := by decide +kernel
theorem dJ9_max_7cf53_1 : decode cJ9_max_7cf53 1 = .ok (.iload_n 1, 1) := by decide +kernel
theorem dJ9_max_7cf53_2 : decode cJ9_max_7cf53 2 = .ok (.if_icmp .lt 7, 3) := by decide +kernel
theorem dJ9_max_7cf53_5 : decode cJ9_max_7cf53 5 = .ok (.iload_n 0, 1) := by decide +kernel
theorem dJ9_max_7cf53_6 : decode cJ9_max_7cf53 6 = .ok (.goto 4, 3) := by decide +kernel
theorem dJ9_max_7cf53_9 : decode cJ9_max_7cf53 9 = .ok (.iload_n 1, 1) := by decide +kernel
theorem dJ9_max_7cf53_10 : decode cJ9_max_7cf53 10 = .ok (.ireturn, 1) := by decide +kernel
theorem dJ9_min_7cf53_0 : decode cJ9_min_7cf53 0 = .ok (.iload_n 0, 1) := by decide +kernel
theorem dJ9_min_7cf53_1 : decode cJ9_min_7cf53 1 = .ok (.iload_n 1, 1) := by decide +kernel
theorem dJ9_min_7cf53_2 : decode cJ9_min_7cf53 2 = .ok (.if_icmp .gt 7, 3) := by decide +kernel
theorem dJ9_min_7cf53_5 : decode cJ9_min_7cf53 5 = .ok (.iload_n 0, 1) := by decide +kernel
theorem dJ9_min_7cf53_6 : decode cJ9_min_7cf53 6 = .ok (.goto 4, 3) := by decide +kernel
theorem dJ9_min_7cf53_9 : decode cJ9_min_7cf53 9 = .ok (.iload_n 1, 1) := by decide +kernel
theorem dJ9_min_7cf53_10 : decode cJ9_min_7cf53 10 = .ok (.ireturn, 1) := by decide +kernel
theorem dL_cell_0 : decode cL_cell 0 = .ok (.iload_n 1, 1) := by decide +kernel
theorem dL_cell_1 : decode cL_cell 1 = .ok (.aload_n 0, 1) := by decide +kernel
theorem dL_cell_2 : decode cL_cell 2 = .ok (.arraylength, 1) := by decide +kernel
theorem dL_cell_3 : decode cL_cell 3 = .ok (.if_icmp .ge 9, 3) := by decide +kernel
theorem dL_cell_6 : decode cL_cell 6 = .ok (.aload_n 0, 1) := by decide +kernel
theorem dL_cell_7 : decode cL_cell 7 = .ok (.iload_n 1, 1) := by decide +kernel
theorem dL_cell_8 : decode cL_cell 8 = .ok (.iaload, 1) := by decide +kernel
theorem dL_cell_9 : decode cL_cell 9 = .ok (.goto 4, 3) := by decide +kernel
theorem dL_cell_12 : decode cL_cell 12 = .ok (.iconst 0, 1) := by decide +kernel
theorem dL_cell_13 : decode cL_cell 13 = .ok (.ireturn, 1) := by decide +kernel
theorem dL_feedMany_0 : decode cL_feedMany 0 = .ok (.aload 5, 2) := by decide +kernel
theorem dL_feedMany_2 : decode cL_feedMany 2 = .ok (.iconst 0, 1) := by decide +kernel
theorem dL_feedMany_3 : decode cL_feedMany 3 = .ok (.aload_n 0, 1) := by decide +kernel
theorem dL_feedMany_4 : decode cL_feedMany 4 = .ok (.iload_n 1, 1) := by decide +kernel
theorem dL_feedMany_5 : decode cL_feedMany 5 = .ok (.iload_n 2, 1) := by decide +kernel
theorem dL_feedMany_6 : decode cL_feedMany 6 = .ok (.iload_n 3, 1) := by decide +kernel
theorem dL_feedMany_7 : decode cL_feedMany 7 = .ok (.iload 4, 2) := by decide +kernel
theorem dL_feedMany_9 : decode cL_feedMany 9 = .ok (.invokevirtual 7, 3) := by decide +kernel
theorem dL_feedMany_12 : decode cL_feedMany 12 = .ok (.i2l, 1) := by decide +kernel
theorem dL_feedMany_13 : decode cL_feedMany 13 = .ok (.lastore, 1) := by decide +kernel
theorem dL_feedMany_14 : decode cL_feedMany 14 = .ok (.goto 7, 3) := by decide +kernel
theorem dL_feedMany_17 : decode cL_feedMany 17 = .ok (.astore 6, 2) := by decide +kernel
theorem dL_feedMany_19 : decode cL_feedMany 19 = .ok (.iconst 1, 1) := by decide +kernel
theorem dL_feedMany_20 : decode cL_feedMany 20 = .ok (.ireturn, 1) := by decide +kernel
theorem dL_feedMany_21 : decode cL_feedMany 21 = .ok (.iconst 0, 1) := by decide +kernel
theorem dL_feedMany_22 : decode cL_feedMany 22 = .ok (.ireturn, 1) := by decide +kernel
theorem dL_group_0 : decode cL_group 0 = .ok (.aload_n 2, 1) := by decide +kernel
theorem dL_group_1 : decode cL_group 1 = .ok (.iconst 0, 1) := by decide +kernel
theorem dL_group_2 : decode cL_group 2 = .ok (.aload_n 0, 1) := by decide +kernel
theorem dL_group_3 : decode cL_group 3 = .ok (.iload_n 1, 1) := by decide +kernel
theorem dL_group_4 : decode cL_group 4 = .ok (.invokevirtual 15, 3) := by decide +kernel
theorem dL_group_7 : decode cL_group 7 = .ok (.i2l, 1) := by decide +kernel
theorem dL_group_8 : decode cL_group 8 = .ok (.lastore, 1) := by decide +kernel
theorem dL_group_9 : decode cL_group 9 = .ok (.goto 6, 3) := by decide +kernel
theorem dL_group_12 : decode cL_group 12 = .ok (.astore_n 3, 1) := by decide +kernel
theorem dL_group_13 : decode cL_group 13 = .ok (.iconst 1, 1) := by decide +kernel
theorem dL_group_14 : decode cL_group 14 = .ok (.ireturn, 1) := by decide +kernel
theorem dL_group_15 : decode cL_group 15 = .ok (.iconst 0, 1) := by decide +kernel
theorem dL_group_16 : decode cL_group 16 = .ok (.ireturn, 1) := by decide +kernel
theorem dL_count_0 : decode cL_count 0 = .ok (.aload_n 2, 1) := by decide +kernel
theorem dL_count_1 : decode cL_count 1 = .ok (.iconst 0, 1) := by decide +kernel
theorem dL_count_2 : decode cL_count 2 = .ok (.aload_n 0, 1) := by decide +kernel
theorem dL_count_3 : decode cL_count 3 = .ok (.iload_n 1, 1) := by decide +kernel
theorem dL_count_4 : decode cL_count 4 = .ok (.invokevirtual 19, 3) := by decide +kernel
theorem dL_count_7 : decode cL_count 7 = .ok (.i2l, 1) := by decide +kernel
theorem dL_count_8 : decode cL_count 8 = .ok (.lastore, 1) := by decide +kernel
theorem dL_count_9 : decode cL_count 9 = .ok (.goto 6, 3) := by decide +kernel
theorem dL_count_12 : decode cL_count 12 = .ok (.astore_n 3, 1) := by decide +kernel
theorem dL_count_13 : decode cL_count 13 = .ok (.iconst 1, 1) := by decide +kernel
theorem dL_count_14 : decode cL_count 14 = .ok (.ireturn, 1) := by decide +kernel
theorem dL_count_15 : decode cL_count 15 = .ok (.iconst 0, 1) := by decide +kernel
theorem dL_count_16 : decode cL_count 16 = .ok (.ireturn, 1) := by decide +kernel
theorem dL_law_0 : decode cL_law 0 = .ok (.new 8, 3) := by decide +kernel
theorem dL_law_3 : decode cL_law 3 = .ok (.dup, 1) := by decide +kernel
theorem dL_law_4 : decode cL_law 4 = .ok (.aload_n 0, 1) := by decide +kernel
theorem dL_law_5 : decode cL_law 5 = .ok (.iconst 0, 1) := by decide +kernel
theorem dL_law_6 : decode cL_law 6 = .ok (.invokestatic 22, 3) := by decide +kernel
theorem dL_law_9 : decode cL_law 9 = .ok (.aload_n 0, 1) := by decide +kernel
theorem dL_law_10 : decode cL_law 10 = .ok (.iconst 1, 1) := by decide +kernel
theorem dL_law_11 : decode cL_law 11 = .ok (.invokestatic 22, 3) := by decide +kernel
theorem dL_law_14 : decode cL_law 14 = .ok (.invokespecial 28, 3) := by decide +kernel
theorem dL_law_17 : decode cL_law 17 = .ok (.astore_n 1, 1) := by decide +kernel
theorem dL_law_18 : decode cL_law 18 = .ok (.new 31, 3) := by decide +kernel
theorem dL_law_21 : decode cL_law 21 = .ok (.dup, 1) := by decide +kernel
theorem dL_law_22 : decode cL_law 22 = .ok (.aload_n 0, 1) := by decide +kernel
theorem dL_law_23 : decode cL_law 23 = .ok (.iconst 0, 1) := by decide +kernel
theorem dL_law_24 : decode cL_law 24 = .ok (.invokestatic 22, 3) := by decide +kernel
theorem dL_law_27 : decode cL_law 27 = .ok (.aload_n 0, 1) := by decide +kernel
theorem dL_law_28 : decode cL_law 28 = .ok (.iconst 1, 1) := by decide +kernel
theorem dL_law_29 : decode cL_law 29 = .ok (.invokestatic 22, 3) := by decide +kernel
theorem dL_law_32 : decode cL_law 32 = .ok (.invokespecial 33, 3) := by decide +kernel
theorem dL_law_35 : decode cL_law 35 = .ok (.astore_n 2, 1) := by decide +kernel
theorem dL_law_36 : decode cL_law 36 = .ok (.iconst 1, 1) := by decide +kernel
theorem dL_law_37 : decode cL_law 37 = .ok (.newarray .long, 2) := by decide +kernel
theorem dL_law_39 : decode cL_law 39 = .ok (.astore_n 3, 1) := by decide +kernel
theorem dL_law_40 : decode cL_law 40 = .ok (.iconst 2, 1) := by decide +kernel
theorem dL_law_41 : decode cL_law 41 = .ok (.istore 4, 2) := by decide +kernel
theorem dL_law_43 : decode cL_law 43 = .ok (.iload 4, 2) := by decide +kernel
theorem dL_law_45 : decode cL_law 45 = .ok (.aload_n 0, 1) := by decide +kernel
theorem dL_law_46 : decode cL_law 46 = .ok (.arraylength, 1) := by decide +kernel
theorem dL_law_47 : decode cL_law 47 = .ok (.iconst 5, 1) := by decide +kernel
theorem dL_law_48 : decode cL_law 48 = .ok (.isub, 1) := by decide +kernel
theorem dL_law_49 : decode cL_law 49 = .ok (.if_icmp .gt 415, 3) := by decide +kernel
theorem dL_law_52 : decode cL_law 52 = .ok (.aload_n 0, 1) := by decide +kernel
theorem dL_law_53 : decode cL_law 53 = .ok (.iload 4, 2) := by decide +kernel
theorem dL_law_55 : decode cL_law 55 = .ok (.iaload, 1) := by decide +kernel
theorem dL_law_56 : decode cL_law 56 = .ok (.bipush 15, 2) := by decide +kernel
theorem dL_law_58 : decode cL_law 58 = .ok (.iand, 1) := by decide +kernel
theorem dL_law_59 : decode cL_law 59 = .ok (.tableswitch 399 0 10 #[57, 68, 105, 197, 210, 223, 236, 261, 274, 287, 343], 57) := by decide +kernel
theorem dL_law_116 : decode cL_law 116 = .ok (.aload_n 1, 1) := by decide +kernel
theorem dL_law_117 : decode cL_law 117 = .ok (.invokevirtual 34, 3) := by decide +kernel
theorem dL_law_120 : decode cL_law 120 = .ok (.aload_n 2, 1) := by decide +kernel
theorem dL_law_121 : decode cL_law 121 = .ok (.invokevirtual 37, 3) := by decide +kernel
theorem dL_law_124 : decode cL_law 124 = .ok (.goto 334, 3) := by decide +kernel
theorem dL_law_127 : decode cL_law 127 = .ok (.aload_n 1, 1) := by decide +kernel
theorem dL_law_128 : decode cL_law 128 = .ok (.aload_n 0, 1) := by decide +kernel
theorem dL_law_129 : decode cL_law 129 = .ok (.iload 4, 2) := by decide +kernel
theorem dL_law_131 : decode cL_law 131 = .ok (.iconst 1, 1) := by decide +kernel
theorem dL_law_132 : decode cL_law 132 = .ok (.iadd, 1) := by decide +kernel
theorem dL_law_133 : decode cL_law 133 = .ok (.iaload, 1) := by decide +kernel
theorem dL_law_134 : decode cL_law 134 = .ok (.aload_n 0, 1) := by decide +kernel
theorem dL_law_135 : decode cL_law 135 = .ok (.iload 4, 2) := by decide +kernel
theorem dL_law_137 : decode cL_law 137 = .ok (.iconst 2, 1) := by decide +kernel
theorem dL_law_138 : decode cL_law 138 = .ok (.iadd, 1) := by decide +kernel
theorem dL_law_139 : decode cL_law 139 = .ok (.iaload, 1) := by decide +kernel
theorem dL_law_140 : decode cL_law 140 = .ok (.invokevirtual 38, 3) := by decide +kernel
theorem dL_law_143 : decode cL_law 143 = .ok (.aload_n 2, 1) := by decide +kernel
theorem dL_law_144 : decode cL_law 144 = .ok (.aload_n 0, 1) := by decide +kernel
theorem dL_law_145 : decode cL_law 145 = .ok (.iload 4, 2) := by decide +kernel
theorem dL_law_147 : decode cL_law 147 = .ok (.iconst 1, 1) := by decide +kernel
theorem dL_law_148 : decode cL_law 148 = .ok (.iadd, 1) := by decide +kernel
theorem dL_law_149 : decode cL_law 149 = .ok (.iaload, 1) := by decide +kernel
theorem dL_law_150 : decode cL_law 150 = .ok (.aload_n 0, 1) := by decide +kernel
theorem dL_law_151 : decode cL_law 151 = .ok (.iload 4, 2) := by decide +kernel
theorem dL_law_153 : decode cL_law 153 = .ok (.iconst 2, 1) := by decide +kernel
theorem dL_law_154 : decode cL_law 154 = .ok (.iadd, 1) := by decide +kernel
theorem dL_law_155 : decode cL_law 155 = .ok (.iaload, 1) := by decide +kernel
theorem dL_law_156 : decode cL_law 156 = .ok (.invokevirtual 42, 3) := by decide +kernel
theorem dL_law_159 : decode cL_law 159 = .ok (.if_icmp .eq 299, 3) := by decide +kernel
theorem dL_law_162 : decode cL_law 162 = .ok (.iconst 0, 1) := by decide +kernel
theorem dL_law_163 : decode cL_law 163 = .ok (.ireturn, 1) := by decide +kernel
theorem dL_law_164 : decode cL_law 164 = .ok (.aload_n 1, 1) := by decide +kernel
theorem dL_law_165 : decode cL_law 165 = .ok (.aload_n 0, 1) := by decide +kernel
theorem dL_law_166 : decode cL_law 166 = .ok (.iload 4, 2) := by decide +kernel
theorem dL_law_168 : decode cL_law 168 = .ok (.iconst 1, 1) := by decide +kernel
theorem dL_law_169 : decode cL_law 169 = .ok (.iadd, 1) := by decide +kernel
theorem dL_law_170 : decode cL_law 170 = .ok (.iaload, 1) := by decide +kernel
theorem dL_law_171 : decode cL_law 171 = .ok (.aload_n 0, 1) := by decide +kernel
theorem dL_law_172 : decode cL_law 172 = .ok (.iload 4, 2) := by decide +kernel
theorem dL_law_174 : decode cL_law 174 = .ok (.iconst 2, 1) := by decide +kernel
theorem dL_law_175 : decode cL_law 175 = .ok (.iadd, 1) := by decide +kernel
theorem dL_law_176 : decode cL_law 176 = .ok (.iaload, 1) := by decide +kernel
theorem dL_law_177 : decode cL_law 177 = .ok (.aload_n 0, 1) := by decide +kernel
theorem dL_law_178 : decode cL_law 178 = .ok (.iload 4, 2) := by decide +kernel
theorem dL_law_180 : decode cL_law 180 = .ok (.iconst 3, 1) := by decide +kernel
theorem dL_law_181 : decode cL_law 181 = .ok (.iadd, 1) := by decide +kernel
theorem dL_law_182 : decode cL_law 182 = .ok (.iaload, 1) := by decide +kernel
theorem dL_law_183 : decode cL_law 183 = .ok (.aload_n 0, 1) := by decide +kernel
theorem dL_law_184 : decode cL_law 184 = .ok (.iload 4, 2) := by decide +kernel
theorem dL_law_186 : decode cL_law 186 = .ok (.iconst 4, 1) := by decide +kernel
theorem dL_law_187 : decode cL_law 187 = .ok (.iadd, 1) := by decide +kernel
theorem dL_law_188 : decode cL_law 188 = .ok (.iaload, 1) := by decide +kernel
theorem dL_law_189 : decode cL_law 189 = .ok (.aload_n 3, 1) := by decide +kernel
theorem dL_law_190 : decode cL_law 190 = .ok (.invokestatic 43, 3) := by decide +kernel
theorem dL_law_193 : decode cL_law 193 = .ok (.istore 5, 2) := by decide +kernel
theorem dL_law_195 : decode cL_law 195 = .ok (.aload_n 2, 1) := by decide +kernel
theorem dL_law_196 : decode cL_law 196 = .ok (.aload_n 0, 1) := by decide +kernel
theorem dL_law_197 : decode cL_law 197 = .ok (.iload 4, 2) := by decide +kernel
theorem dL_law_199 : decode cL_law 199 = .ok (.iconst 1, 1) := by decide +kernel
theorem dL_law_200 : decode cL_law 200 = .ok (.iadd, 1) := by decide +kernel
theorem dL_law_201 : decode cL_law 201 = .ok (.iaload, 1) := by decide +kernel
theorem dL_law_202 : decode cL_law 202 = .ok (.aload_n 0, 1) := by decide +kernel
theorem dL_law_203 : decode cL_law 203 = .ok (.iload 4, 2) := by decide +kernel
theorem dL_law_205 : decode cL_law 205 = .ok (.iconst 2, 1) := by decide +kernel
theorem dL_law_206 : decode cL_law 206 = .ok (.iadd, 1) := by decide +kernel
theorem dL_law_207 : decode cL_law 207 = .ok (.iaload, 1) := by decide +kernel
theorem dL_law_208 : decode cL_law 208 = .ok (.aload_n 0, 1) := by decide +kernel
theorem dL_law_209 : decode cL_law 209 = .ok (.iload 4, 2) := by decide +kernel
theorem dL_law_211 : decode cL_law 211 = .ok (.iconst 3, 1) := by decide +kernel
theorem dL_law_212 : decode cL_law 212 = .ok (.iadd, 1) := by decide +kernel
theorem dL_law_213 : decode cL_law 213 = .ok (.iaload, 1) := by decide +kernel
theorem dL_law_214 : decode cL_law 214 = .ok (.aload_n 0, 1) := by decide +kernel
theorem dL_law_215 : decode cL_law 215 = .ok (.iload 4, 2) := by decide +kernel
theorem dL_law_217 : decode cL_law 217 = .ok (.iconst 4, 1) := by decide +kernel
theorem dL_law_218 : decode cL_law 218 = .ok (.iadd, 1) := by decide +kernel
theorem dL_law_219 : decode cL_law 219 = .ok (.iaload, 1) := by decide +kernel
theorem dL_law_220 : decode cL_law 220 = .ok (.invokevirtual 46, 3) := by decide +kernel
theorem dL_law_223 : decode cL_law 223 = .ok (.istore 6, 2) := by decide +kernel
theorem dL_law_225 : decode cL_law 225 = .ok (.aload_n 2, 1) := by decide +kernel
theorem dL_law_226 : decode cL_law 226 = .ok (.invokevirtual 47, 3) := by decide +kernel
end
section
theorem dL_law_229 : decode cL_law 229 = .ok (.iload 5, 2) := by decide +kernel
theorem dL_law_231 : decode cL_law 231 = .ok (.if_icmp .eq 5, 3) := by decide +kernel
theorem dL_law_234 : decode cL_law 234 = .ok (.iconst 0, 1) := by decide +kernel
theorem dL_law_235 : decode cL_law 235 = .ok (.ireturn, 1) := by decide +kernel
theorem dL_law_236 : decode cL_law 236 = .ok (.iload 5, 2) := by decide +kernel
theorem dL_law_238 : decode cL_law 238 = .ok (.ifCond .ne 15, 3) := by decide +kernel
theorem dL_law_241 : decode cL_law 241 = .ok (.aload_n 3, 1) := by decide +kernel
theorem dL_law_242 : decode cL_law 242 = .ok (.iconst 0, 1) := by decide +kernel
theorem dL_law_243 : decode cL_law 243 = .ok (.laload, 1) := by decide +kernel
theorem dL_law_244 : decode cL_law 244 = .ok (.iload 6, 2) := by decide +kernel
theorem dL_law_246 : decode cL_law 246 = .ok (.i2l, 1) := by decide +kernel
theorem dL_law_247 : decode cL_law 247 = .ok (.lcmp, 1) := by decide +kernel
theorem dL_law_248 : decode cL_law 248 = .ok (.ifCond .eq 5, 3) := by decide +kernel
theorem dL_law_251 : decode cL_law 251 = .ok (.iconst 0, 1) := by decide +kernel
theorem dL_law_252 : decode cL_law 252 = .ok (.ireturn, 1) := by decide +kernel
theorem dL_law_253 : decode cL_law 253 = .ok (.goto 205, 3) := by decide +kernel
theorem dL_law_256 : decode cL_law 256 = .ok (.aload_n 1, 1) := by decide +kernel
theorem dL_law_257 : decode cL_law 257 = .ok (.invokevirtual 51, 3) := by decide +kernel
theorem dL_law_260 : decode cL_law 260 = .ok (.aload_n 2, 1) := by decide +kernel
theorem dL_law_261 : decode cL_law 261 = .ok (.invokevirtual 54, 3) := by decide +kernel
theorem dL_law_264 : decode cL_law 264 = .ok (.if_icmp .eq 194, 3) := by decide +kernel
theorem dL_law_267 : decode cL_law 267 = .ok (.iconst 0, 1) := by decide +kernel
theorem dL_law_268 : decode cL_law 268 = .ok (.ireturn, 1) := by decide +kernel
theorem dL_law_269 : decode cL_law 269 = .ok (.aload_n 1, 1) := by decide +kernel
theorem dL_law_270 : decode cL_law 270 = .ok (.invokevirtual 55, 3) := by decide +kernel
theorem dL_law_273 : decode cL_law 273 = .ok (.aload_n 2, 1) := by decide +kernel
theorem dL_law_274 : decode cL_law 274 = .ok (.invokevirtual 58, 3) := by decide +kernel
theorem dL_law_277 : decode cL_law 277 = .ok (.if_icmp .eq 181, 3) := by decide +kernel
theorem dL_law_280 : decode cL_law 280 = .ok (.iconst 0, 1) := by decide +kernel
theorem dL_law_281 : decode cL_law 281 = .ok (.ireturn, 1) := by decide +kernel
theorem dL_law_282 : decode cL_law 282 = .ok (.aload_n 1, 1) := by decide +kernel
theorem dL_law_283 : decode cL_law 283 = .ok (.invokevirtual 59, 3) := by decide +kernel
theorem dL_law_286 : decode cL_law 286 = .ok (.aload_n 2, 1) := by decide +kernel
theorem dL_law_287 : decode cL_law 287 = .ok (.invokevirtual 62, 3) := by decide +kernel
theorem dL_law_290 : decode cL_law 290 = .ok (.if_icmp .eq 168, 3) := by decide +kernel
theorem dL_law_293 : decode cL_law 293 = .ok (.iconst 0, 1) := by decide +kernel
theorem dL_law_294 : decode cL_law 294 = .ok (.ireturn, 1) := by decide +kernel
theorem dL_law_295 : decode cL_law 295 = .ok (.aload_n 1, 1) := by decide +kernel
theorem dL_law_296 : decode cL_law 296 = .ok (.aload_n 0, 1) := by decide +kernel
theorem dL_law_297 : decode cL_law 297 = .ok (.iload 4, 2) := by decide +kernel
theorem dL_law_299 : decode cL_law 299 = .ok (.iconst 1, 1) := by decide +kernel
theorem dL_law_300 : decode cL_law 300 = .ok (.iadd, 1) := by decide +kernel
theorem dL_law_301 : decode cL_law 301 = .ok (.iaload, 1) := by decide +kernel
theorem dL_law_302 : decode cL_law 302 = .ok (.invokevirtual 63, 3) := by decide +kernel
theorem dL_law_305 : decode cL_law 305 = .ok (.aload_n 2, 1) := by decide +kernel
theorem dL_law_306 : decode cL_law 306 = .ok (.aload_n 0, 1) := by decide +kernel
theorem dL_law_307 : decode cL_law 307 = .ok (.iload 4, 2) := by decide +kernel
theorem dL_law_309 : decode cL_law 309 = .ok (.iconst 1, 1) := by decide +kernel
theorem dL_law_310 : decode cL_law 310 = .ok (.iadd, 1) := by decide +kernel
theorem dL_law_311 : decode cL_law 311 = .ok (.iaload, 1) := by decide +kernel
theorem dL_law_312 : decode cL_law 312 = .ok (.invokevirtual 66, 3) := by decide +kernel
theorem dL_law_315 : decode cL_law 315 = .ok (.if_icmp .eq 143, 3) := by decide +kernel
theorem dL_law_318 : decode cL_law 318 = .ok (.iconst 0, 1) := by decide +kernel
theorem dL_law_319 : decode cL_law 319 = .ok (.ireturn, 1) := by decide +kernel
theorem dL_law_320 : decode cL_law 320 = .ok (.aload_n 1, 1) := by decide +kernel
theorem dL_law_321 : decode cL_law 321 = .ok (.invokevirtual 67, 3) := by decide +kernel
theorem dL_law_324 : decode cL_law 324 = .ok (.aload_n 2, 1) := by decide +kernel
theorem dL_law_325 : decode cL_law 325 = .ok (.invokevirtual 70, 3) := by decide +kernel
theorem dL_law_328 : decode cL_law 328 = .ok (.if_icmp .eq 130, 3) := by decide +kernel
theorem dL_law_331 : decode cL_law 331 = .ok (.iconst 0, 1) := by decide +kernel
theorem dL_law_332 : decode cL_law 332 = .ok (.ireturn, 1) := by decide +kernel
theorem dL_law_333 : decode cL_law 333 = .ok (.aload_n 1, 1) := by decide +kernel
theorem dL_law_334 : decode cL_law 334 = .ok (.invokevirtual 71, 3) := by decide +kernel
theorem dL_law_337 : decode cL_law 337 = .ok (.aload_n 2, 1) := by decide +kernel
theorem dL_law_338 : decode cL_law 338 = .ok (.invokevirtual 74, 3) := by decide +kernel
theorem dL_law_341 : decode cL_law 341 = .ok (.if_icmp .eq 117, 3) := by decide +kernel
theorem dL_law_344 : decode cL_law 344 = .ok (.iconst 0, 1) := by decide +kernel
theorem dL_law_345 : decode cL_law 345 = .ok (.ireturn, 1) := by decide +kernel
theorem dL_law_346 : decode cL_law 346 = .ok (.aload_n 1, 1) := by decide +kernel
theorem dL_law_347 : decode cL_law 347 = .ok (.aload_n 0, 1) := by decide +kernel
theorem dL_law_348 : decode cL_law 348 = .ok (.iload 4, 2) := by decide +kernel
theorem dL_law_350 : decode cL_law 350 = .ok (.iconst 1, 1) := by decide +kernel
theorem dL_law_351 : decode cL_law 351 = .ok (.iadd, 1) := by decide +kernel
theorem dL_law_352 : decode cL_law 352 = .ok (.iaload, 1) := by decide +kernel
theorem dL_law_353 : decode cL_law 353 = .ok (.aload_n 3, 1) := by decide +kernel
theorem dL_law_354 : decode cL_law 354 = .ok (.invokestatic 75, 3) := by decide +kernel
theorem dL_law_357 : decode cL_law 357 = .ok (.istore 5, 2) := by decide +kernel
theorem dL_law_359 : decode cL_law 359 = .ok (.aload_n 2, 1) := by decide +kernel
theorem dL_law_360 : decode cL_law 360 = .ok (.aload_n 0, 1) := by decide +kernel
theorem dL_law_361 : decode cL_law 361 = .ok (.iload 4, 2) := by decide +kernel
theorem dL_law_363 : decode cL_law 363 = .ok (.iconst 1, 1) := by decide +kernel
theorem dL_law_364 : decode cL_law 364 = .ok (.iadd, 1) := by decide +kernel
theorem dL_law_365 : decode cL_law 365 = .ok (.iaload, 1) := by decide +kernel
theorem dL_law_366 : decode cL_law 366 = .ok (.invokevirtual 78, 3) := by decide +kernel
theorem dL_law_369 : decode cL_law 369 = .ok (.istore 6, 2) := by decide +kernel
theorem dL_law_371 : decode cL_law 371 = .ok (.aload_n 2, 1) := by decide +kernel
theorem dL_law_372 : decode cL_law 372 = .ok (.invokevirtual 47, 3) := by decide +kernel
theorem dL_law_375 : decode cL_law 375 = .ok (.iload 5, 2) := by decide +kernel
theorem dL_law_377 : decode cL_law 377 = .ok (.if_icmp .eq 5, 3) := by decide +kernel
theorem dL_law_380 : decode cL_law 380 = .ok (.iconst 0, 1) := by decide +kernel
theorem dL_law_381 : decode cL_law 381 = .ok (.ireturn, 1) := by decide +kernel
theorem dL_law_382 : decode cL_law 382 = .ok (.iload 5, 2) := by decide +kernel
theorem dL_law_384 : decode cL_law 384 = .ok (.ifCond .ne 15, 3) := by decide +kernel
theorem dL_law_387 : decode cL_law 387 = .ok (.aload_n 3, 1) := by decide +kernel
theorem dL_law_388 : decode cL_law 388 = .ok (.iconst 0, 1) := by decide +kernel
theorem dL_law_389 : decode cL_law 389 = .ok (.laload, 1) := by decide +kernel
theorem dL_law_390 : decode cL_law 390 = .ok (.iload 6, 2) := by decide +kernel
theorem dL_law_392 : decode cL_law 392 = .ok (.i2l, 1) := by decide +kernel
theorem dL_law_393 : decode cL_law 393 = .ok (.lcmp, 1) := by decide +kernel
theorem dL_law_394 : decode cL_law 394 = .ok (.ifCond .eq 5, 3) := by decide +kernel
theorem dL_law_397 : decode cL_law 397 = .ok (.iconst 0, 1) := by decide +kernel
theorem dL_law_398 : decode cL_law 398 = .ok (.ireturn, 1) := by decide +kernel
theorem dL_law_399 : decode cL_law 399 = .ok (.goto 59, 3) := by decide +kernel
theorem dL_law_402 : decode cL_law 402 = .ok (.aload_n 1, 1) := by decide +kernel
theorem dL_law_403 : decode cL_law 403 = .ok (.aload_n 0, 1) := by decide +kernel
theorem dL_law_404 : decode cL_law 404 = .ok (.iload 4, 2) := by decide +kernel
theorem dL_law_406 : decode cL_law 406 = .ok (.iconst 1, 1) := by decide +kernel
theorem dL_law_407 : decode cL_law 407 = .ok (.iadd, 1) := by decide +kernel
theorem dL_law_408 : decode cL_law 408 = .ok (.iaload, 1) := by decide +kernel
theorem dL_law_409 : decode cL_law 409 = .ok (.aload_n 3, 1) := by decide +kernel
theorem dL_law_410 : decode cL_law 410 = .ok (.invokestatic 79, 3) := by decide +kernel
theorem dL_law_413 : decode cL_law 413 = .ok (.istore 5, 2) := by decide +kernel
theorem dL_law_415 : decode cL_law 415 = .ok (.aload_n 2, 1) := by decide +kernel
theorem dL_law_416 : decode cL_law 416 = .ok (.aload_n 0, 1) := by decide +kernel
theorem dL_law_417 : decode cL_law 417 = .ok (.iload 4, 2) := by decide +kernel
theorem dL_law_419 : decode cL_law 419 = .ok (.iconst 1, 1) := by decide +kernel
theorem dL_law_420 : decode cL_law 420 = .ok (.iadd, 1) := by decide +kernel
theorem dL_law_421 : decode cL_law 421 = .ok (.iaload, 1) := by decide +kernel
theorem dL_law_422 : decode cL_law 422 = .ok (.invokevirtual 81, 3) := by decide +kernel
theorem dL_law_425 : decode cL_law 425 = .ok (.istore 6, 2) := by decide +kernel
theorem dL_law_427 : decode cL_law 427 = .ok (.aload_n 2, 1) := by decide +kernel
theorem dL_law_428 : decode cL_law 428 = .ok (.invokevirtual 47, 3) := by decide +kernel
theorem dL_law_431 : decode cL_law 431 = .ok (.iload 5, 2) := by decide +kernel
theorem dL_law_433 : decode cL_law 433 = .ok (.if_icmp .eq 5, 3) := by decide +kernel
theorem dL_law_436 : decode cL_law 436 = .ok (.iconst 0, 1) := by decide +kernel
theorem dL_law_437 : decode cL_law 437 = .ok (.ireturn, 1) := by decide +kernel
theorem dL_law_438 : decode cL_law 438 = .ok (.iload 5, 2) := by decide +kernel
theorem dL_law_440 : decode cL_law 440 = .ok (.ifCond .ne 15, 3) := by decide +kernel
theorem dL_law_443 : decode cL_law 443 = .ok (.aload_n 3, 1) := by decide +kernel
theorem dL_law_444 : decode cL_law 444 = .ok (.iconst 0, 1) := by decide +kernel
theorem dL_law_445 : decode cL_law 445 = .ok (.laload, 1) := by decide +kernel
theorem dL_law_446 : decode cL_law 446 = .ok (.iload 6, 2) := by decide +kernel
theorem dL_law_448 : decode cL_law 448 = .ok (.i2l, 1) := by decide +kernel
theorem dL_law_449 : decode cL_law 449 = .ok (.lcmp, 1) := by decide +kernel
theorem dL_law_450 : decode cL_law 450 = .ok (.ifCond .eq 5, 3) := by decide +kernel
theorem dL_law_453 : decode cL_law 453 = .ok (.iconst 0, 1) := by decide +kernel
theorem dL_law_454 : decode cL_law 454 = .ok (.ireturn, 1) := by decide +kernel
theorem dL_law_455 : decode cL_law 455 = .ok (.goto 3, 3) := by decide +kernel
theorem dL_law_458 : decode cL_law 458 = .ok (.iinc 4 5, 3) := by decide +kernel
theorem dL_law_461 : decode cL_law 461 = .ok (.goto (-418), 3) := by decide +kernel
theorem dL_law_464 : decode cL_law 464 = .ok (.iconst 1, 1) := by decide +kernel
theorem dL_law_465 : decode cL_law 465 = .ok (.ireturn, 1) := by decide +kernel
end
section
/-! WORDS: those that the walks use, by their places -/
def zt : List Cond := wsL_law.filter goodWord
theorem zt_of {w : Cond} (h : w ∈ wsL_law) (hg : goodWord w = true) : w ∈ zt := List.mem_filter.mpr ⟨h, hg⟩
theorem zt_in : ∀ w ∈ zt, w ∈ lw_tbl := fun w h => wsL_law_in w (List.mem_filter.mp h).1
theorem zt_x0 : ∀ w ∈ u_ws RX0 TX0 15, w ∈ zt := fun w h => zt_of (inlX0 w h) (List.all_eq_true.mp (by decide +kernel : wsX00.all goodWord = true) w h)
theorem zt_x1 : ∀ w ∈ u_ws RX1 TX1 19, w ∈ zt := fun w h => zt_of (inlX1 w h) (List.all_eq_true.mp (by decide +kernel : wsX10.all goodWord = true) w h)
set_option maxRecDepth 20000 in
theorem fl_X0_18 : Cond.fieldLink RX0 18 (TX0 0).1 (TX0 0).2.1 (TX0 0).2.2.1 ∈ zt := zt_of (List.mem_of_getElem? (i := 24) (by rfl)) (by decide +kernel)
set_option maxRecDepth 20000 in
theorem fl_X0_22 : Cond.fieldLink RX0 22 (TX0 1).1 (TX0 1).2.1 (TX0 1).2.2.1 ∈ zt := zt_of (List.mem_of_getElem? (i := 25) (by rfl)) (by decide +kernel)
set_option maxRecDepth 20000 in
theorem fl_X0_25 : Cond.fieldLink RX0 25 (TX0 2).1 (TX0 2).2.1 (TX0 2).2.2.1 ∈ zt := zt_of (List.mem_of_getElem? (i := 27) (by rfl)) (by decide +kernel)
set_option maxRecDepth 20000 in
theorem fl_X0_29 : Cond.fieldLink RX0 29 (TX0 3).1 (TX0 3).2.1 (TX0 3).2.2.1 ∈ zt := zt_of (List.mem_of_getElem? (i := 28) (by rfl)) (by decide +kernel)
set_option maxRecDepth 20000 in
theorem fl_X0_32 : Cond.fieldLink RX0 32 (TX0 4).1 (TX0 4).2.1 (TX0 4).2.2.1 ∈ zt := zt_of (List.mem_of_getElem? (i := 29) (by rfl)) (by decide +kernel)
set_option maxRecDepth 20000 in
theorem fl_X0_35 : Cond.fieldLink RX0 35 (TX0 5).1 (TX0 5).2.1 (TX0 5).2.2.1 ∈ zt := zt_of (List.mem_of_getElem? (i := 30) (by rfl)) (by decide +kernel)
set_option maxRecDepth 20000 in
theorem fl_X0_38 : Cond.fieldLink RX0 38 (TX0 6).1 (TX0 6).2.1 (TX0 6).2.2.1 ∈ zt := zt_of (List.mem_of_getElem? (i := 31) (by rfl)) (by decide +kernel)
set_option maxRecDepth 20000 in
theorem fl_X0_41 : Cond.fieldLink RX0 41 (TX0 14).1 (TX0 14).2.1 (TX0 14).2.2.1 ∈ zt := zt_of (List.mem_of_getElem? (i := 32) (by rfl)) (by decide +kernel)
set_option maxRecDepth 20000 in
theorem fl_X1_7 : Cond.fieldLink RX1 7 (TX1 15).1 (TX1 15).2.1 (TX1 15).2.2.1 ∈ zt := zt_of (List.mem_of_getElem? (i := 37) (by rfl)) (by decide +kernel)
set_option maxRecDepth 20000 in
theorem fl_X1_13 : Cond.fieldLink RX1 13 (TX1 16).1 (TX1 16).2.1 (TX1 16).2.2.1 ∈ zt := zt_of (List.mem_of_getElem? (i := 38) (by rfl)) (by decide +kernel)
set_option maxRecDepth 20000 in
theorem fl_X1_16 : Cond.fieldLink RX1 16 (TX1 17).1 (TX1 17).2.1 (TX1 17).2.2.1 ∈ zt := zt_of (List.mem_of_getElem? (i := 39) (by rfl)) (by decide +kernel)
set_option maxRecDepth 20000 in
theorem fl_X1_19 : Cond.fieldLink RX1 19 (TX1 18).1 (TX1 18).2.1 (TX1 18).2.2.1 ∈ zt := zt_of (List.mem_of_getElem? (i := 41) (by rfl)) (by decide +kernel)
set_option maxRecDepth 20000 in
theorem fl_X1_23 : Cond.fieldLink RX1 23 (TX1 1).1 (TX1 1).2.1 (TX1 1).2.2.1 ∈ zt := zt_of (List.mem_of_getElem? (i := 42) (by rfl)) (by decide +kernel)
set_option maxRecDepth 20000 in
theorem fl_X1_27 : Cond.fieldLink RX1 27 (TX1 2).1 (TX1 2).2.1 (TX1 2).2.2.1 ∈ zt := zt_of (List.mem_of_getElem? (i := 43) (by rfl)) (by decide +kernel)
set_option maxRecDepth 20000 in
theorem fl_X0_44 : Cond.fieldLink RX0 44 (TX0 7).1 (TX0 7).2.1 (TX0 7).2.2.1 ∈ zt := zt_of (List.mem_of_getElem? (i := 48) (by rfl)) (by decide +kernel)
set_option maxRecDepth 20000 in
theorem fl_X0_47 : Cond.fieldLink RX0 47 (TX0 8).1 (TX0 8).2.1 (TX0 8).2.2.1 ∈ zt := zt_of (List.mem_of_getElem? (i := 49) (by rfl)) (by decide +kernel)
set_option maxRecDepth 20000 in
theorem fl_X0_50 : Cond.fieldLink RX0 50 (TX0 9).1 (TX0 9).2.1 (TX0 9).2.2.1 ∈ zt := zt_of (List.mem_of_getElem? (i := 50) (by rfl)) (by decide +kernel)
set_option maxRecDepth 20000 in
theorem fl_X0_54 : Cond.fieldLink RX0 54 (TX0 10).1 (TX0 10).2.1 (TX0 10).2.2.1 ∈ zt := zt_of (List.mem_of_getElem? (i := 51) (by rfl)) (by decide +kernel)
set_option maxRecDepth 20000 in
theorem fl_X0_57 : Cond.fieldLink RX0 57 (TX0 11).1 (TX0 11).2.1 (TX0 11).2.2.1 ∈ zt := zt_of (List.mem_of_getElem? (i := 52) (by rfl)) (by decide +kernel)
set_option maxRecDepth 20000 in
theorem fl_X0_87 : Cond.fieldLink RX0 87 (TX0 12).1 (TX0 12).2.1 (TX0 12).2.2.1 ∈ zt := zt_of (List.mem_of_getElem? (i := 57) (by rfl)) (by decide +kernel)
set_option maxRecDepth 20000 in
theorem fl_X0_93 : Cond.fieldLink RX0 93 (TX0 13).1 (TX0 13).2.1 (TX0 13).2.2.1 ∈ zt := zt_of (List.mem_of_getElem? (i := 58) (by rfl)) (by decide +kernel)
set_option maxRecDepth 20000 in
theorem fl_X1_30 : Cond.fieldLink RX1 30 (TX1 0).1 (TX1 0).2.1 (TX1 0).2.2.1 ∈ zt := zt_of (List.mem_of_getElem? (i := 66) (by rfl)) (by decide +kernel)
set_option maxRecDepth 20000 in
theorem fl_X1_33 : Cond.fieldLink RX1 33 (TX1 3).1 (TX1 3).2.1 (TX1 3).2.2.1 ∈ zt := zt_of (List.mem_of_getElem? (i := 67) (by rfl)) (by decide +kernel)
set_option maxRecDepth 20000 in
theorem fl_X1_36 : Cond.fieldLink RX1 36 (TX1 4).1 (TX1 4).2.1 (TX1 4).2.2.1 ∈ zt := zt_of (List.mem_of_getElem? (i := 68) (by rfl)) (by decide +kernel)
set_option maxRecDepth 20000 in
theorem fl_X1_39 : Cond.fieldLink RX1 39 (TX1 5).1 (TX1 5).2.1 (TX1 5).2.2.1 ∈ zt := zt_of (List.mem_of_getElem? (i := 69) (by rfl)) (by decide +kernel)
set_option maxRecDepth 20000 in
theorem fl_X1_42 : Cond.fieldLink RX1 42 (TX1 6).1 (TX1 6).2.1 (TX1 6).2.2.1 ∈ zt := zt_of (List.mem_of_getElem? (i := 70) (by rfl)) (by decide +kernel)
set_option maxRecDepth 20000 in
theorem fl_X1_46 : Cond.fieldLink RX1 46 (TX1 7).1 (TX1 7).2.1 (TX1 7).2.2.1 ∈ zt := zt_of (List.mem_of_getElem? (i := 71) (by rfl)) (by decide +kernel)
set_option maxRecDepth 20000 in
theorem fl_X1_49 : Cond.fieldLink RX1 49 (TX1 8).1 (TX1 8).2.1 (TX1 8).2.2.1 ∈ zt := zt_of (List.mem_of_getElem? (i := 72) (by rfl)) (by decide +kernel)
set_option maxRecDepth 20000 in
theorem fl_X1_56 : Cond.fieldLink RX1 56 (TX1 9).1 (TX1 9).2.1 (TX1 9).2.2.1 ∈ zt := zt_of (List.mem_of_getElem? (i := 166) (by rfl)) (by decide +kernel)
set_option maxRecDepth 20000 in
theorem fl_X1_59 : Cond.fieldLink RX1 59 (TX1 10).1 (TX1 10).2.1 (TX1 10).2.2.1 ∈ zt := zt_of (List.mem_of_getElem? (i := 167) (by rfl)) (by decide +kernel)
set_option maxRecDepth 20000 in
theorem fl_X1_62 : Cond.fieldLink RX1 62 (TX1 11).1 (TX1 11).2.1 (TX1 11).2.2.1 ∈ zt := zt_of (List.mem_of_getElem? (i := 180) (by rfl)) (by decide +kernel)
set_option maxRecDepth 20000 in
theorem fl_X1_65 : Cond.fieldLink RX1 65 (TX1 12).1 (TX1 12).2.1 (TX1 12).2.2.1 ∈ zt := zt_of (List.mem_of_getElem? (i := 181) (by rfl)) (by decide +kernel)
set_option maxRecDepth 20000 in
theorem fl_X1_68 : Cond.fieldLink RX1 68 (TX1 13).1 (TX1 13).2.1 (TX1 13).2.2.1 ∈ zt := zt_of (List.mem_of_getElem? (i := 182) (by rfl)) (by decide +kernel)
set_option maxRecDepth 20000 in
theorem fl_X1_71 : Cond.fieldLink RX1 71 (TX1 14).1 (TX1 14).2.1 (TX1 14).2.2.1 ∈ zt := zt_of (List.mem_of_getElem? (i := 183) (by rfl)) (by decide +kernel)
theorem zt_code {y : MethodName} {b : ByteArray} {k : Nat} {r : Option FieldType} (h : Cond.code y b k r ∈ zt) : GoodIn zt (Cond.code y b k r :: zt) := by
  intro w hw
  rcases List.mem_cons.mp hw with e | hw
  · subst e
    exact ⟨h, good_of_word (List.mem_filter.mp h).2⟩
  · exact ⟨hw, good_of_word (List.mem_filter.mp hw).2⟩
/-- what a call of an instance method, of a static one, wants of the tables -/
def zv (own : String) (idx : Nat) (y : MethodName) (b : ByteArray) (k : Nat) (r : Option FieldType) (n : Nat) : Prop :=
  Cond.code y b k r ∈ zt ∧ Cond.methodLink own idx y ∈ zt ∧ Cond.initialized y.cls ∈ zt ∧ (y.cls ≠ "java/lang/invoke/MethodHandle" ∧ y.cls ≠ "java/lang/invoke/VarHandle" ∧ (parseMethodDescriptor y.desc).map (fun d => d.parameters.length) = some n) ∧ Cond.instanceMethod y ∈ zt ∧ Cond.selects y.cls y y ∈ zt
def zn (own : String) (idx : Nat) (y : MethodName) (b : ByteArray) (k : Nat) (r : Option FieldType) (n : Nat) : Prop :=
  Cond.code y b k r ∈ zt ∧ Cond.methodLink own idx y ∈ zt ∧ Cond.initialized y.cls ∈ zt ∧ (y.cls ≠ "java/lang/invoke/MethodHandle" ∧ y.cls ≠ "java/lang/invoke/VarHandle" ∧ (parseMethodDescriptor y.desc).map (fun d => d.parameters.length) = some n) ∧ Cond.instanceMethod y ∈ zt
def zs (own : String) (idx : Nat) (y : MethodName) (b : ByteArray) (k : Nat) (r : Option FieldType) (n : Nat) : Prop :=
  Cond.code y b k r ∈ zt ∧ Cond.methodLink own idx y ∈ zt ∧ Cond.initialized y.cls ∈ zt ∧ (y.cls ≠ "java/lang/invoke/MethodHandle" ∧ y.cls ≠ "java/lang/invoke/VarHandle" ∧ (parseMethodDescriptor y.desc).map (fun d => d.parameters.length) = some n) ∧ Cond.static y ∈ zt

set_option maxRecDepth 20000 in
theorem zs_L_L_cell : zs RL 22 yL_cell cL_cell 2 (some .int) 2 := ⟨zt_of (List.mem_of_getElem? (i := 10) (by rfl)) (by decide +kernel), zt_of (List.mem_of_getElem? (i := 7) (by rfl)) (by decide +kernel), zt_of (List.mem_of_getElem? (i := 9) (by rfl)) (by decide +kernel), ⟨by decide +kernel, by decide +kernel, by decide +kernel⟩, zt_of (List.mem_of_getElem? (i := 8) (by rfl)) (by decide +kernel)⟩
set_option maxRecDepth 20000 in
theorem zi_L_X0_init : zn RL 28 yX0_init cX0_init 5 none 2 := ⟨zt_of (List.mem_of_getElem? (i := 13) (by rfl)) (by decide +kernel), zt_of (List.mem_of_getElem? (i := 11) (by rfl)) (by decide +kernel), zt_of (List.mem_of_getElem? (i := 2) (by rfl)) (by decide +kernel), ⟨by decide +kernel, by decide +kernel, by decide +kernel⟩, zt_of (List.mem_of_getElem? (i := 12) (by rfl)) (by decide +kernel)⟩
set_option maxRecDepth 20000 in
theorem zi_L_X1_init : zn RL 33 yX1_init cX1_init 5 none 2 := ⟨zt_of (List.mem_of_getElem? (i := 35) (by rfl)) (by decide +kernel), zt_of (List.mem_of_getElem? (i := 33) (by rfl)) (by decide +kernel), zt_of (List.mem_of_getElem? (i := 5) (by rfl)) (by decide +kernel), ⟨by decide +kernel, by decide +kernel, by decide +kernel⟩, zt_of (List.mem_of_getElem? (i := 34) (by rfl)) (by decide +kernel)⟩
set_option maxRecDepth 20000 in
theorem zv_L_X0_reset : zv RL 34 yX0_reset cX0_reset 1 none 0 := ⟨zt_of (List.mem_of_getElem? (i := 47) (by rfl)) (by decide +kernel), zt_of (List.mem_of_getElem? (i := 44) (by rfl)) (by decide +kernel), zt_of (List.mem_of_getElem? (i := 2) (by rfl)) (by decide +kernel), ⟨by decide +kernel, by decide +kernel, by decide +kernel⟩, zt_of (List.mem_of_getElem? (i := 45) (by rfl)) (by decide +kernel), zt_of (List.mem_of_getElem? (i := 46) (by rfl)) (by decide +kernel)⟩
set_option maxRecDepth 20000 in
theorem zv_X0_X0_clearCurrent : zv RX0 60 yX0_clearCurrent cX0_clearCurrent 2 none 0 := ⟨zt_of (List.mem_of_getElem? (i := 56) (by rfl)) (by decide +kernel), zt_of (List.mem_of_getElem? (i := 53) (by rfl)) (by decide +kernel), zt_of (List.mem_of_getElem? (i := 2) (by rfl)) (by decide +kernel), ⟨by decide +kernel, by decide +kernel, by decide +kernel⟩, zt_of (List.mem_of_getElem? (i := 54) (by rfl)) (by decide +kernel), zt_of (List.mem_of_getElem? (i := 55) (by rfl)) (by decide +kernel)⟩
set_option maxRecDepth 20000 in
theorem zs_X0_X0_put : zs RX0 113 yX0_put cX0_put 3 none 3 := ⟨zt_of (List.mem_of_getElem? (i := 61) (by rfl)) (by decide +kernel), zt_of (List.mem_of_getElem? (i := 59) (by rfl)) (by decide +kernel), zt_of (List.mem_of_getElem? (i := 2) (by rfl)) (by decide +kernel), ⟨by decide +kernel, by decide +kernel, by decide +kernel⟩, zt_of (List.mem_of_getElem? (i := 60) (by rfl)) (by decide +kernel)⟩
set_option maxRecDepth 20000 in
theorem zv_L_X1_reset : zv RL 37 yX1_reset cX1_reset 1 none 0 := ⟨zt_of (List.mem_of_getElem? (i := 65) (by rfl)) (by decide +kernel), zt_of (List.mem_of_getElem? (i := 62) (by rfl)) (by decide +kernel), zt_of (List.mem_of_getElem? (i := 5) (by rfl)) (by decide +kernel), ⟨by decide +kernel, by decide +kernel, by decide +kernel⟩, zt_of (List.mem_of_getElem? (i := 63) (by rfl)) (by decide +kernel), zt_of (List.mem_of_getElem? (i := 64) (by rfl)) (by decide +kernel)⟩
set_option maxRecDepth 20000 in
theorem zv_L_X0_feed : zv RL 38 yX0_feed cX0_feed 3 (some .int) 2 := ⟨zt_of (List.mem_of_getElem? (i := 76) (by rfl)) (by decide +kernel), zt_of (List.mem_of_getElem? (i := 73) (by rfl)) (by decide +kernel), zt_of (List.mem_of_getElem? (i := 2) (by rfl)) (by decide +kernel), ⟨by decide +kernel, by decide +kernel, by decide +kernel⟩, zt_of (List.mem_of_getElem? (i := 74) (by rfl)) (by decide +kernel), zt_of (List.mem_of_getElem? (i := 75) (by rfl)) (by decide +kernel)⟩
set_option maxRecDepth 20000 in
theorem zv_X0_X0_append : zv RX0 63 yX0_append cX0_append 3 none 2 := ⟨zt_of (List.mem_of_getElem? (i := 80) (by rfl)) (by decide +kernel), zt_of (List.mem_of_getElem? (i := 77) (by rfl)) (by decide +kernel), zt_of (List.mem_of_getElem? (i := 2) (by rfl)) (by decide +kernel), ⟨by decide +kernel, by decide +kernel, by decide +kernel⟩, zt_of (List.mem_of_getElem? (i := 78) (by rfl)) (by decide +kernel), zt_of (List.mem_of_getElem? (i := 79) (by rfl)) (by decide +kernel)⟩
set_option maxRecDepth 20000 in
theorem zv_X0_X0_spilledPairs : zv RX0 109 yX0_spilledPairs cX0_spilledPairs 1 (some .int) 0 := ⟨zt_of (List.mem_of_getElem? (i := 84) (by rfl)) (by decide +kernel), zt_of (List.mem_of_getElem? (i := 81) (by rfl)) (by decide +kernel), zt_of (List.mem_of_getElem? (i := 2) (by rfl)) (by decide +kernel), ⟨by decide +kernel, by decide +kernel, by decide +kernel⟩, zt_of (List.mem_of_getElem? (i := 82) (by rfl)) (by decide +kernel), zt_of (List.mem_of_getElem? (i := 83) (by rfl)) (by decide +kernel)⟩
set_option maxRecDepth 20000 in
theorem zv_X0_X0_sortWorkArea : zv RX0 74 yX0_sortWorkArea cX0_sortWorkArea 3 none 0 := ⟨zt_of (List.mem_of_getElem? (i := 88) (by rfl)) (by decide +kernel), zt_of (List.mem_of_getElem? (i := 85) (by rfl)) (by decide +kernel), zt_of (List.mem_of_getElem? (i := 2) (by rfl)) (by decide +kernel), ⟨by decide +kernel, by decide +kernel, by decide +kernel⟩, zt_of (List.mem_of_getElem? (i := 86) (by rfl)) (by decide +kernel), zt_of (List.mem_of_getElem? (i := 87) (by rfl)) (by decide +kernel)⟩
set_option maxRecDepth 20000 in
theorem zv_X0_X0_insertRow : zv RX0 117 yX0_insertRow cX0_insertRow 6 none 2 := ⟨zt_of (List.mem_of_getElem? (i := 92) (by rfl)) (by decide +kernel), zt_of (List.mem_of_getElem? (i := 89) (by rfl)) (by decide +kernel), zt_of (List.mem_of_getElem? (i := 2) (by rfl)) (by decide +kernel), ⟨by decide +kernel, by decide +kernel, by decide +kernel⟩, zt_of (List.mem_of_getElem? (i := 90) (by rfl)) (by decide +kernel), zt_of (List.mem_of_getElem? (i := 91) (by rfl)) (by decide +kernel)⟩
set_option maxRecDepth 20000 in
theorem zs_X0_X0_at : zs RX0 105 yX0_at cX0_at 2 (some .int) 2 := ⟨zt_of (List.mem_of_getElem? (i := 95) (by rfl)) (by decide +kernel), zt_of (List.mem_of_getElem? (i := 93) (by rfl)) (by decide +kernel), zt_of (List.mem_of_getElem? (i := 2) (by rfl)) (by decide +kernel), ⟨by decide +kernel, by decide +kernel, by decide +kernel⟩, zt_of (List.mem_of_getElem? (i := 94) (by rfl)) (by decide +kernel)⟩
set_option maxRecDepth 20000 in
theorem zv_X0_X0_keyOfRow : zv RX0 83 yX0_keyOfRow cX0_keyOfRow 2 (some .int) 1 := ⟨zt_of (List.mem_of_getElem? (i := 99) (by rfl)) (by decide +kernel), zt_of (List.mem_of_getElem? (i := 96) (by rfl)) (by decide +kernel), zt_of (List.mem_of_getElem? (i := 2) (by rfl)) (by decide +kernel), ⟨by decide +kernel, by decide +kernel, by decide +kernel⟩, zt_of (List.mem_of_getElem? (i := 97) (by rfl)) (by decide +kernel), zt_of (List.mem_of_getElem? (i := 98) (by rfl)) (by decide +kernel)⟩
set_option maxRecDepth 20000 in
theorem zv_L_X1_feed : zv RL 42 yX1_feed cX1_feed 3 (some .int) 2 := ⟨zt_of (List.mem_of_getElem? (i := 103) (by rfl)) (by decide +kernel), zt_of (List.mem_of_getElem? (i := 100) (by rfl)) (by decide +kernel), zt_of (List.mem_of_getElem? (i := 5) (by rfl)) (by decide +kernel), ⟨by decide +kernel, by decide +kernel, by decide +kernel⟩, zt_of (List.mem_of_getElem? (i := 101) (by rfl)) (by decide +kernel), zt_of (List.mem_of_getElem? (i := 102) (by rfl)) (by decide +kernel)⟩
set_option maxRecDepth 20000 in
theorem zv_X1_X1_take : zv RX1 52 yX1_take cX1_take 3 none 2 := ⟨zt_of (List.mem_of_getElem? (i := 107) (by rfl)) (by decide +kernel), zt_of (List.mem_of_getElem? (i := 104) (by rfl)) (by decide +kernel), zt_of (List.mem_of_getElem? (i := 5) (by rfl)) (by decide +kernel), ⟨by decide +kernel, by decide +kernel, by decide +kernel⟩, zt_of (List.mem_of_getElem? (i := 105) (by rfl)) (by decide +kernel), zt_of (List.mem_of_getElem? (i := 106) (by rfl)) (by decide +kernel)⟩
set_option maxRecDepth 20000 in
theorem zv_L_X0_feedMany : zv RL 7 yX0_feedMany cX0_feedMany 7 (some .int) 4 := ⟨zt_of (List.mem_of_getElem? (i := 115) (by rfl)) (by decide +kernel), zt_of (List.mem_of_getElem? (i := 112) (by rfl)) (by decide +kernel), zt_of (List.mem_of_getElem? (i := 2) (by rfl)) (by decide +kernel), ⟨by decide +kernel, by decide +kernel, by decide +kernel⟩, zt_of (List.mem_of_getElem? (i := 113) (by rfl)) (by decide +kernel), zt_of (List.mem_of_getElem? (i := 114) (by rfl)) (by decide +kernel)⟩
set_option maxRecDepth 20000 in
theorem zv_L_X1_feedMany : zv RL 46 yX1_feedMany cX1_feedMany 6 (some .int) 4 := ⟨zt_of (List.mem_of_getElem? (i := 121) (by rfl)) (by decide +kernel), zt_of (List.mem_of_getElem? (i := 118) (by rfl)) (by decide +kernel), zt_of (List.mem_of_getElem? (i := 5) (by rfl)) (by decide +kernel), ⟨by decide +kernel, by decide +kernel, by decide +kernel⟩, zt_of (List.mem_of_getElem? (i := 119) (by rfl)) (by decide +kernel), zt_of (List.mem_of_getElem? (i := 120) (by rfl)) (by decide +kernel)⟩
set_option maxRecDepth 20000 in
theorem zv_L_X1_thrown : zv RL 47 yX1_thrown cX1_thrown 1 (some .int) 0 := ⟨zt_of (List.mem_of_getElem? (i := 125) (by rfl)) (by decide +kernel), zt_of (List.mem_of_getElem? (i := 122) (by rfl)) (by decide +kernel), zt_of (List.mem_of_getElem? (i := 5) (by rfl)) (by decide +kernel), ⟨by decide +kernel, by decide +kernel, by decide +kernel⟩, zt_of (List.mem_of_getElem? (i := 123) (by rfl)) (by decide +kernel), zt_of (List.mem_of_getElem? (i := 124) (by rfl)) (by decide +kernel)⟩
set_option maxRecDepth 20000 in
theorem zv_L_X0_seal : zv RL 51 yX0_seal cX0_seal 1 (some .int) 0 := ⟨zt_of (List.mem_of_getElem? (i := 129) (by rfl)) (by decide +kernel), zt_of (List.mem_of_getElem? (i := 126) (by rfl)) (by decide +kernel), zt_of (List.mem_of_getElem? (i := 2) (by rfl)) (by decide +kernel), ⟨by decide +kernel, by decide +kernel, by decide +kernel⟩, zt_of (List.mem_of_getElem? (i := 127) (by rfl)) (by decide +kernel), zt_of (List.mem_of_getElem? (i := 128) (by rfl)) (by decide +kernel)⟩
set_option maxRecDepth 20000 in
theorem zv_X0_X0_countRowsOfRuns : zv RX0 77 yX0_countRowsOfRuns cX0_countRowsOfRuns 2 none 0 := ⟨zt_of (List.mem_of_getElem? (i := 133) (by rfl)) (by decide +kernel), zt_of (List.mem_of_getElem? (i := 130) (by rfl)) (by decide +kernel), zt_of (List.mem_of_getElem? (i := 2) (by rfl)) (by decide +kernel), ⟨by decide +kernel, by decide +kernel, by decide +kernel⟩, zt_of (List.mem_of_getElem? (i := 131) (by rfl)) (by decide +kernel), zt_of (List.mem_of_getElem? (i := 132) (by rfl)) (by decide +kernel)⟩
set_option maxRecDepth 20000 in
theorem zv_X0_X0_mergeRuns : zv RX0 80 yX0_mergeRuns cX0_mergeRuns 3 none 0 := ⟨zt_of (List.mem_of_getElem? (i := 137) (by rfl)) (by decide +kernel), zt_of (List.mem_of_getElem? (i := 134) (by rfl)) (by decide +kernel), zt_of (List.mem_of_getElem? (i := 2) (by rfl)) (by decide +kernel), ⟨by decide +kernel, by decide +kernel, by decide +kernel⟩, zt_of (List.mem_of_getElem? (i := 135) (by rfl)) (by decide +kernel), zt_of (List.mem_of_getElem? (i := 136) (by rfl)) (by decide +kernel)⟩
set_option maxRecDepth 20000 in
theorem zv_X0_X0_mergeNeighbours : zv RX0 120 yX0_mergeNeighbours cX0_mergeNeighbours 3 none 1 := ⟨zt_of (List.mem_of_getElem? (i := 141) (by rfl)) (by decide +kernel), zt_of (List.mem_of_getElem? (i := 138) (by rfl)) (by decide +kernel), zt_of (List.mem_of_getElem? (i := 2) (by rfl)) (by decide +kernel), ⟨by decide +kernel, by decide +kernel, by decide +kernel⟩, zt_of (List.mem_of_getElem? (i := 139) (by rfl)) (by decide +kernel), zt_of (List.mem_of_getElem? (i := 140) (by rfl)) (by decide +kernel)⟩
set_option maxRecDepth 20000 in
theorem zv_X0_X0_mergeStretches : zv RX0 123 yX0_mergeStretches cX0_mergeStretches 7 none 3 := ⟨zt_of (List.mem_of_getElem? (i := 145) (by rfl)) (by decide +kernel), zt_of (List.mem_of_getElem? (i := 142) (by rfl)) (by decide +kernel), zt_of (List.mem_of_getElem? (i := 2) (by rfl)) (by decide +kernel), ⟨by decide +kernel, by decide +kernel, by decide +kernel⟩, zt_of (List.mem_of_getElem? (i := 143) (by rfl)) (by decide +kernel), zt_of (List.mem_of_getElem? (i := 144) (by rfl)) (by decide +kernel)⟩
set_option maxRecDepth 20000 in
theorem zv_L_X1_seal : zv RL 54 yX1_seal cX1_seal 3 (some .int) 0 := ⟨zt_of (List.mem_of_getElem? (i := 149) (by rfl)) (by decide +kernel), zt_of (List.mem_of_getElem? (i := 146) (by rfl)) (by decide +kernel), zt_of (List.mem_of_getElem? (i := 5) (by rfl)) (by decide +kernel), ⟨by decide +kernel, by decide +kernel, by decide +kernel⟩, zt_of (List.mem_of_getElem? (i := 147) (by rfl)) (by decide +kernel), zt_of (List.mem_of_getElem? (i := 148) (by rfl)) (by decide +kernel)⟩
set_option maxRecDepth 20000 in
theorem zv_L_X0_nextRow : zv RL 55 yX0_nextRow cX0_nextRow 1 (some .int) 0 := ⟨zt_of (List.mem_of_getElem? (i := 153) (by rfl)) (by decide +kernel), zt_of (List.mem_of_getElem? (i := 150) (by rfl)) (by decide +kernel), zt_of (List.mem_of_getElem? (i := 2) (by rfl)) (by decide +kernel), ⟨by decide +kernel, by decide +kernel, by decide +kernel⟩, zt_of (List.mem_of_getElem? (i := 151) (by rfl)) (by decide +kernel), zt_of (List.mem_of_getElem? (i := 152) (by rfl)) (by decide +kernel)⟩
set_option maxRecDepth 20000 in
theorem zv_X0_X0_valueOfRow : zv RX0 90 yX0_valueOfRow cX0_valueOfRow 2 (some .int) 1 := ⟨zt_of (List.mem_of_getElem? (i := 157) (by rfl)) (by decide +kernel), zt_of (List.mem_of_getElem? (i := 154) (by rfl)) (by decide +kernel), zt_of (List.mem_of_getElem? (i := 2) (by rfl)) (by decide +kernel), ⟨by decide +kernel, by decide +kernel, by decide +kernel⟩, zt_of (List.mem_of_getElem? (i := 155) (by rfl)) (by decide +kernel), zt_of (List.mem_of_getElem? (i := 156) (by rfl)) (by decide +kernel)⟩
set_option maxRecDepth 20000 in
theorem zv_X0_X0_takeFromRun : zv RX0 96 yX0_takeFromRun cX0_takeFromRun 4 none 1 := ⟨zt_of (List.mem_of_getElem? (i := 161) (by rfl)) (by decide +kernel), zt_of (List.mem_of_getElem? (i := 158) (by rfl)) (by decide +kernel), zt_of (List.mem_of_getElem? (i := 2) (by rfl)) (by decide +kernel), ⟨by decide +kernel, by decide +kernel, by decide +kernel⟩, zt_of (List.mem_of_getElem? (i := 159) (by rfl)) (by decide +kernel), zt_of (List.mem_of_getElem? (i := 160) (by rfl)) (by decide +kernel)⟩
set_option maxRecDepth 20000 in
theorem zv_L_X1_nextRow : zv RL 58 yX1_nextRow cX1_nextRow 1 (some .int) 0 := ⟨zt_of (List.mem_of_getElem? (i := 165) (by rfl)) (by decide +kernel), zt_of (List.mem_of_getElem? (i := 162) (by rfl)) (by decide +kernel), zt_of (List.mem_of_getElem? (i := 5) (by rfl)) (by decide +kernel), ⟨by decide +kernel, by decide +kernel, by decide +kernel⟩, zt_of (List.mem_of_getElem? (i := 163) (by rfl)) (by decide +kernel), zt_of (List.mem_of_getElem? (i := 164) (by rfl)) (by decide +kernel)⟩
set_option maxRecDepth 20000 in
theorem zv_L_X0_nextGroup : zv RL 59 yX0_nextGroup cX0_nextGroup 1 (some .int) 0 := ⟨zt_of (List.mem_of_getElem? (i := 171) (by rfl)) (by decide +kernel), zt_of (List.mem_of_getElem? (i := 168) (by rfl)) (by decide +kernel), zt_of (List.mem_of_getElem? (i := 2) (by rfl)) (by decide +kernel), ⟨by decide +kernel, by decide +kernel, by decide +kernel⟩, zt_of (List.mem_of_getElem? (i := 169) (by rfl)) (by decide +kernel), zt_of (List.mem_of_getElem? (i := 170) (by rfl)) (by decide +kernel)⟩
set_option maxRecDepth 20000 in
theorem zv_X0_X0_addToGroup : zv RX0 100 yX0_addToGroup cX0_addToGroup 3 none 1 := ⟨zt_of (List.mem_of_getElem? (i := 175) (by rfl)) (by decide +kernel), zt_of (List.mem_of_getElem? (i := 172) (by rfl)) (by decide +kernel), zt_of (List.mem_of_getElem? (i := 2) (by rfl)) (by decide +kernel), ⟨by decide +kernel, by decide +kernel, by decide +kernel⟩, zt_of (List.mem_of_getElem? (i := 173) (by rfl)) (by decide +kernel), zt_of (List.mem_of_getElem? (i := 174) (by rfl)) (by decide +kernel)⟩
set_option maxRecDepth 20000 in
theorem zv_L_X1_nextGroup : zv RL 62 yX1_nextGroup cX1_nextGroup 2 (some .int) 0 := ⟨zt_of (List.mem_of_getElem? (i := 179) (by rfl)) (by decide +kernel), zt_of (List.mem_of_getElem? (i := 176) (by rfl)) (by decide +kernel), zt_of (List.mem_of_getElem? (i := 5) (by rfl)) (by decide +kernel), ⟨by decide +kernel, by decide +kernel, by decide +kernel⟩, zt_of (List.mem_of_getElem? (i := 177) (by rfl)) (by decide +kernel), zt_of (List.mem_of_getElem? (i := 178) (by rfl)) (by decide +kernel)⟩
set_option maxRecDepth 20000 in
theorem zv_L_X0_skipTo : zv RL 63 yX0_skipTo cX0_skipTo 3 (some .int) 1 := ⟨zt_of (List.mem_of_getElem? (i := 187) (by rfl)) (by decide +kernel), zt_of (List.mem_of_getElem? (i := 184) (by rfl)) (by decide +kernel), zt_of (List.mem_of_getElem? (i := 2) (by rfl)) (by decide +kernel), ⟨by decide +kernel, by decide +kernel, by decide +kernel⟩, zt_of (List.mem_of_getElem? (i := 185) (by rfl)) (by decide +kernel), zt_of (List.mem_of_getElem? (i := 186) (by rfl)) (by decide +kernel)⟩
set_option maxRecDepth 20000 in
theorem zv_L_X1_skipTo : zv RL 66 yX1_skipTo cX1_skipTo 3 (some .int) 1 := ⟨zt_of (List.mem_of_getElem? (i := 191) (by rfl)) (by decide +kernel), zt_of (List.mem_of_getElem? (i := 188) (by rfl)) (by decide +kernel), zt_of (List.mem_of_getElem? (i := 5) (by rfl)) (by decide +kernel), ⟨by decide +kernel, by decide +kernel, by decide +kernel⟩, zt_of (List.mem_of_getElem? (i := 189) (by rfl)) (by decide +kernel), zt_of (List.mem_of_getElem? (i := 190) (by rfl)) (by decide +kernel)⟩
set_option maxRecDepth 20000 in
theorem zv_L_X0_key : zv RL 67 yX0_key cX0_key 1 (some .int) 0 := ⟨zt_of (List.mem_of_getElem? (i := 195) (by rfl)) (by decide +kernel), zt_of (List.mem_of_getElem? (i := 192) (by rfl)) (by decide +kernel), zt_of (List.mem_of_getElem? (i := 2) (by rfl)) (by decide +kernel), ⟨by decide +kernel, by decide +kernel, by decide +kernel⟩, zt_of (List.mem_of_getElem? (i := 193) (by rfl)) (by decide +kernel), zt_of (List.mem_of_getElem? (i := 194) (by rfl)) (by decide +kernel)⟩
set_option maxRecDepth 20000 in
theorem zv_L_X1_key : zv RL 70 yX1_key cX1_key 1 (some .int) 0 := ⟨zt_of (List.mem_of_getElem? (i := 199) (by rfl)) (by decide +kernel), zt_of (List.mem_of_getElem? (i := 196) (by rfl)) (by decide +kernel), zt_of (List.mem_of_getElem? (i := 5) (by rfl)) (by decide +kernel), ⟨by decide +kernel, by decide +kernel, by decide +kernel⟩, zt_of (List.mem_of_getElem? (i := 197) (by rfl)) (by decide +kernel), zt_of (List.mem_of_getElem? (i := 198) (by rfl)) (by decide +kernel)⟩
set_option maxRecDepth 20000 in
theorem zv_L_X0_value : zv RL 71 yX0_value cX0_value 1 (some .int) 0 := ⟨zt_of (List.mem_of_getElem? (i := 203) (by rfl)) (by decide +kernel), zt_of (List.mem_of_getElem? (i := 200) (by rfl)) (by decide +kernel), zt_of (List.mem_of_getElem? (i := 2) (by rfl)) (by decide +kernel), ⟨by decide +kernel, by decide +kernel, by decide +kernel⟩, zt_of (List.mem_of_getElem? (i := 201) (by rfl)) (by decide +kernel), zt_of (List.mem_of_getElem? (i := 202) (by rfl)) (by decide +kernel)⟩
set_option maxRecDepth 20000 in
theorem zv_L_X1_value : zv RL 74 yX1_value cX1_value 1 (some .int) 0 := ⟨zt_of (List.mem_of_getElem? (i := 207) (by rfl)) (by decide +kernel), zt_of (List.mem_of_getElem? (i := 204) (by rfl)) (by decide +kernel), zt_of (List.mem_of_getElem? (i := 5) (by rfl)) (by decide +kernel), ⟨by decide +kernel, by decide +kernel, by decide +kernel⟩, zt_of (List.mem_of_getElem? (i := 205) (by rfl)) (by decide +kernel), zt_of (List.mem_of_getElem? (i := 206) (by rfl)) (by decide +kernel)⟩
set_option maxRecDepth 20000 in
theorem zv_L_X0_group : zv RL 15 yX0_group cX0_group 2 (some .int) 1 := ⟨zt_of (List.mem_of_getElem? (i := 214) (by rfl)) (by decide +kernel), zt_of (List.mem_of_getElem? (i := 211) (by rfl)) (by decide +kernel), zt_of (List.mem_of_getElem? (i := 2) (by rfl)) (by decide +kernel), ⟨by decide +kernel, by decide +kernel, by decide +kernel⟩, zt_of (List.mem_of_getElem? (i := 212) (by rfl)) (by decide +kernel), zt_of (List.mem_of_getElem? (i := 213) (by rfl)) (by decide +kernel)⟩
set_option maxRecDepth 20000 in
theorem zv_L_X1_group : zv RL 78 yX1_group cX1_group 2 (some .int) 1 := ⟨zt_of (List.mem_of_getElem? (i := 218) (by rfl)) (by decide +kernel), zt_of (List.mem_of_getElem? (i := 215) (by rfl)) (by decide +kernel), zt_of (List.mem_of_getElem? (i := 5) (by rfl)) (by decide +kernel), ⟨by decide +kernel, by decide +kernel, by decide +kernel⟩, zt_of (List.mem_of_getElem? (i := 216) (by rfl)) (by decide +kernel), zt_of (List.mem_of_getElem? (i := 217) (by rfl)) (by decide +kernel)⟩
set_option maxRecDepth 20000 in
theorem zv_L_X0_count : zv RL 19 yX0_count cX0_count 2 (some .int) 1 := ⟨zt_of (List.mem_of_getElem? (i := 225) (by rfl)) (by decide +kernel), zt_of (List.mem_of_getElem? (i := 222) (by rfl)) (by decide +kernel), zt_of (List.mem_of_getElem? (i := 2) (by rfl)) (by decide +kernel), ⟨by decide +kernel, by decide +kernel, by decide +kernel⟩, zt_of (List.mem_of_getElem? (i := 223) (by rfl)) (by decide +kernel), zt_of (List.mem_of_getElem? (i := 224) (by rfl)) (by decide +kernel)⟩
set_option maxRecDepth 20000 in
theorem zv_L_X1_count : zv RL 81 yX1_count cX1_count 2 (some .int) 1 := ⟨zt_of (List.mem_of_getElem? (i := 229) (by rfl)) (by decide +kernel), zt_of (List.mem_of_getElem? (i := 226) (by rfl)) (by decide +kernel), zt_of (List.mem_of_getElem? (i := 5) (by rfl)) (by decide +kernel), ⟨by decide +kernel, by decide +kernel, by decide +kernel⟩, zt_of (List.mem_of_getElem? (i := 227) (by rfl)) (by decide +kernel), zt_of (List.mem_of_getElem? (i := 228) (by rfl)) (by decide +kernel)⟩
set_option maxRecDepth 20000 in
theorem zv_X1_X1_runsLeft : zv RX1 74 yX1_runsLeft cX1_runsLeft 4 (some .int) 0 := ⟨zt_of (List.mem_of_getElem? (i := 233) (by rfl)) (by decide +kernel), zt_of (List.mem_of_getElem? (i := 230) (by rfl)) (by decide +kernel), zt_of (List.mem_of_getElem? (i := 5) (by rfl)) (by decide +kernel), ⟨by decide +kernel, by decide +kernel, by decide +kernel⟩, zt_of (List.mem_of_getElem? (i := 231) (by rfl)) (by decide +kernel), zt_of (List.mem_of_getElem? (i := 232) (by rfl)) (by decide +kernel)⟩
set_option maxRecDepth 20000 in
theorem zm_min : Cond.methodLink RX0 9 Lib.Math.min.name ∈ zt ∧ Cond.static Lib.Math.min.name ∈ zt ∧ Cond.initialized "java/lang/Math" ∈ zt ∧ Cond.code Lib.Math.min.name Lib.Math.min.code 2 (some .int) ∈ zt := ⟨zt_of (List.mem_of_getElem? (i := 17) (by rfl)) (by decide +kernel), zt_of (List.mem_of_getElem? (i := 18) (by rfl)) (by decide +kernel), zt_of (List.mem_of_getElem? (i := 19) (by rfl)) (by decide +kernel), zt_of (List.mem_of_getElem? (i := 20) (by rfl)) (by decide +kernel)⟩
set_option maxRecDepth 20000 in
theorem zm_max : Cond.methodLink RX0 15 Lib.Math.max.name ∈ zt ∧ Cond.static Lib.Math.max.name ∈ zt ∧ Cond.initialized "java/lang/Math" ∈ zt ∧ Cond.code Lib.Math.max.name Lib.Math.max.code 2 (some .int) ∈ zt := ⟨zt_of (List.mem_of_getElem? (i := 21) (by rfl)) (by decide +kernel), zt_of (List.mem_of_getElem? (i := 22) (by rfl)) (by decide +kernel), zt_of (List.mem_of_getElem? (i := 19) (by rfl)) (by decide +kernel), zt_of (List.mem_of_getElem? (i := 23) (by rfl)) (by decide +kernel)⟩
end
section
/-! PURE: counting, sorted orders of places, insertion, merging -/
/-- how many k below n have P (o (lo + k)) -/
def px_cnt (P : Nat → Bool) (o : Nat → Nat) (lo : Nat) : Nat → Nat
  | 0 => 0
  | n + 1 => px_cnt P o lo n + (if P (o (lo + n)) = true then 1 else 0)
theorem px_cnt_map {P : Nat → Bool} {o o' : Nat → Nat} {lo lo' : Nat} : ∀ n, (∀ k, k < n → o' (lo' + k) = o (lo + k)) → px_cnt P o' lo' n = px_cnt P o lo n
  | 0, _ => rfl
  | n + 1, h => by
    simp only [px_cnt]
    rw [px_cnt_map n (fun k hk => h k (by omega)), h n (by omega)]
theorem px_cnt_add {P : Nat → Bool} {o : Nat → Nat} (lo a : Nat) : ∀ b, px_cnt P o lo (a + b) = px_cnt P o lo a + px_cnt P o (lo + a) b
  | 0 => rfl
  | b + 1 => by
    show px_cnt P o lo (a + b + 1) = _
    simp only [px_cnt]
    rw [px_cnt_add lo a b, Nat.add_assoc lo a b]
    omega
theorem px_cnt_1 {P : Nat → Bool} {o : Nat → Nat} (lo : Nat) : px_cnt P o lo 1 = if P (o lo) = true then 1 else 0 := by
  simp [px_cnt]
theorem px_cnt_hd {P : Nat → Bool} {o : Nat → Nat} (lo n : Nat) : px_cnt P o lo (n + 1) = (if P (o lo) = true then 1 else 0) + px_cnt P o (lo + 1) n := by
  rw [Nat.add_comm n 1, px_cnt_add, px_cnt_1]
theorem px_cnt_le {P : Nat → Bool} {o : Nat → Nat} {lo : Nat} : ∀ n, px_cnt P o lo n ≤ n
  | 0 => Nat.le_refl _
  | n + 1 => by
    have := px_cnt_le (P := P) (o := o) (lo := lo) n
    simp only [px_cnt]
    split <;> omega
theorem px_cnt_0 {P : Nat → Bool} {o : Nat → Nat} {lo : Nat} : ∀ n, (∀ k, k < n → P (o (lo + k)) = false) → px_cnt P o lo n = 0
  | 0, _ => rfl
  | n + 1, h => by
    simp only [px_cnt]
    rw [px_cnt_0 n (fun k hk => h k (by omega)), h n (by omega)]
    rfl
theorem px_cnt_0' {P : Nat → Bool} {o : Nat → Nat} {lo : Nat} : ∀ n, px_cnt P o lo n = 0 → ∀ k, k < n → P (o (lo + k)) = false
  | 0, _, k, hk => absurd hk (Nat.not_lt_zero k)
  | n + 1, h, k, hk => by
    simp only [px_cnt] at h
    rcases Nat.lt_or_ge k n with q | q
    · exact px_cnt_0' n (by omega) k q
    · have e : k = n := by omega
      subst e
      cases hP : P (o (lo + k)) with
      | false => rfl
      | true => rw [hP] at h; simp at h
theorem px_cnt_pos {P : Nat → Bool} {o : Nat → Nat} {lo : Nat} : ∀ n, 0 < px_cnt P o lo n → ∃ k, k < n ∧ P (o (lo + k)) = true
  | 0, h => absurd h (Nat.lt_irrefl 0)
  | n + 1, h => by
    simp only [px_cnt] at h
    cases hP : P (o (lo + n)) with
    | true => exact ⟨n, by omega, hP⟩
    | false =>
      rw [hP] at h
      obtain ⟨k, h1, h2⟩ := px_cnt_pos n (by simpa using h)
      exact ⟨k, by omega, h2⟩
theorem px_cnt_pos' {P : Nat → Bool} {o : Nat → Nat} {lo n k : Nat} (hk : k < n) (h : P (o (lo + k)) = true) : 0 < px_cnt P o lo n := by
  rcases Nat.eq_zero_or_pos (px_cnt P o lo n) with q | q
  · have := px_cnt_0' n q k hk
    rw [h] at this
    cases this
  · exact q
/-- places by their keys, those of one key by themselves -/
def px_lt (k : Nat → Int) (i j : Nat) : Prop := k i < k j ∨ (k i = k j ∧ i < j)
def px_srt (k : Nat → Int) (o : Nat → Nat) (lo hi : Nat) : Prop := ∀ a b, lo ≤ a → a < b → b < hi → px_lt k (o a) (o b)
def px_prm (o : Nat → Nat) (lo n : Nat) : Prop := ∀ P : Nat → Bool, px_cnt P o lo n = px_cnt P (fun a => a) lo n
theorem px_lt.tr {k : Nat → Int} {a b c : Nat} (h : px_lt k a b) (h2 : px_lt k b c) : px_lt k a c := by
  unfold px_lt at *
  omega
theorem px_lt.irr {k : Nat → Int} {a : Nat} (h : px_lt k a a) : False := by
  unfold px_lt at h
  omega
theorem px_lt.tri (k : Nat → Int) (a b : Nat) : px_lt k a b ∨ a = b ∨ px_lt k b a := by
  unfold px_lt
  omega
theorem px_lt.le {k : Nat → Int} {a b : Nat} (h : px_lt k a b) : k a ≤ k b := by
  unfold px_lt at h
  omega
theorem px_prm.rng {o : Nat → Nat} {lo n : Nat} (h : px_prm o lo n) {a : Nat} (h1 : lo ≤ a) (h2 : a < lo + n) : lo ≤ o a ∧ o a < lo + n := by
  have e := h (fun i => !decide (lo ≤ i ∧ i < lo + n))
  rw [px_cnt_0 (o := fun a => a) n (fun k hk => by simp; omega)] at e
  have := px_cnt_0' n e (a - lo) (by omega)
  rw [show lo + (a - lo) = a by omega] at this
  simpa using this
theorem px_prm.hit {o : Nat → Nat} {lo n : Nat} (h : px_prm o lo n) {i : Nat} (h1 : lo ≤ i) (h2 : i < lo + n) : ∃ a, lo ≤ a ∧ a < lo + n ∧ o a = i := by
  have e := h (fun j => decide (j = i))
  have hp : 0 < px_cnt (fun j => decide (j = i)) (fun a => a) lo n := px_cnt_pos' (k := i - lo) (by omega) (by simp; omega)
  rw [← e] at hp
  obtain ⟨k, hk, hP⟩ := px_cnt_pos n hp
  exact ⟨lo + k, by omega, by omega, by simpa using hP⟩
theorem px_prm.id (lo n : Nat) : px_prm (fun a => a) lo n := fun _ => rfl
theorem px_prm.cg {o o' : Nat → Nat} {lo n : Nat} (h : px_prm o lo n) (e : ∀ a, lo ≤ a → a < lo + n → o' a = o a) : px_prm o' lo n := fun P => by
  rw [px_cnt_map (o := o) (o' := o') n (fun k hk => e _ (by omega) (by omega))]
  exact h P
theorem px_prm.app {o : Nat → Nat} {lo a b : Nat} (h : px_prm o lo a) (h2 : px_prm o (lo + a) b) : px_prm o lo (a + b) := fun P => by
  rw [px_cnt_add, px_cnt_add, h P, h2 P]
theorem px_srt.cg {k k' : Nat → Int} {o o' : Nat → Nat} {lo hi : Nat} (h : px_srt k o lo hi) (e : ∀ a, lo ≤ a → a < hi → o' a = o a) (ek : ∀ a, lo ≤ a → a < hi → k' (o a) = k (o a)) : px_srt k' o' lo hi := fun a b h1 h2 h3 => by
  have := h a b h1 h2 h3
  rw [e a h1 (by omega), e b (by omega) h3]
  unfold px_lt at *
  rw [ek a h1 (by omega), ek b (by omega) h3]
  exact this
/-- two sorted orders of the same places are one -/
theorem px_uniq {k : Nat → Int} {o o' : Nat → Nat} {lo n : Nat} (hs : px_srt k o lo (lo + n)) (hp : px_prm o lo n) (hs' : px_srt k o' lo (lo + n)) (hp' : px_prm o' lo n) : ∀ a, lo ≤ a → a < lo + n → o a = o' a := by
  intro a
  induction a using Nat.strongRecOn with
  | ind a ih =>
    intro h1 h2
    rcases px_lt.tri k (o a) (o' a) with q | q | q
    · exfalso
      obtain ⟨h3, h4⟩ := hp.rng h1 h2
      obtain ⟨b, b1, b2, b3⟩ := hp'.hit h3 h4
      rcases Nat.lt_trichotomy b a with r | r | r
      · have e := ih b r b1 b2
        have := hs b a b1 r h2
        rw [e, b3] at this
        exact this.irr
      · subst r
        rw [b3] at q
        exact q.irr
      · have := hs' a b h1 r b2
        rw [b3] at this
        exact (q.tr this).irr
    · exact q
    · exfalso
      obtain ⟨h3, h4⟩ := hp'.rng h1 h2
      obtain ⟨b, b1, b2, b3⟩ := hp.hit h3 h4
      rcases Nat.lt_trichotomy b a with r | r | r
      · have e := ih b r b1 b2
        have := hs' b a b1 r h2
        rw [← e, b3] at this
        exact this.irr
      · subst r
        rw [b3] at q
        exact q.irr
      · have := hs a b h1 r b2
        rw [b3] at this
        exact (q.tr this).irr
/-- the place at row is put in at t, those from t on move up by one -/
def px_ins (o : Nat → Nat) (t row : Nat) : Nat → Nat := fun a => if a = t then o row else if t < a ∧ a ≤ row then o (a - 1) else o a
theorem px_ins_lo {o : Nat → Nat} {t row a : Nat} (h : a < t) : px_ins o t row a = o a := by
  unfold px_ins
  rw [if_neg (by omega), if_neg (by omega)]
theorem px_ins_eq {o : Nat → Nat} {t row : Nat} : px_ins o t row t = o row := by
  unfold px_ins
  rw [if_pos rfl]
theorem px_ins_mid {o : Nat → Nat} {t row a : Nat} (h : t < a) (h2 : a ≤ row) : px_ins o t row a = o (a - 1) := by
  unfold px_ins
  rw [if_neg (by omega), if_pos ⟨h, h2⟩]
theorem px_ins_hi {o : Nat → Nat} {t row a : Nat} (ht : t ≤ row) (h : row < a) : px_ins o t row a = o a := by
  unfold px_ins
  rw [if_neg (by omega), if_neg (by omega)]
theorem px_ins_cnt {P : Nat → Bool} {o : Nat → Nat} {lo t row : Nat} (hlo : lo ≤ t) (ht : t ≤ row) : px_cnt P (px_ins o t row) lo (row + 1 - lo) = px_cnt P o lo (row + 1 - lo) := by
  obtain ⟨e, rfl⟩ := Nat.exists_eq_add_of_le hlo
  obtain ⟨d, rfl⟩ := Nat.exists_eq_add_of_le ht
  have h1 : px_cnt P (px_ins o (lo + e) (lo + e + d)) lo (e + (1 + d)) = px_cnt P o lo e + ((if P (o (lo + e + d)) = true then 1 else 0) + px_cnt P o (lo + e) d) := by
    rw [px_cnt_add, px_cnt_add, px_cnt_1, px_ins_eq]
    rw [px_cnt_map (o := o) (o' := px_ins o (lo + e) (lo + e + d)) (lo := lo) (lo' := lo) e (fun k hk => px_ins_lo (by omega))]
    rw [px_cnt_map (o := o) (o' := px_ins o (lo + e) (lo + e + d)) (lo := lo + e) (lo' := lo + e + 1) d (fun k hk => by
      rw [px_ins_mid (by omega) (by omega), show lo + e + 1 + k - 1 = lo + e + k by omega])]
  have h2 : px_cnt P o lo (e + (d + 1)) = px_cnt P o lo e + (px_cnt P o (lo + e) d + (if P (o (lo + e + d)) = true then 1 else 0)) := by
    rw [px_cnt_add]
    rfl
  rw [show lo + e + d + 1 - lo = e + (1 + d) by omega, h1, Nat.add_comm 1 d, h2]
  omega
theorem px_ins_prm {o : Nat → Nat} {lo t row : Nat} (hlo : lo ≤ t) (ht : t ≤ row) (hp : px_prm o lo (row - lo)) (hr : o row = row) : px_prm (px_ins o t row) lo (row + 1 - lo) := fun P => by
  rw [px_ins_cnt hlo ht, show row + 1 - lo = (row - lo) + 1 by omega, px_cnt_add, px_cnt_add, px_cnt_1, px_cnt_1, hp P, show lo + (row - lo) = row by omega, hr]
theorem px_ins_srt {k : Nat → Int} {o : Nat → Nat} {lo t row : Nat} (hlo : lo ≤ t) (ht : t ≤ row) (hs : px_srt k o lo row) (hp : px_prm o lo (row - lo)) (hr : o row = row) (hb : ∀ a, t ≤ a → a < row → k (o row) < k (o a)) (he : t = lo ∨ k (o (t - 1)) ≤ k (o row)) : px_srt k (px_ins o t row) lo (row + 1) := by
  intro a b h1 h2 h3
  rcases Nat.lt_trichotomy b t with q | q | q
  · rw [px_ins_lo (by omega), px_ins_lo q]
    exact hs a b h1 h2 (by omega)
  · subst q
    rw [px_ins_lo h2, px_ins_eq]
    have h4 : k (o (b - 1)) ≤ k (o row) := by
      rcases he with e | e
      · omega
      · exact e
    have h5 : k (o a) ≤ k (o (b - 1)) := by
      rcases Nat.lt_or_ge a (b - 1) with r | r
      · exact (hs a (b - 1) h1 r (by omega)).le
      · rw [show a = b - 1 by omega]
        exact Int.le_refl _
    have h6 := (hp.rng (a := a) h1 (by omega)).2
    unfold px_lt
    omega
  · rw [px_ins_mid (a := b) q (by omega)]
    rcases Nat.lt_trichotomy a t with r | r | r
    · rw [px_ins_lo r]
      exact hs a (b - 1) h1 (by omega) (by omega)
    · subst r
      rw [px_ins_eq]
      exact Or.inl (hb (b - 1) (by omega) (by omega))
    · rw [px_ins_mid r (by omega)]
      exact hs (a - 1) (b - 1) (by omega) (by omega) (by omega)
/-- one place is written -/
def px_up (M : Nat → Nat) (t x : Nat) : Nat → Nat := fun a => if a = t then x else M a
theorem px_up_eq {M : Nat → Nat} {t x : Nat} : px_up M t x t = x := by unfold px_up; rw [if_pos rfl]
theorem px_up_ne {M : Nat → Nat} {t x a : Nat} (h : a ≠ t) : px_up M t x a = M a := by unfold px_up; rw [if_neg h]
/-- a merge under way: L and R are the next ones of both stretches, T the next place to be written -/
def px_mg (k : Nat → Int) (o M : Nat → Nat) (low mid high L R T : Nat) : Prop :=
  (low ≤ L ∧ L ≤ mid ∧ mid ≤ R ∧ R ≤ high ∧ T + mid = L + R) ∧ (∀ P : Nat → Bool, px_cnt P M low (T - low) = px_cnt P o low (L - low) + px_cnt P o mid (R - mid)) ∧ px_srt k M low T ∧
  (∀ a b, low ≤ a → a < T → (L ≤ b ∧ b < mid ∨ R ≤ b ∧ b < high) → px_lt k (M a) (o b))
theorem px_mg_0 {k : Nat → Int} {o M : Nat → Nat} {low mid high : Nat} (h1 : low ≤ mid) (h2 : mid ≤ high) : px_mg k o M low mid high low mid low :=
  ⟨⟨Nat.le_refl _, h1, Nat.le_refl _, h2, by omega⟩, fun P => by simp [px_cnt], fun a b _ _ _ => by omega, fun a b _ _ _ => by omega⟩
theorem px_mg_wr {k : Nat → Int} {o M : Nat → Nat} {low mid high L R T x : Nat} (h : px_mg k o M low mid high L R T) (hlT : low ≤ T) (hx : ∀ a, low ≤ a → a < T → px_lt k (M a) x) : px_srt k (px_up M T x) low (T + 1) := by
  intro a b h1 h2 h3
  rw [px_up_ne (by omega)]
  rcases Nat.lt_or_ge b T with q | q
  · rw [px_up_ne (by omega)]
    exact h.2.2.1 a b h1 h2 q
  · have e : b = T := by omega
    subst e
    rw [px_up_eq]
    exact hx a h1 h2
theorem px_mg_cw {P : Nat → Bool} {M : Nat → Nat} {low T x : Nat} (h : low ≤ T) : px_cnt P (px_up M T x) low (T + 1 - low) = px_cnt P M low (T - low) + (if P x = true then 1 else 0) := by
  rw [show T + 1 - low = (T - low) + 1 by omega, px_cnt_add, px_cnt_1, show low + (T - low) = T by omega, px_up_eq]
  rw [px_cnt_map (o := M) (o' := px_up M T x) (T - low) (fun k hk => px_up_ne (by omega))]
theorem px_mg_l {k : Nat → Int} {o M : Nat → Nat} {low mid high L R T : Nat} (h : px_mg k o M low mid high L R T) (hs : px_srt k o low mid) (hs2 : px_srt k o mid high) (hL : L < mid) (hc : R = high ∨ (R < high ∧ px_lt k (o L) (o R))) : px_mg k o (px_up M T (o L)) low mid high (L + 1) R (T + 1) := by
  obtain ⟨⟨a1, a2, a3, a4, a5⟩, hcn, hsr, hbl⟩ := id h
  refine ⟨⟨by omega, by omega, a3, a4, by omega⟩, fun P => ?_, px_mg_wr h (by omega) (fun a q1 q2 => hbl a L q1 q2 (Or.inl ⟨Nat.le_refl _, hL⟩)), fun a b q1 q2 q3 => ?_⟩
  · rw [px_mg_cw (by omega), hcn P, show L + 1 - low = (L - low) + 1 by omega, px_cnt_add (o := o) low (L - low) 1, px_cnt_1, show low + (L - low) = L by omega]
    omega
  · have key : px_lt k (o L) (o b) := by
      rcases q3 with ⟨r1, r2⟩ | ⟨r1, r2⟩
      · exact hs L b a1 (by omega) r2
      · rcases hc with e | ⟨e1, e2⟩
        · omega
        · rcases Nat.lt_or_ge R b with z | z
          · exact e2.tr (hs2 R b a3 z r2)
          · rw [show b = R by omega]
            exact e2
    rcases Nat.lt_or_ge a T with z | z
    · rw [px_up_ne (by omega)]
      exact hbl a b q1 z (by omega)
    · rw [show a = T by omega, px_up_eq]
      exact key
theorem px_mg_r {k : Nat → Int} {o M : Nat → Nat} {low mid high L R T : Nat} (h : px_mg k o M low mid high L R T) (hs : px_srt k o low mid) (hs2 : px_srt k o mid high) (hR : R < high) (hc : L = mid ∨ (L < mid ∧ px_lt k (o R) (o L))) : px_mg k o (px_up M T (o R)) low mid high L (R + 1) (T + 1) := by
  obtain ⟨⟨a1, a2, a3, a4, a5⟩, hcn, hsr, hbl⟩ := id h
  refine ⟨⟨a1, a2, by omega, by omega, by omega⟩, fun P => ?_, px_mg_wr h (by omega) (fun a q1 q2 => hbl a R q1 q2 (Or.inr ⟨Nat.le_refl _, hR⟩)), fun a b q1 q2 q3 => ?_⟩
  · rw [px_mg_cw (by omega), hcn P, show R + 1 - mid = (R - mid) + 1 by omega, px_cnt_add (o := o) mid (R - mid) 1, px_cnt_1, show mid + (R - mid) = R by omega]
    omega
  · have key : px_lt k (o R) (o b) := by
      rcases q3 with ⟨r1, r2⟩ | ⟨r1, r2⟩
      · rcases hc with e | ⟨e1, e2⟩
        · omega
        · rcases Nat.lt_or_ge L b with z | z
          · exact e2.tr (hs L b a1 z r2)
          · rw [show b = L by omega]
            exact e2
      · exact hs2 R b a3 (by omega) r2
    rcases Nat.lt_or_ge a T with z | z
    · rw [px_up_ne (by omega)]
      exact hbl a b q1 z (by omega)
    · rw [show a = T by omega, px_up_eq]
      exact key
theorem px_mg_end {k : Nat → Int} {o M : Nat → Nat} {low mid high L R : Nat} (h : px_mg k o M low mid high L R high) (hp : px_prm o low (mid - low)) (hp2 : px_prm o mid (high - mid)) : px_srt k M low high ∧ px_prm M low (high - low) := by
  obtain ⟨⟨a1, a2, a3, a4, a5⟩, hcn, hsr, hbl⟩ := h
  have eL : L = mid := by omega
  have eR : R = high := by omega
  subst eL; subst eR
  refine ⟨hsr, fun P => ?_⟩
  rw [hcn P, hp P, hp2 P, show R - low = (L - low) + (R - L) by omega, px_cnt_add, show low + (L - low) = L by omega]
/-- sorted by blocks of so many -/
def px_blk (k : Nat → Int) (o : Nat → Nat) (wd f lo hi : Nat) : Prop := ∀ j, lo ≤ j * wd → j * wd < hi → px_srt k o (j * wd) (min (j * wd + wd) f) ∧ px_prm o (j * wd) (min (j * wd + wd) f - j * wd)
theorem px_blk_step {k : Nat → Int} {o o' : Nat → Nat} {wd f i : Nat} (hmid : i * (2 * wd) + wd < f) (hA : px_blk k o (2 * wd) f 0 (i * (2 * wd))) (hB : px_blk k o wd f (i * (2 * wd)) f)
    (he : ∀ a, (a < i * (2 * wd) ∨ min (i * (2 * wd) + 2 * wd) f ≤ a) → o' a = o a) (hs : px_srt k o' (i * (2 * wd)) (min (i * (2 * wd) + 2 * wd) f)) (hp : px_prm o' (i * (2 * wd)) (min (i * (2 * wd) + 2 * wd) f - i * (2 * wd))) :
    px_blk k o' (2 * wd) f 0 ((i + 1) * (2 * wd)) ∧ px_blk k o' wd f ((i + 1) * (2 * wd)) f := by
  have e1 : (i + 1) * (2 * wd) = i * (2 * wd) + 2 * wd := Nat.succ_mul i (2 * wd)
  constructor
  · intro j _ hj
    rcases Nat.lt_or_ge j i with q | q
    · have h1 : (j + 1) * (2 * wd) ≤ i * (2 * wd) := Nat.mul_le_mul_right _ q
      rw [Nat.succ_mul] at h1
      obtain ⟨g1, g2⟩ := hA j (Nat.zero_le _) (by
        rcases Nat.eq_zero_or_pos wd with z | z
        · subst z; simp at hj
        · omega)
      exact ⟨g1.cg (fun a _ h => he a (by omega)) (fun _ _ _ => rfl), g2.cg (fun a _ h => he a (by omega))⟩
    · have h2 : j < i + 1 := Nat.lt_of_mul_lt_mul_right hj
      have e : j = i := by omega
      subst e
      exact ⟨hs, hp⟩
  · intro j hj hf
    obtain ⟨g1, g2⟩ := hB j (by omega) hf
    exact ⟨g1.cg (fun a h _ => he a (by omega)) (fun _ _ _ => rfl), g2.cg (fun a h _ => he a (by omega))⟩
theorem px_blk_end {k : Nat → Int} {o : Nat → Nat} {wd f i : Nat} (hend : f ≤ i * (2 * wd) + wd) (hA : px_blk k o (2 * wd) f 0 (i * (2 * wd))) (hB : px_blk k o wd f (i * (2 * wd)) f) : px_blk k o (2 * wd) f 0 f := by
  intro j _ hj
  rcases Nat.lt_or_ge j i with q | q
  · refine hA j (Nat.zero_le _) ?_
    rcases Nat.eq_zero_or_pos wd with z | z
    · subst z; omega
    · exact Nat.mul_lt_mul_of_lt_of_le q (Nat.le_refl _) (by omega)
  · have h1 : i * (2 * wd) ≤ j * (2 * wd) := Nat.mul_le_mul_right _ q
    have e : j = i := by
      rcases Nat.lt_or_ge i j with r | r
      · exfalso
        have h2 : (i + 1) * (2 * wd) ≤ j * (2 * wd) := Nat.mul_le_mul_right _ r
        rw [Nat.succ_mul] at h2
        omega
      · omega
    subst e
    have e2 : 2 * j * wd = j * (2 * wd) := by rw [Nat.mul_comm 2 j, Nat.mul_assoc]
    obtain ⟨g1, g2⟩ := hB (2 * j) (by omega) (by omega)
    rw [e2] at g1 g2
    have m1 : min (j * (2 * wd) + wd) f = f := by omega
    have m2 : min (j * (2 * wd) + 2 * wd) f = f := by omega
    rw [m1] at g1 g2
    rw [m2]
    exact ⟨g1, g2⟩
theorem px_blk_all {k : Nat → Int} {o : Nat → Nat} {wd f : Nat} (h : px_blk k o wd f 0 f) (hw : f ≤ wd) : px_srt k o 0 f ∧ px_prm o 0 f := by
  rcases Nat.eq_zero_or_pos f with z | z
  · subst z
    exact ⟨fun a b _ _ h => absurd h (Nat.not_lt_zero b), fun P => rfl⟩
  · obtain ⟨g1, g2⟩ := h 0 (Nat.zero_le _) (by omega)
    have m1 : min (0 * wd + wd) f = f := by omega
    rw [m1] at g1 g2
    simp only [Nat.zero_mul, Nat.sub_zero] at g1 g2
    exact ⟨g1, g2⟩
end
section
/-! BASE: one table of words for all methods; contracts of three kinds (a void method, an int method, a reading method), their begin, their end, their call -/
theorem zv_cw {R : Room} {s : State} {args : Array Value} {own : String} {idx k n : Nat} {y : MethodName} {b : ByteArray} {r : Option FieldType} {rm : Room} (h : zv own idx y b k r n) (hts : ∀ w ∈ zt, w.before args s = true) (hR : rm.frames + 1 ≤ R.frames ∧ 8 + (k + 11) + rm.locals ≤ R.locals) :
    CallW R s args own y.cls idx y b k r (Cond.code y b k r :: zt) rm rm.cells rm.slots n :=
  ⟨callB_of n hts (zt_code h.1) rfl rfl rfl (hts _ h.2.2.1) (hts _ h.2.1) h.2.2.2.1 hR, hts _ h.2.2.2.2.1, hts _ h.2.2.2.2.2⟩
theorem zs_cw {R : Room} {s : State} {args : Array Value} {own : String} {idx k n : Nat} {y : MethodName} {b : ByteArray} {r : Option FieldType} {rm : Room} (h : zs own idx y b k r n) (hts : ∀ w ∈ zt, w.before args s = true) (hR : rm.frames + 1 ≤ R.frames ∧ 8 + (k + 11) + rm.locals ≤ R.locals) :
    CallB R s args own idx y b k r (Cond.code y b k r :: zt) rm rm.cells rm.slots n ∧ (Cond.static y).before args s = true :=
  ⟨callB_of n hts (zt_code h.1) rfl rfl rfl (hts _ h.2.2.1) (hts _ h.2.1) h.2.2.2.1 hR, hts _ h.2.2.2.2⟩
/-- the start of a contract -/
abbrev zPc (D : va_G) (cl : List vw_C) (tys : List (ClassId × FieldType)) (av : List Value) (W0 : va_W) (sz : Nat) : Array Value → State → Prop := va_Pc av (fun U => U.heap.size = sz ∧ va_P D cl W0 U.heap ∧ va_K D cl tys U ∧ va_D (fun _ => True) W0)
abbrev zB {S : Type} (D : va_G) (cl : List vw_C) (tys : List (ClassId × FieldType)) (A : Nat → Prop) (Wf : S → va_W) : S → State → Prop := fun u t => va_P D cl (Wf u) t.heap ∧ va_K D cl tys t ∧ va_D A (Wf u)
def ZV {S : Type} (l : Launch) (y : MethodName) (b : ByteArray) (k : Nat) (rm : Room) (D : va_G) (cl : List vw_C) (tys : List (ClassId × FieldType)) (av : List Value) (W0 : va_W) (post : S → Prop) (Wf : S → va_W) : Prop :=
  ∀ sz : Nat, Met l y (Cond.code y b k none :: zt) rm (zPc D cl tys av W0 sz) (va_Qv post (zB D cl tys (va_A W0 sz) Wf) (va_A W0 sz)) rm.cells rm.slots (va_A W0 sz)
def ZI {S : Type} (l : Launch) (y : MethodName) (b : ByteArray) (k : Nat) (rm : Room) (D : va_G) (cl : List vw_C) (tys : List (ClassId × FieldType)) (av : List Value) (W0 : va_W) (post : Int32 → S → Prop) (Wf : S → va_W) : Prop :=
  ∀ sz : Nat, Met l y (Cond.code y b k (some .int) :: zt) rm (zPc D cl tys av W0 sz) (va_Qi post (zB D cl tys (va_A W0 sz) Wf) (va_A W0 sz)) rm.cells rm.slots (va_A W0 sz)
def ZR (l : Launch) (y : MethodName) (b : ByteArray) (k : Nat) (rm : Room) (D : va_G) (cl : List vw_C) (tys : List (ClassId × FieldType)) (av : List Value) (W0 : va_W) (post : Int32 → Prop) : Prop :=
  ∀ sz : Nat, Met l y (Cond.code y b k (some .int) :: zt) rm (zPc D cl tys av W0 sz) (vp_Si post) rm.cells rm.slots (fun _ => False)
theorem zPc_blind {D : va_G} {cl : List vw_C} {tys : List (ClassId × FieldType)} {av : List Value} {W0 : va_W} {sz : Nat} : FrameBlind (zPc D cl tys av W0 sz) := fun a U g mk q => by
  obtain ⟨q0, q1, qP, qK, qD⟩ := q
  exact ⟨q0, q1, qP, va_K.moved (u := U) (U := U.calling g mk a) (Vm.Alike.refl U.vm) qK, qD⟩
section ZB
variable {p : Program} {l : Launch} {e : Env} {R : Room} {s : State} {m : MethodId} {args : Array Value} {below : List Frame} {meth : Method} {c : Code} {H : Heap} {locs : List Loc} {cells slots : Nat} {Q : State → Prop}
variable {cc : ByteArray} {pc : Nat} {ls : Array Slot} {rest : List Value} {D : va_G} {cl : List vw_C} {A : Nat → Prop} {a : Nat} {tys tys0 : List (ClassId × FieldType)} {W0 : va_W} {nL : Nat} {own : String}
variable {y : MethodName} {b : ByteArray} {k n idx : Nat} {rm : Room} {av : List Value}
/-- the begin of a method: Q stands for its end, hret says how one comes there -/
theorem ZV.of {S : Type} {post : S → Prop} {Wf : S → va_W} (hy : plainName y.cls = true) (hlen : (lg_sl av).length ≤ k)
    (body : ∀ (p : Program) (e : Env) (s : State) (m : MethodId) (args : Array Value) (below : List Frame) (meth : Method) (c : Code) (A : Nat → Prop) (Q : State → Prop) (ls : Array Slot), CallFix p m c b k s args zt y.cls → meth.name = y.name → va_K D cl tys s → va_P D cl W0 s.heap → va_D A W0 → va_S A s.heap s.heap [] → (∀ q, s.heap.size ≤ q → A q) → lv_has ls k (lv_args 0 av) →
      (∀ (u : S) (H : Heap) (locs : List Loc) (pc : Nat) (ls : Array Slot), va_P D cl (Wf u) H → va_D A (Wf u) → va_S A s.heap H locs → post u → decode b pc = .ok (.return_, 1) → W p l e rm s m args below meth c H locs rm.cells rm.slots Q (F0 m pc ls [])) →
      W p l e rm s m args below meth c s.heap [] 0 0 Q (F0 m 0 ls [])) : ZV l y b k rm D cl tys av W0 post Wf := by
  intro sz
  refine Met.ofW (cc := b) (maxL := k) (ret := none) hy rfl ?_
  intro p e s m args below meth c s₁ B hml hv
  obtain ⟨rfl, hsz, hP, hK, hD0⟩ := hv
  have hts := atoms_spec (ws := Cond.code y b k none :: zt) B.pre
  subst hsz
  rw [lg_entry_eq]
  exact body p e s m _ below meth c _ _ _ ⟨B.exec, B.bytes, hml, findClass_of_methodNamed B.named, fun w hw => hts w (List.mem_cons_of_mem _ hw)⟩ (name_of_methodNamed B.named B.method).1 hK hP (hD0.self (sz := s.heap.size)) va_S.rf (fun q h => Or.inr h) (lv_entry av hlen)
    (fun u H locs pc ls hP hD hS hw hdg => W.vret B.exec B.bytes B.returns (fun t ht hW => ⟨⟨u, rfl, hw, by rw [ht]; exact hP, va_K.moved hW.alike hK, hD⟩, hS.F ht⟩) hS.2.2 hdg B.notSynchronized)
theorem ZI.of {S : Type} {post : Int32 → S → Prop} {Wf : S → va_W} (hy : plainName y.cls = true) (hlen : (lg_sl av).length ≤ k)
    (body : ∀ (p : Program) (e : Env) (s : State) (m : MethodId) (args : Array Value) (below : List Frame) (meth : Method) (c : Code) (A : Nat → Prop) (Q : State → Prop) (ls : Array Slot), CallFix p m c b k s args zt y.cls → va_K D cl tys s → va_P D cl W0 s.heap → va_D A W0 → va_S A s.heap s.heap [] → (∀ q, s.heap.size ≤ q → A q) → lv_has ls k (lv_args 0 av) →
      (∀ (v : Int32) (u : S) (H : Heap) (locs : List Loc) (pc : Nat) (ls : Array Slot), va_P D cl (Wf u) H → va_D A (Wf u) → va_S A s.heap H locs → post v u → decode b pc = .ok (.ireturn, 1) → W p l e rm s m args below meth c H locs rm.cells rm.slots Q (F0 m pc ls [.int v])) →
      W p l e rm s m args below meth c s.heap [] 0 0 Q (F0 m 0 ls [])) : ZI l y b k rm D cl tys av W0 post Wf := by
  intro sz
  refine Met.ofW (cc := b) (maxL := k) (ret := some .int) hy rfl ?_
  intro p e s m args below meth c s₁ B hml hv
  obtain ⟨rfl, hsz, hP, hK, hD0⟩ := hv
  have hts := atoms_spec (ws := Cond.code y b k (some .int) :: zt) B.pre
  subst hsz
  rw [lg_entry_eq]
  exact body p e s m _ below meth c _ _ _ ⟨B.exec, B.bytes, hml, findClass_of_methodNamed B.named, fun w hw => hts w (List.mem_cons_of_mem _ hw)⟩ hK hP (hD0.self (sz := s.heap.size)) va_S.rf (fun q h => Or.inr h) (lv_entry av hlen)
    (fun v u H locs pc ls hP hD hS hw hdg => W.iret B.exec B.bytes B.returns (fun t ht hW => ⟨⟨v, u, rfl, hw, by rw [ht]; exact hP, va_K.moved hW.alike hK, hD⟩, hS.F ht⟩) hS.2.2 hdg B.notSynchronized)
theorem ZR.of {post : Int32 → Prop} (hy : plainName y.cls = true) (hlen : (lg_sl av).length ≤ k)
    (body : ∀ (p : Program) (e : Env) (s : State) (m : MethodId) (args : Array Value) (below : List Frame) (meth : Method) (c : Code) (Q : State → Prop) (ls : Array Slot), CallFix p m c b k s args zt y.cls → va_K D cl tys s → va_P D cl W0 s.heap → va_D (fun _ => True) W0 → lv_has ls k (lv_args 0 av) →
      (∀ (v : Int32) (pc : Nat) (ls : Array Slot), post v → decode b pc = .ok (.ireturn, 1) → W p l e rm s m args below meth c s.heap [] rm.cells rm.slots Q (F0 m pc ls [.int v])) →
      W p l e rm s m args below meth c s.heap [] 0 0 Q (F0 m 0 ls [])) : ZR l y b k rm D cl tys av W0 post := by
  intro sz
  refine Met.ofW (cc := b) (maxL := k) (ret := some .int) hy rfl ?_
  intro p e s m args below meth c s₁ B hml hv
  obtain ⟨rfl, hsz, hP, hK, hD0⟩ := hv
  have hts := atoms_spec (ws := Cond.code y b k (some .int) :: zt) B.pre
  subst hsz
  rw [lg_entry_eq]
  exact body p e s m _ below meth c _ _ ⟨B.exec, B.bytes, hml, findClass_of_methodNamed B.named, fun w hw => hts w (List.mem_cons_of_mem _ hw)⟩ hK hP hD0 (lv_entry av hlen)
    (fun v pc ls hw hdg => W.iret B.exec B.bytes B.returns (fun t ht hW => ⟨v, rfl, hw, ht⟩) (fun q hq => absurd hq List.not_mem_nil) hdg B.notSynchronized)
/-- the top of the stack by another name -/
theorem z_eq {x x' : Int32} (h : x = x') (kk : W p l e R s m args below meth c H locs cells slots Q (F0 m pc ls (.int x' :: rest))) : W p l e R s m args below meth c H locs cells slots Q (F0 m pc ls (.int x :: rest)) := by
  rw [h]
  exact kk
theorem z_get {C : String} {T : u_T} {N ci : Nat} {ws : va_W} (C0 : CallFix p m c cc nL s args zt own) (hin : ∀ w ∈ u_ws C T N, w ∈ zt) (hK : va_K D cl tys s) (hP : va_P D cl ws H) (q0 : Nat) {fs : List Value} (he : ws[q0]? = some (a, .inr (ci, fs))) (hc : cl[ci]? = some (C, T, N)) (k : Nat) (hk : k < N) (hl : Cond.fieldLink own idx (T k).1 (T k).2.1 (T k).2.2.1 ∈ zt) {v : Value} (hv : fs[k]? = some v) (hdg : decode cc pc = .ok (.getfield idx, 3))
    (kk : W p l e R s m args below meth c H locs cells slots Q (F0 m (pc + 3) ls (v :: rest))) : W p l e R s m args below meth c H locs cells slots Q (F0 m pc ls (.ref a :: rest)) :=
  va_get C0.1 C0.2.1 C0.2.2.2.2 hin C0.2.2.2.1 hK hP q0 he hc k hk (C0.2.2.2.2 _ hl) (fun _ h => h) hv hdg kk
theorem z_put {C : String} {T : u_T} {N ci : Nat} {ws : va_W} (C0 : CallFix p m c cc nL s args zt own) (hin : ∀ w ∈ u_ws C T N, w ∈ zt) (ty0 : Nat → FieldType) (hty : ∀ k, k < N → parseFieldDescriptor (T k).2.2.1 = some (ty0 k)) (hnm : ∀ a, a < N → ∀ b, b < N → a ≠ b → (T a).2.1 ≠ (T b).2.1) (hK : va_K D cl tys s) (hP : va_P D cl ws H) (hD : va_D A ws) (hS : va_S A s.heap H locs) (q0 : Nat) {fs : List Value} (he : ws[q0]? = some (a, .inr (ci, fs))) (hc : cl[ci]? = some (C, T, N)) (k : Nat) (hk : k < N) (hl : Cond.fieldLink own idx (T k).1 (T k).2.1 (T k).2.2.1 ∈ zt) (hfin : (T k).2.2.2 = false) {ty : FieldType} {v : Value} (hd : parseFieldDescriptor (T k).2.2.1 = some ty) (hn : narrow ty v = v) (hfit : fits ty v = true) (hlen : k < fs.length) (hdg : decode cc pc = .ok (.putfield idx, 3))
    (kk : ∀ (H1 : Heap) (locs1 : List Loc), va_P D cl (ws.set q0 (a, .inr (ci, fs.set k v))) H1 → va_D A (ws.set q0 (a, .inr (ci, fs.set k v))) → va_S A s.heap H1 locs1 → W p l e R s m args below meth c H1 locs1 cells slots Q (F0 m (pc + 3) ls rest)) : W p l e R s m args below meth c H locs cells slots Q (F0 m pc ls (v :: .ref a :: rest)) :=
  va_put C0.1 C0.2.1 C0.2.2.2.2 hin ty0 hty hnm C0.2.2.2.1 hK hP hD hS q0 he hc k hk (C0.2.2.2.2 _ hl) (fun _ h => h) hfin hd hn hfit hlen hdg kk
theorem z_min {i : Nat} (C0 : CallFix p m c cc nL s args zt own) (hw : Cond.methodLink own i Lib.Math.min.name ∈ zt ∧ Cond.static Lib.Math.min.name ∈ zt ∧ Cond.initialized "java/lang/Math" ∈ zt ∧ Cond.code Lib.Math.min.name Lib.Math.min.code 2 (some .int) ∈ zt) (hsize : ls.size = nL) (hR : 1 ≤ R.frames ∧ (rest.map fun v => v.category).sum + 13 ≤ R.locals) (hcs : cells ≤ R.cells ∧ slots ≤ R.slots) {x y : Int32} (hdg : decode cc pc = .ok (.invokestatic i, 3))
    (kk : W p l e R s m args below meth c H locs cells slots Q (F0 m (pc + 3) ls (.int (if y < x then y else x) :: rest))) : W p l e R s m args below meth c H locs cells slots Q (F0 m pc ls (.int y :: .int x :: rest)) :=
  va_mmin C0.1 C0.2.1 (C0.2.2.1.trans hsize.symm) C0.2.2.2.1 (C0.2.2.2.2 _ hw.1) (C0.2.2.2.2 _ hw.2.1) (C0.2.2.2.2 _ hw.2.2.1) (C0.2.2.2.2 _ hw.2.2.2) hR.1 hR.2 hcs.1 hcs.2 hdg kk
theorem z_max {i : Nat} (C0 : CallFix p m c cc nL s args zt own) (hw : Cond.methodLink own i Lib.Math.max.name ∈ zt ∧ Cond.static Lib.Math.max.name ∈ zt ∧ Cond.initialized "java/lang/Math" ∈ zt ∧ Cond.code Lib.Math.max.name Lib.Math.max.code 2 (some .int) ∈ zt) (hsize : ls.size = nL) (hR : 1 ≤ R.frames ∧ (rest.map fun v => v.category).sum + 13 ≤ R.locals) (hcs : cells ≤ R.cells ∧ slots ≤ R.slots) {x y : Int32} (hdg : decode cc pc = .ok (.invokestatic i, 3))
    (kk : W p l e R s m args below meth c H locs cells slots Q (F0 m (pc + 3) ls (.int (if x < y then y else x) :: rest))) : W p l e R s m args below meth c H locs cells slots Q (F0 m pc ls (.int y :: .int x :: rest)) :=
  va_mmax C0.1 C0.2.1 (C0.2.2.1.trans hsize.symm) C0.2.2.2.1 (C0.2.2.2.2 _ hw.1) (C0.2.2.2.2 _ hw.2.1) (C0.2.2.2.2 _ hw.2.2.1) (C0.2.2.2.2 _ hw.2.2.2) hR.1 hR.2 hcs.1 hcs.2 hdg kk
/-- calls that read -/
theorem zr_callV {post : Int32 → Prop} {As : List Value} {st0 : List Value} {q0 ci : Nat} {fs : List Value} {q : vw_C} (C0 : CallFix p m c cc nL s args zt own) (hM : ZR l y b k rm D cl tys0 (.ref a :: As) W0 post) (hv : zv own idx y b k (some .int) n) (hR : rm.frames + 1 ≤ R.frames ∧ 8 + (k + 11) + rm.locals ≤ R.locals) (h0 : rm.cells = 0 ∧ rm.slots = 0) (hn : As.length = n)
    (hK : va_K D cl tys0 s) (hP : va_P D cl W0 H) (hD : va_D A W0) (hc : cl[ci]? = some q) (hq : q.1 = y.cls) (he : W0[q0]? = some (a, .inr (ci, fs))) (hsize : ls.size = nL) (hst : st0 = As.reverse ++ .ref a :: rest) (hW : (rest.map fun v => v.category).sum ≤ 8) (hdg : decode cc pc = .ok (.invokevirtual idx, 3)) (hcs : cells ≤ R.cells ∧ slots ≤ R.slots)
    (kk : ∀ r : Int32, post r → W p l e R s m args below meth c H locs cells slots Q (F0 m (pc + 3) ls (.int r :: rest))) : W p l e R s m args below meth c H locs cells slots Q (F0 m pc ls st0) := by
  have hrec := va_recv hK hP hc he
  rw [hq] at hrec
  have hM0 := hM H.size
  rw [h0.1, h0.2] at hM0
  have hcw := zv_cw (R := R) (rm := rm) hv C0.2.2.2.2 hR
  rw [h0.1, h0.2] at hcw
  exact vp_callSi (W.runV (As := As) (rest := rest) C0 hM0 hcw ⟨zPc_blind, hrec, fun U hU hW => ⟨rfl, by rw [hU], by rw [hU]; exact hP, va_K.moved hW.alike hK, hD.weaken (fun _ _ _ _ => trivial)⟩⟩ rfl hn hsize hst (lv_room hW) hdg ⟨hcs.1, hcs.2⟩) kk
theorem zr_callS {post : Int32 → Prop} {As : List Value} {st0 : List Value} (C0 : CallFix p m c cc nL s args zt own) (hM : ZR l y b k rm D cl tys0 As W0 post) (hv : zs own idx y b k (some .int) n) (hR : rm.frames + 1 ≤ R.frames ∧ 8 + (k + 11) + rm.locals ≤ R.locals) (h0 : rm.cells = 0 ∧ rm.slots = 0) (hn : As.length = n)
    (hK : va_K D cl tys0 s) (hP : va_P D cl W0 H) (hD : va_D A W0) (hsize : ls.size = nL) (hst : st0 = As.reverse ++ rest) (hW : (rest.map fun v => v.category).sum ≤ 8) (hdg : decode cc pc = .ok (.invokestatic idx, 3)) (hcs : cells ≤ R.cells ∧ slots ≤ R.slots)
    (kk : ∀ r : Int32, post r → W p l e R s m args below meth c H locs cells slots Q (F0 m (pc + 3) ls (.int r :: rest))) : W p l e R s m args below meth c H locs cells slots Q (F0 m pc ls st0) := by
  have hM0 := hM H.size
  rw [h0.1, h0.2] at hM0
  have hcw := zs_cw (R := R) (rm := rm) hv C0.2.2.2.2 hR
  rw [h0.1, h0.2] at hcw
  exact vp_callSi (W.runS (As := As) (rest := rest) C0 hM0 hcw ⟨zPc_blind, fun U hU hW => ⟨rfl, by rw [hU], by rw [hU]; exact hP, va_K.moved hW.alike hK, hD.weaken (fun _ _ _ _ => trivial)⟩⟩ rfl hn hsize hst (lv_room hW) hdg ⟨hcs.1, hcs.2⟩) kk
/-- a world behind a call, beside what the call hasn't touched -/
theorem z_frame {w1 w2 W1 : va_W} {H1 : Heap} (hP : va_P D cl (w1 ++ (W0 ++ w2)) H) (hD : va_D A (w1 ++ (W0 ++ w2))) (hk : ∀ q : Nat, q < H.size → ¬ va_A W0 H.size q → H1[q]? = H[q]?) (hF : ∀ q, va_A W0 H.size q → A q) (hP1 : va_P D cl W1 H1) (hD1 : va_D (va_A W0 H.size) W1) :
    va_P D cl (w1 ++ (W1 ++ w2)) H1 ∧ va_D A (w1 ++ (W1 ++ w2)) := by
  have lkA : ∀ (i : Nat) (x : Nat × va_E), w1[i]? = some x → (w1 ++ (W0 ++ w2))[i]? = some x := fun i x h => by
    rw [List.getElem?_append_left (List.getElem?_eq_some_iff.mp h).1]; exact h
  have lk0 : ∀ (i : Nat) (x : Nat × va_E), W0[i]? = some x → (w1 ++ (W0 ++ w2))[w1.length + i]? = some x := fun i x h => by
    rw [List.getElem?_append_right (by omega), Nat.add_sub_cancel_left, List.getElem?_append_left (List.getElem?_eq_some_iff.mp h).1]; exact h
  have lkB : ∀ (i : Nat) (x : Nat × va_E), w2[i]? = some x → (w1 ++ (W0 ++ w2))[w1.length + (W0.length + i)]? = some x := fun i x h => by
    rw [List.getElem?_append_right (by omega), Nat.add_sub_cancel_left, List.getElem?_append_right (by omega), Nat.add_sub_cancel_left]; exact h
  have apA : ∀ (i : Nat) (x : Nat × va_E), w1[i]? = some x → x.1 < H.size ∧ ¬ va_A W0 H.size x.1 := fun i x h => by
    have hl := (hP _ _ (lkA i x h)).lt
    refine ⟨hl, fun z => ?_⟩
    rcases z with ⟨j, e9, hj⟩ | z
    · have := hD.1 _ _ _ _ (lkA i x h) (lk0 j _ hj) rfl
      have := (List.getElem?_eq_some_iff.mp h).1
      omega
    · omega
  have apB : ∀ (i : Nat) (x : Nat × va_E), w2[i]? = some x → x.1 < H.size ∧ ¬ va_A W0 H.size x.1 := fun i x h => by
    have hl := (hP _ _ (lkB i x h)).lt
    refine ⟨hl, fun z => ?_⟩
    rcases z with ⟨j, e9, hj⟩ | z
    · have := hD.1 _ _ _ _ (lkB i x h) (lk0 j _ hj) rfl
      have := (List.getElem?_eq_some_iff.mp hj).1
      omega
    · omega
  have hPA : va_P D cl w1 H1 := fun i x h => (hP _ _ (lkA i x h)).kept (hk x.1 (apA i x h).1 (apA i x h).2)
  have hPB : va_P D cl w2 H1 := fun i x h => (hP _ _ (lkB i x h)).kept (hk x.1 (apB i x h).1 (apB i x h).2)
  have hDA : va_D A w1 := ⟨fun i j x z h1 h2 h3 => hD.1 i j x z (lkA i x h1) (lkA j z h2) h3, fun i x h => hD.2 _ _ (lkA i x h)⟩
  have hDB : va_D A w2 := ⟨fun i j x z h1 h2 h3 => by
    have := hD.1 _ _ x z (lkB i x h1) (lkB j z h2) h3
    omega, fun i x h => hD.2 _ _ (lkB i x h)⟩
  have hDC : va_D A W1 := hD1.weaken (fun _ _ _ h => hF _ h)
  have hCB : va_D A (W1 ++ w2) := hDC.app hDB (fun i j x z h1 h2 h3 => (apB j z h2).2 (by rw [← h3]; exact hD1.2 i x h1))
  refine ⟨hPA.app (hP1.app hPB), hDA.app hCB (fun i j x z h1 h2 h3 => ?_)⟩
  rcases Nat.lt_or_ge j W1.length with q | q
  · rw [List.getElem?_append_left q] at h2
    exact (apA i x h1).2 (by rw [h3]; exact hD1.2 j z h2)
  · rw [List.getElem?_append_right q] at h2
    have := hD.1 _ _ x z (lkA i x h1) (lkB _ z h2) h3
    have := (List.getElem?_eq_some_iff.mp h1).1
    omega
theorem z_freeA {w1 w2 : va_W} {H0 : Heap} (hD : va_D A (w1 ++ (W0 ++ w2))) (hS : va_S A H0 H locs) (hA : ∀ q, H0.size ≤ q → A q) : ∀ q, va_A W0 H.size q → A q := by
  intro q h
  rcases h with ⟨i, e9, h⟩ | h
  · refine hD.2 (w1.length + i) (q, e9) ?_
    rw [List.getElem?_append_right (by omega), Nat.add_sub_cancel_left, List.getElem?_append_left (List.getElem?_eq_some_iff.mp h).1]
    exact h
  · exact hA q (Nat.le_trans hS.1 h)
theorem z_subP {w1 w2 : va_W} (hP : va_P D cl (w1 ++ (W0 ++ w2)) H) : va_P D cl W0 H := fun i x h => hP (w1.length + i) x (by
  rw [List.getElem?_append_right (by omega), Nat.add_sub_cancel_left, List.getElem?_append_left (List.getElem?_eq_some_iff.mp h).1]; exact h)
theorem z_subD {w1 w2 : va_W} (hD : va_D A (w1 ++ (W0 ++ w2))) : va_D A W0 := by
  have lk0 : ∀ (i : Nat) (x : Nat × va_E), W0[i]? = some x → (w1 ++ (W0 ++ w2))[w1.length + i]? = some x := fun i x h => by
    rw [List.getElem?_append_right (by omega), Nat.add_sub_cancel_left, List.getElem?_append_left (List.getElem?_eq_some_iff.mp h).1]; exact h
  exact ⟨fun i j x z h1 h2 h3 => by
    have := hD.1 _ _ x z (lk0 i x h1) (lk0 j z h2) h3
    omega, fun i x h => hD.2 _ _ (lk0 i x h)⟩
/-- calls that write; w1, w2: what lies beside the callee's world -/
theorem zv_callV {S : Type} {post : S → Prop} {Wf : S → va_W} {As : List Value} {st0 : List Value} {q0 ci : Nat} {fs : List Value} {q : vw_C} (w1 w2 : va_W) (C0 : CallFix p m c cc nL s args zt own) (hM : ZV l y b k rm D cl tys0 (.ref a :: As) W0 post Wf) (hv : zv own idx y b k none n) (hR : rm.frames + 1 ≤ R.frames ∧ 8 + (k + 11) + rm.locals ≤ R.locals) (h0 : rm.cells = 0 ∧ rm.slots = 0) (hn : As.length = n)
    (hK : va_K D cl tys0 s) (hP : va_P D cl (w1 ++ (W0 ++ w2)) H) (hD : va_D A (w1 ++ (W0 ++ w2))) (hS : va_S A s.heap H locs) (hA : ∀ q, s.heap.size ≤ q → A q) (hc : cl[ci]? = some q) (hq : q.1 = y.cls) (he : W0[q0]? = some (a, .inr (ci, fs))) (hsize : ls.size = nL) (hst : st0 = As.reverse ++ .ref a :: rest) (hW : (rest.map fun v => v.category).sum ≤ 8) (hdg : decode cc pc = .ok (.invokevirtual idx, 3)) (hcs : cells ≤ R.cells ∧ slots ≤ R.slots)
    (kk : ∀ (u : S) (H1 : Heap) (locs1 : List Loc), post u → va_P D cl (w1 ++ (Wf u ++ w2)) H1 → va_D A (w1 ++ (Wf u ++ w2)) → va_S A s.heap H1 locs1 → W p l e R s m args below meth c H1 locs1 cells slots Q (F0 m (pc + 3) ls rest)) : W p l e R s m args below meth c H locs cells slots Q (F0 m pc ls st0) := by
  have hP0 := z_subP hP
  have hD0 := z_subD hD
  have hrec := va_recv hK hP0 hc he
  rw [hq] at hrec
  have hM0 := hM H.size
  rw [h0.1, h0.2] at hM0
  have hcw := zv_cw (R := R) (rm := rm) hv C0.2.2.2.2 hR
  rw [h0.1, h0.2] at hcw
  have hF := z_freeA hD hS hA
  exact va_callv (va_runV (As := As) (rest := rest) C0 hM0 hcw ⟨zPc_blind, hrec, fun U hU hW => ⟨rfl, by rw [hU], by rw [hU]; exact hP0, va_K.moved hW.alike hK, hD0.weaken (fun _ _ _ _ => trivial)⟩⟩ rfl hn hsize hst (lv_room hW) hdg ⟨hcs.1, hcs.2⟩) hS (fun q _ h => hF q h) hF (fun u t H1 locs1 ht _ hw hB _ hk1 hS1 => by
    obtain ⟨g1, -, g3⟩ := hB
    rw [ht] at g1
    obtain ⟨f1, f2⟩ := z_frame hP hD hk1 hF g1 g3
    exact kk u H1 locs1 hw f1 f2 hS1)
theorem zi_callV {S : Type} {post : Int32 → S → Prop} {Wf : S → va_W} {As : List Value} {st0 : List Value} {q0 ci : Nat} {fs : List Value} {q : vw_C} (w1 w2 : va_W) (C0 : CallFix p m c cc nL s args zt own) (hM : ZI l y b k rm D cl tys0 (.ref a :: As) W0 post Wf) (hv : zv own idx y b k (some .int) n) (hR : rm.frames + 1 ≤ R.frames ∧ 8 + (k + 11) + rm.locals ≤ R.locals) (h0 : rm.cells = 0 ∧ rm.slots = 0) (hn : As.length = n)
    (hK : va_K D cl tys0 s) (hP : va_P D cl (w1 ++ (W0 ++ w2)) H) (hD : va_D A (w1 ++ (W0 ++ w2))) (hS : va_S A s.heap H locs) (hA : ∀ q, s.heap.size ≤ q → A q) (hc : cl[ci]? = some q) (hq : q.1 = y.cls) (he : W0[q0]? = some (a, .inr (ci, fs))) (hsize : ls.size = nL) (hst : st0 = As.reverse ++ .ref a :: rest) (hW : (rest.map fun v => v.category).sum ≤ 8) (hdg : decode cc pc = .ok (.invokevirtual idx, 3)) (hcs : cells ≤ R.cells ∧ slots ≤ R.slots)
    (kk : ∀ (r : Int32) (u : S) (H1 : Heap) (locs1 : List Loc), post r u → va_P D cl (w1 ++ (Wf u ++ w2)) H1 → va_D A (w1 ++ (Wf u ++ w2)) → va_S A s.heap H1 locs1 → W p l e R s m args below meth c H1 locs1 cells slots Q (F0 m (pc + 3) ls (.int r :: rest))) : W p l e R s m args below meth c H locs cells slots Q (F0 m pc ls st0) := by
  have hP0 := z_subP hP
  have hD0 := z_subD hD
  have hrec := va_recv hK hP0 hc he
  rw [hq] at hrec
  have hM0 := hM H.size
  rw [h0.1, h0.2] at hM0
  have hcw := zv_cw (R := R) (rm := rm) hv C0.2.2.2.2 hR
  rw [h0.1, h0.2] at hcw
  have hF := z_freeA hD hS hA
  exact va_calli (va_runV (As := As) (rest := rest) C0 hM0 hcw ⟨zPc_blind, hrec, fun U hU hW => ⟨rfl, by rw [hU], by rw [hU]; exact hP0, va_K.moved hW.alike hK, hD0.weaken (fun _ _ _ _ => trivial)⟩⟩ rfl hn hsize hst (lv_room hW) hdg ⟨hcs.1, hcs.2⟩) hS (fun q _ h => hF q h) hF (fun r u t H1 locs1 ht _ hw hB _ hk1 hS1 => by
    obtain ⟨g1, -, g3⟩ := hB
    rw [ht] at g1
    obtain ⟨f1, f2⟩ := z_frame hP hD hk1 hF g1 g3
    exact kk r u H1 locs1 hw f1 f2 hS1)
theorem zv_callS {S : Type} {post : S → Prop} {Wf : S → va_W} {As : List Value} {st0 : List Value} (w1 w2 : va_W) (C0 : CallFix p m c cc nL s args zt own) (hM : ZV l y b k rm D cl tys0 As W0 post Wf) (hv : zs own idx y b k none n) (hR : rm.frames + 1 ≤ R.frames ∧ 8 + (k + 11) + rm.locals ≤ R.locals) (h0 : rm.cells = 0 ∧ rm.slots = 0) (hn : As.length = n)
    (hK : va_K D cl tys0 s) (hP : va_P D cl (w1 ++ (W0 ++ w2)) H) (hD : va_D A (w1 ++ (W0 ++ w2))) (hS : va_S A s.heap H locs) (hA : ∀ q, s.heap.size ≤ q → A q) (hsize : ls.size = nL) (hst : st0 = As.reverse ++ rest) (hW : (rest.map fun v => v.category).sum ≤ 8) (hdg : decode cc pc = .ok (.invokestatic idx, 3)) (hcs : cells ≤ R.cells ∧ slots ≤ R.slots)
    (kk : ∀ (u : S) (H1 : Heap) (locs1 : List Loc), post u → va_P D cl (w1 ++ (Wf u ++ w2)) H1 → va_D A (w1 ++ (Wf u ++ w2)) → va_S A s.heap H1 locs1 → W p l e R s m args below meth c H1 locs1 cells slots Q (F0 m (pc + 3) ls rest)) : W p l e R s m args below meth c H locs cells slots Q (F0 m pc ls st0) := by
  have hP0 := z_subP hP
  have hD0 := z_subD hD
  have hM0 := hM H.size
  rw [h0.1, h0.2] at hM0
  have hcw := zs_cw (R := R) (rm := rm) hv C0.2.2.2.2 hR
  rw [h0.1, h0.2] at hcw
  have hF := z_freeA hD hS hA
  exact va_callv (va_runS (As := As) (rest := rest) C0 hM0 hcw ⟨zPc_blind, fun U hU hW => ⟨rfl, by rw [hU], by rw [hU]; exact hP0, va_K.moved hW.alike hK, hD0.weaken (fun _ _ _ _ => trivial)⟩⟩ rfl hn hsize hst (lv_room hW) hdg ⟨hcs.1, hcs.2⟩) hS (fun q _ h => hF q h) hF (fun u t H1 locs1 ht _ hw hB _ hk1 hS1 => by
    obtain ⟨g1, -, g3⟩ := hB
    rw [ht] at g1
    obtain ⟨f1, f2⟩ := z_frame hP hD hk1 hF g1 g3
    exact kk u H1 locs1 hw f1 f2 hS1)
end ZB
end
section
/-! X0: ExternalSorter's cells; its two static methods as rows -/
abbrev classes : List vw_C := vwCl
def za (n : Nat) (f : Nat → Int32) (i : Int32) : Int32 := if i < 0 then 0 else if nI n ≤ i then 0 else f i.toNatClampNeg
def zp (n : Nat) (f : Nat → Int32) (i x : Int32) : Nat → Int32 := if i < 0 then f else if nI n ≤ i then f else upd f i.toNatClampNeg x
theorem za_at {n j : Nat} {f : Nat → Int32} (h : j < n) (hn : n < 2 ^ 31) : za n f (nI j) = f j := by
  unfold za
  rw [if_neg (nI_pos (by omega)), if_neg (nI_ge h hn), nI_clamp (by omega)]
theorem zp_at {n j : Nat} {f : Nat → Int32} {x : Int32} (h : j < n) (hn : n < 2 ^ 31) : zp n f (nI j) x = upd f j x := by
  unfold zp
  rw [if_neg (nI_pos (by omega)), if_neg (nI_ge h hn), nI_clamp (by omega)]
theorem zx_in {n : Nat} {i : Int32} (h : ¬ i < 0) (h2 : ¬ nI n ≤ i) (hn : n < 2 ^ 31) : vp_in i n := by
  obtain ⟨j, h3, h4, -⟩ := pk_mu h h2 hn
  rw [h4]
  exact vp_in_nI h3 hn
theorem upd_eq {f : Nat → Int32} {k : Nat} {x : Int32} : upd f k x k = x := pk_us
theorem upd_ne {f : Nat → Int32} {k j : Nat} {x : Int32} (h : j ≠ k) : upd f k x j = f j := pk_un h
abbrev rX_at : Room := { frames := 0, cells := 0, slots := 0, locals := 0 }
theorem z_split {ws : va_W} {q0 : Nat} {x : Nat × va_E} (h : ws[q0]? = some x) : ws = ws.take q0 ++ ([x] ++ ws.drop (q0 + 1)) ∧ ∀ x', ws.set q0 x' = ws.take q0 ++ ([x'] ++ ws.drop (q0 + 1)) := by
  induction ws generalizing q0 with
  | nil => simp at h
  | cons a l ih =>
    cases q0 with
    | zero =>
      simp at h
      subst h
      simp
    | succ k =>
      obtain ⟨h1, h2⟩ := ih (q0 := k) (by simpa using h)
      constructor
      · simp only [List.take_succ_cons, List.drop_succ_cons, List.cons_append]
        exact congrArg (a :: ·) h1
      · intro x'
        simp only [List.set_cons_succ, List.take_succ_cons, List.drop_succ_cons, List.cons_append]
        exact congrArg (a :: ·) (h2 x')
section ZB0
variable {p : Program} {l : Launch} {e : Env} {R : Room} {s : State} {m : MethodId} {args : Array Value} {below : List Frame} {meth : Method} {c : Code} {H : Heap} {locs : List Loc} {cells slots : Nat} {Q : State → Prop}
variable {cc : ByteArray} {pc : Nat} {ls : Array Slot} {rest : List Value} {D : va_G} {cl : List vw_C} {A : Nat → Prop} {a : Nat} {tys tys0 : List (ClassId × FieldType)} {W0 : va_W} {nL : Nat} {own : String}
variable {y : MethodName} {b : ByteArray} {k n idx : Nat} {rm : Room} {av : List Value}
theorem zv_callV0 {S : Type} {post : S → Prop} {Wf : S → va_W} {As : List Value} {st0 : List Value} {q0 ci : Nat} {fs : List Value} {q : vw_C} (C0 : CallFix p m c cc nL s args zt own) (hM : ZV l y b k rm D cl tys0 (.ref a :: As) W0 post Wf) (hv : zv own idx y b k none n) (hR : rm.frames + 1 ≤ R.frames ∧ 8 + (k + 11) + rm.locals ≤ R.locals) (h0 : rm.cells = 0 ∧ rm.slots = 0) (hn : As.length = n)
    (hK : va_K D cl tys0 s) (hP : va_P D cl W0 H) (hD : va_D A W0) (hS : va_S A s.heap H locs) (hA : ∀ q, s.heap.size ≤ q → A q) (hc : cl[ci]? = some q) (hq : q.1 = y.cls) (he : W0[q0]? = some (a, .inr (ci, fs))) (hsize : ls.size = nL) (hst : st0 = As.reverse ++ .ref a :: rest) (hW : (rest.map fun v => v.category).sum ≤ 8) (hdg : decode cc pc = .ok (.invokevirtual idx, 3)) (hcs : cells ≤ R.cells ∧ slots ≤ R.slots)
    (kk : ∀ (u : S) (H1 : Heap) (locs1 : List Loc), post u → va_P D cl (Wf u) H1 → va_D A (Wf u) → va_S A s.heap H1 locs1 → W p l e R s m args below meth c H1 locs1 cells slots Q (F0 m (pc + 3) ls rest)) : W p l e R s m args below meth c H locs cells slots Q (F0 m pc ls st0) :=
  zv_callV [] [] C0 hM hv hR h0 hn hK (by rw [List.nil_append, List.append_nil]; exact hP) (by rw [List.nil_append, List.append_nil]; exact hD) hS hA hc hq he hsize hst hW hdg hcs
    (fun u H1 locs1 hw hP1 hD1 hS1 => kk u H1 locs1 hw (by rw [List.nil_append, List.append_nil] at hP1; exact hP1) (by rw [List.nil_append, List.append_nil] at hD1; exact hD1) hS1)
theorem zi_callV0 {S : Type} {post : Int32 → S → Prop} {Wf : S → va_W} {As : List Value} {st0 : List Value} {q0 ci : Nat} {fs : List Value} {q : vw_C} (C0 : CallFix p m c cc nL s args zt own) (hM : ZI l y b k rm D cl tys0 (.ref a :: As) W0 post Wf) (hv : zv own idx y b k (some .int) n) (hR : rm.frames + 1 ≤ R.frames ∧ 8 + (k + 11) + rm.locals ≤ R.locals) (h0 : rm.cells = 0 ∧ rm.slots = 0) (hn : As.length = n)
    (hK : va_K D cl tys0 s) (hP : va_P D cl W0 H) (hD : va_D A W0) (hS : va_S A s.heap H locs) (hA : ∀ q, s.heap.size ≤ q → A q) (hc : cl[ci]? = some q) (hq : q.1 = y.cls) (he : W0[q0]? = some (a, .inr (ci, fs))) (hsize : ls.size = nL) (hst : st0 = As.reverse ++ .ref a :: rest) (hW : (rest.map fun v => v.category).sum ≤ 8) (hdg : decode cc pc = .ok (.invokevirtual idx, 3)) (hcs : cells ≤ R.cells ∧ slots ≤ R.slots)
    (kk : ∀ (r : Int32) (u : S) (H1 : Heap) (locs1 : List Loc), post r u → va_P D cl (Wf u) H1 → va_D A (Wf u) → va_S A s.heap H1 locs1 → W p l e R s m args below meth c H1 locs1 cells slots Q (F0 m (pc + 3) ls (.int r :: rest))) : W p l e R s m args below meth c H locs cells slots Q (F0 m pc ls st0) :=
  zi_callV [] [] C0 hM hv hR h0 hn hK (by rw [List.nil_append, List.append_nil]; exact hP) (by rw [List.nil_append, List.append_nil]; exact hD) hS hA hc hq he hsize hst hW hdg hcs
    (fun r u H1 locs1 hw hP1 hD1 hS1 => kk r u H1 locs1 hw (by rw [List.nil_append, List.append_nil] at hP1; exact hP1) (by rw [List.nil_append, List.append_nil] at hD1; exact hD1) hS1)
end ZB0
set_option maxHeartbeats 4000000 in
set_option maxRecDepth 100000 in
theorem c_at (l : Launch) (D : va_G) (a : Nat) (cA : ClassId) (n : Nat) (f : Nat → Int32) (i : Int32) (hn : n < 2 ^ 31) : ZR l yX0_at cX0_at 2 rX_at D classes [(cA, .int)] [.ref a, .int i] [(a, .inl (cA, n, .inl f))] (fun r => r = za n f i) := by
  refine ZR.of (by decide +kernel) (Nat.le_of_ble_eq_true rfl) ?_
  intro p e s m args below meth c Q ls C0 hK hP hD hl hret
  have hx := C0.1
  have hb := C0.2.1
  have hl : lv_has ls 2 [(0, .ref a), (1, .int i)] := hl
  refine lv_iload_n hx hb dX0_at_0 rfl (lv_at hl 1 rfl) ?_
  refine lv_if_lt (tgt := 16) hx hb dX0_at_1 (by decide) (fun c1 => ?_) (fun c1 => ?_)
  · refine lv_iconst (v := 0) hx hb dX0_at_16 (by decide) ?_
    exact hret _ _ _ (by unfold za; first | rw [if_pos c1] | rw [if_neg c1, if_pos c2] | rw [if_neg c1, if_neg c2]) dX0_at_17
  · refine lv_iload_n hx hb dX0_at_4 rfl (lv_at hl 1 rfl) ?_
    refine lv_aload_n hx hb dX0_at_5 rfl (lv_at hl 0 rfl) ?_
    refine va_alen (v := nI n) hx hb hK hP 0 0 rfl rfl rfl dX0_at_6 ?_
    refine lv_icmp_ge (tgt := 16) hx hb dX0_at_7 (by decide) (fun c2 => ?_) (fun c2 => ?_)
    · refine lv_iconst (v := 0) hx hb dX0_at_16 (by decide) ?_
      exact hret _ _ _ (by unfold za; first | rw [if_pos c1] | rw [if_neg c1, if_pos c2] | rw [if_neg c1, if_neg c2]) dX0_at_17
    · refine lv_aload_n hx hb dX0_at_10 rfl (lv_at hl 0 rfl) ?_
      refine lv_iload_n hx hb dX0_at_11 rfl (lv_at hl 1 rfl) ?_
      refine va_iald hx hb hK hP 0 0 rfl rfl (zx_in c1 c2 hn) dX0_at_12 ?_
      refine lv_goto (tgt := 17) hx hb dX0_at_13 (by decide) ?_
      exact hret _ _ _ (by unfold za; first | rw [if_pos c1] | rw [if_neg c1, if_pos c2] | rw [if_neg c1, if_neg c2]) dX0_at_17
abbrev rX_put : Room := { frames := 0, cells := 0, slots := 0, locals := 0 }
set_option maxHeartbeats 4000000 in
set_option maxRecDepth 100000 in
theorem c_put (l : Launch) (D : va_G) (a : Nat) (cA : ClassId) (n : Nat) (f : Nat → Int32) (i x : Int32) (hn : n < 2 ^ 31) : ZV (S := Unit) l yX0_put cX0_put 3 rX_put D classes [(cA, .int)] [.ref a, .int i, .int x] [(a, .inl (cA, n, .inl f))] (fun _ => True) (fun _ => [(a, .inl (cA, n, .inl (zp n f i x)))]) := by
  refine ZV.of (by decide +kernel) (Nat.le_of_ble_eq_true rfl) ?_
  intro p e s m args below meth c A Q ls C0 hname hK hP hD hS hA hl hret
  have hx := C0.1
  have hb := C0.2.1
  have hl : lv_has ls 3 [(0, .ref a), (1, .int i), (2, .int x)] := hl
  refine lv_iload_n hx hb dX0_put_0 rfl (lv_at hl 1 rfl) ?_
  refine lv_if_lt (tgt := 14) hx hb dX0_put_1 (by decide) (fun c1 => ?_) (fun c1 => ?_)
  · have ef : zp n f i x = f := by unfold zp; first | rw [if_pos c1] | rw [if_neg c1, if_pos c2] | rw [if_neg c1, if_neg c2]
    rw [show f = zp n f i x from ef.symm] at hP hD
    exact hret (()) _ _ _ _ hP hD hS (trivial) dX0_put_14
  · refine lv_iload_n hx hb dX0_put_4 rfl (lv_at hl 1 rfl) ?_
    refine lv_aload_n hx hb dX0_put_5 rfl (lv_at hl 0 rfl) ?_
    refine va_alen (v := nI n) hx hb hK hP 0 0 rfl rfl rfl dX0_put_6 ?_
    refine lv_icmp_ge (tgt := 14) hx hb dX0_put_7 (by decide) (fun c2 => ?_) (fun c2 => ?_)
    · have ef : zp n f i x = f := by unfold zp; first | rw [if_pos c1] | rw [if_neg c1, if_pos c2] | rw [if_neg c1, if_neg c2]
      rw [show f = zp n f i x from ef.symm] at hP hD
      exact hret (()) _ _ _ _ hP hD hS (trivial) dX0_put_14
    · refine lv_aload_n hx hb dX0_put_10 rfl (lv_at hl 0 rfl) ?_
      refine lv_iload_n hx hb dX0_put_11 rfl (lv_at hl 1 rfl) ?_
      refine lv_iload_n hx hb dX0_put_12 rfl (lv_at hl 2 rfl) ?_
      refine va_iast hx hb hK hP hD hS 0 0 rfl rfl (zx_in c1 c2 hn) dX0_put_13 (fun H locs hP hD hS => ?_)
      have hP : va_P D classes [(a, .inl (cA, n, .inl (upd f i.toNatClampNeg x)))] H := hP
      have hD : va_D A [(a, .inl (cA, n, .inl (upd f i.toNatClampNeg x)))] := hD
      have ef : zp n f i x = upd f i.toNatClampNeg x := by unfold zp; first | rw [if_pos c1] | rw [if_neg c1, if_pos c2] | rw [if_neg c1, if_neg c2]
      rw [← ef] at hP hD
      exact hret (()) _ _ _ _ hP hD hS (trivial) dX0_put_14
section ZX
variable {p : Program} {l : Launch} {e : Env} {R : Room} {s : State} {m : MethodId} {args : Array Value} {below : List Frame} {meth : Method} {c : Code} {H : Heap} {locs : List Loc} {cells slots : Nat} {Q : State → Prop}
variable {cc : ByteArray} {pc : Nat} {ls : Array Slot} {rest : List Value} {D : va_G} {A : Nat → Prop} {a : Nat} {tys : List (ClassId × FieldType)} {ws : va_W} {nL : Nat}
theorem zx_at {cA : ClassId} {n : Nat} {f : Nat → Int32} {i : Int32} (C0 : CallFix p m c cc nL s args zt RX0) (hn : n < 2 ^ 31) (hK : va_K D classes tys s) (hP : va_P D classes ws H) (hD : va_D A ws) (q0 t0 : Nat) (ha : ws[q0]? = some (a, .inl (cA, n, .inl f))) (ht : tys[t0]? = some (cA, .int)) (hsize : ls.size = nL) (hW : (rest.map fun v => v.category).sum ≤ 8) (hR : 1 ≤ R.frames ∧ 21 ≤ R.locals) (hcs : cells ≤ R.cells ∧ slots ≤ R.slots) (hdg : decode cc pc = .ok (.invokestatic 105, 3))
    (kk : W p l e R s m args below meth c H locs cells slots Q (F0 m (pc + 3) ls (.int (za n f i) :: rest))) : W p l e R s m args below meth c H locs cells slots Q (F0 m pc ls (.int i :: .ref a :: rest)) :=
  zr_callS (As := [.ref a, .int i]) (rest := rest) (W0 := [(a, .inl (cA, n, .inl f))]) (tys0 := [(cA, .int)]) (A := A) C0 (c_at l D a cA n f i hn) zs_X0_X0_at ⟨hR.1, hR.2⟩ ⟨rfl, rfl⟩ rfl (hK.sub [t0] (by simp [ht])) (hP.sub [q0] (by simp [ha])) (hD.sub [q0] rfl (by simp [ha])) hsize rfl hW hdg hcs (fun r er => by subst er; exact kk)
theorem zx_put {cA : ClassId} {n : Nat} {f : Nat → Int32} {i x : Int32} (C0 : CallFix p m c cc nL s args zt RX0) (hn : n < 2 ^ 31) (hK : va_K D classes tys s) (hP : va_P D classes ws H) (hD : va_D A ws) (hS : va_S A s.heap H locs) (hA : ∀ q, s.heap.size ≤ q → A q) (q0 t0 : Nat) (ha : ws[q0]? = some (a, .inl (cA, n, .inl f))) (ht : tys[t0]? = some (cA, .int)) (hsize : ls.size = nL) (hW : (rest.map fun v => v.category).sum ≤ 8) (hR : 1 ≤ R.frames ∧ 22 ≤ R.locals) (hcs : cells ≤ R.cells ∧ slots ≤ R.slots) (hdg : decode cc pc = .ok (.invokestatic 113, 3))
    (kk : ∀ (H1 : Heap) (locs1 : List Loc), va_P D classes (ws.set q0 (a, .inl (cA, n, .inl (zp n f i x)))) H1 → va_D A (ws.set q0 (a, .inl (cA, n, .inl (zp n f i x)))) → va_S A s.heap H1 locs1 → W p l e R s m args below meth c H1 locs1 cells slots Q (F0 m (pc + 3) ls rest)) : W p l e R s m args below meth c H locs cells slots Q (F0 m pc ls (.int x :: .int i :: .ref a :: rest)) := by
  obtain ⟨h1, h2⟩ := z_split ha
  rw [h1] at hP hD
  rw [h2] at kk
  exact zv_callS (As := [.ref a, .int i, .int x]) (rest := rest) (W0 := [(a, .inl (cA, n, .inl f))]) (tys0 := [(cA, .int)]) (A := A) (ws.take q0) (ws.drop (q0 + 1)) C0 (c_put l D a cA n f i x hn) zs_X0_X0_put ⟨hR.1, hR.2⟩ ⟨rfl, rfl⟩ rfl (hK.sub [t0] (by simp [ht])) hP hD hS hA hsize rfl hW hdg hcs (fun u H1 locs1 _ hP1 hD1 hS1 => kk H1 locs1 hP1 hD1 hS1)
end ZX
abbrev xw (ad : Nat → Nat) (cs : Nat → ClassId) (w n nr : Nat) (K V O M RL G : Nat → Int32) (fed sp se co op ck cv : Int32) : va_W := [(ad 0, .inr (0, [.int (nI w), .int (nI n), .ref (ad 1), .ref (ad 2), .ref (ad 3), .ref (ad 4), .ref (ad 5), .int fed, .int sp, .int se, .int co, .int op, .int ck, .int cv, .ref (ad 6)])), (ad 1, .inl (cs 1, n, .inl K)), (ad 2, .inl (cs 2, n, .inl V)), (ad 3, .inl (cs 3, n, .inl O)), (ad 4, .inl (cs 4, n, .inl M)), (ad 5, .inl (cs 5, nr, .inl RL)), (ad 6, .inl (cs 6, 4, .inl G))]
abbrev xt (cs : Nat → ClassId) : List (ClassId × FieldType) := [(cs 1, .int), (cs 2, .int), (cs 3, .int), (cs 4, .int), (cs 5, .int), (cs 6, .int)]
abbrev rX_keyOfRow : Room := { frames := 1, cells := 0, slots := 0, locals := 21 }
set_option maxHeartbeats 4000000 in
set_option maxRecDepth 100000 in
theorem c_keyOfRow (l : Launch) (D : va_G) (ad : Nat → Nat) (cs : Nat → ClassId) (w n nr : Nat) (hn : n < 2 ^ 31) (hnr : nr < 2 ^ 31) (K V O M RL G : Nat → Int32) (fed sp se co op ck cv : Int32) (row : Int32)  : ZR l yX0_keyOfRow cX0_keyOfRow 2 rX_keyOfRow D classes (xt cs) [.ref (ad 0), .int row] (xw ad cs w n nr K V O M RL G fed sp se co op ck cv) (fun r => r = za n K (za n O row)) := by
  refine ZR.of (by decide +kernel) (Nat.le_of_ble_eq_true rfl) ?_
  intro p e s m args below meth c Q ls C0 hK hP hD hl hret
  have hx := C0.1
  have hb := C0.2.1
  have hl : lv_has ls 2 [(0, .ref (ad 0)), (1, .int row)] := hl
  refine lv_aload_n hx hb dX0_keyOfRow_0 rfl (lv_at hl 0 rfl) ?_
  refine z_get C0 zt_x0 hK hP 0 rfl rfl 2 (by decide) fl_X0_25 rfl dX0_keyOfRow_1 ?_
  refine lv_aload_n hx hb dX0_keyOfRow_4 rfl (lv_at hl 0 rfl) ?_
  refine z_get C0 zt_x0 hK hP 0 rfl rfl 4 (by decide) fl_X0_32 rfl dX0_keyOfRow_5 ?_
  refine lv_iload_n hx hb dX0_keyOfRow_8 rfl (lv_at hl 1 rfl) ?_
  refine zx_at C0 hn hK hP hD 3 2 rfl rfl hl.1 (Nat.le_of_ble_eq_true rfl) ⟨by decide, by decide⟩ ⟨Nat.zero_le _, Nat.zero_le _⟩ dX0_keyOfRow_9 ?_
  refine zx_at C0 hn hK hP hD 1 0 rfl rfl hl.1 (Nat.le_of_ble_eq_true rfl) ⟨by decide, by decide⟩ ⟨Nat.zero_le _, Nat.zero_le _⟩ dX0_keyOfRow_12 ?_
  exact hret _ _ _ (rfl) dX0_keyOfRow_15
abbrev rX_valueOfRow : Room := { frames := 1, cells := 0, slots := 0, locals := 21 }
set_option maxHeartbeats 4000000 in
set_option maxRecDepth 100000 in
theorem c_valueOfRow (l : Launch) (D : va_G) (ad : Nat → Nat) (cs : Nat → ClassId) (w n nr : Nat) (hn : n < 2 ^ 31) (hnr : nr < 2 ^ 31) (K V O M RL G : Nat → Int32) (fed sp se co op ck cv : Int32) (row : Int32)  : ZR l yX0_valueOfRow cX0_valueOfRow 2 rX_valueOfRow D classes (xt cs) [.ref (ad 0), .int row] (xw ad cs w n nr K V O M RL G fed sp se co op ck cv) (fun r => r = za n V (za n O row)) := by
  refine ZR.of (by decide +kernel) (Nat.le_of_ble_eq_true rfl) ?_
  intro p e s m args below meth c Q ls C0 hK hP hD hl hret
  have hx := C0.1
  have hb := C0.2.1
  have hl : lv_has ls 2 [(0, .ref (ad 0)), (1, .int row)] := hl
  refine lv_aload_n hx hb dX0_valueOfRow_0 rfl (lv_at hl 0 rfl) ?_
  refine z_get C0 zt_x0 hK hP 0 rfl rfl 3 (by decide) fl_X0_29 rfl dX0_valueOfRow_1 ?_
  refine lv_aload_n hx hb dX0_valueOfRow_4 rfl (lv_at hl 0 rfl) ?_
  refine z_get C0 zt_x0 hK hP 0 rfl rfl 4 (by decide) fl_X0_32 rfl dX0_valueOfRow_5 ?_
  refine lv_iload_n hx hb dX0_valueOfRow_8 rfl (lv_at hl 1 rfl) ?_
  refine zx_at C0 hn hK hP hD 3 2 rfl rfl hl.1 (Nat.le_of_ble_eq_true rfl) ⟨by decide, by decide⟩ ⟨Nat.zero_le _, Nat.zero_le _⟩ dX0_valueOfRow_9 ?_
  refine zx_at C0 hn hK hP hD 2 1 rfl rfl hl.1 (Nat.le_of_ble_eq_true rfl) ⟨by decide, by decide⟩ ⟨Nat.zero_le _, Nat.zero_le _⟩ dX0_valueOfRow_12 ?_
  exact hret _ _ _ (rfl) dX0_valueOfRow_15
abbrev rX_spilledPairs : Room := { frames := 0, cells := 0, slots := 0, locals := 0 }
set_option maxHeartbeats 4000000 in
set_option maxRecDepth 100000 in
theorem c_spilledPairs (l : Launch) (D : va_G) (ad : Nat → Nat) (cs : Nat → ClassId) (w n nr : Nat) (hn : n < 2 ^ 31) (hnr : nr < 2 ^ 31) (K V O M RL G : Nat → Int32) (fed sp se co op ck cv : Int32)   : ZR l yX0_spilledPairs cX0_spilledPairs 1 rX_spilledPairs D classes (xt cs) [.ref (ad 0)] (xw ad cs w n nr K V O M RL G fed sp se co op ck cv) (fun r => r = sp * nI w) := by
  refine ZR.of (by decide +kernel) (Nat.le_of_ble_eq_true rfl) ?_
  intro p e s m args below meth c Q ls C0 hK hP hD hl hret
  have hx := C0.1
  have hb := C0.2.1
  have hl : lv_has ls 1 [(0, .ref (ad 0))] := hl
  refine lv_aload_n hx hb dX0_spilledPairs_0 rfl (lv_at hl 0 rfl) ?_
  refine z_get C0 zt_x0 hK hP 0 rfl rfl 8 (by decide) fl_X0_47 rfl dX0_spilledPairs_1 ?_
  refine lv_aload_n hx hb dX0_spilledPairs_4 rfl (lv_at hl 0 rfl) ?_
  refine z_get C0 zt_x0 hK hP 0 rfl rfl 0 (by decide) fl_X0_18 rfl dX0_spilledPairs_5 ?_
  refine lv_imul hx hb dX0_spilledPairs_8 ?_
  exact hret _ _ _ (rfl) dX0_spilledPairs_9
abbrev rX_key : Room := { frames := 0, cells := 0, slots := 0, locals := 0 }
set_option maxHeartbeats 4000000 in
set_option maxRecDepth 100000 in
theorem c_key (l : Launch) (D : va_G) (ad : Nat → Nat) (cs : Nat → ClassId) (w n nr : Nat) (hn : n < 2 ^ 31) (hnr : nr < 2 ^ 31) (K V O M RL G : Nat → Int32) (fed sp se co op ck cv : Int32)   : ZR l yX0_key cX0_key 1 rX_key D classes (xt cs) [.ref (ad 0)] (xw ad cs w n nr K V O M RL G fed sp se co op ck cv) (fun r => r = ck) := by
  refine ZR.of (by decide +kernel) (Nat.le_of_ble_eq_true rfl) ?_
  intro p e s m args below meth c Q ls C0 hK hP hD hl hret
  have hx := C0.1
  have hb := C0.2.1
  have hl : lv_has ls 1 [(0, .ref (ad 0))] := hl
  refine lv_aload_n hx hb dX0_key_0 rfl (lv_at hl 0 rfl) ?_
  refine z_get C0 zt_x0 hK hP 0 rfl rfl 12 (by decide) fl_X0_87 rfl dX0_key_1 ?_
  exact hret _ _ _ (rfl) dX0_key_4
abbrev rX_value : Room := { frames := 0, cells := 0, slots := 0, locals := 0 }
set_option maxHeartbeats 4000000 in
set_option maxRecDepth 100000 in
theorem c_value (l : Launch) (D : va_G) (ad : Nat → Nat) (cs : Nat → ClassId) (w n nr : Nat) (hn : n < 2 ^ 31) (hnr : nr < 2 ^ 31) (K V O M RL G : Nat → Int32) (fed sp se co op ck cv : Int32)   : ZR l yX0_value cX0_value 1 rX_value D classes (xt cs) [.ref (ad 0)] (xw ad cs w n nr K V O M RL G fed sp se co op ck cv) (fun r => r = cv) := by
  refine ZR.of (by decide +kernel) (Nat.le_of_ble_eq_true rfl) ?_
  intro p e s m args below meth c Q ls C0 hK hP hD hl hret
  have hx := C0.1
  have hb := C0.2.1
  have hl : lv_has ls 1 [(0, .ref (ad 0))] := hl
  refine lv_aload_n hx hb dX0_value_0 rfl (lv_at hl 0 rfl) ?_
  refine z_get C0 zt_x0 hK hP 0 rfl rfl 13 (by decide) fl_X0_93 rfl dX0_value_1 ?_
  exact hret _ _ _ (rfl) dX0_value_4
abbrev rX_clearCurrent : Room := { frames := 1, cells := 0, slots := 0, locals := 22 }
set_option maxHeartbeats 4000000 in
set_option maxRecDepth 100000 in
theorem c_clearCurrent (l : Launch) (D : va_G) (ad : Nat → Nat) (cs : Nat → ClassId) (w n nr : Nat) (hn : n < 2 ^ 31) (hnr : nr < 2 ^ 31) (K V O M RL G : Nat → Int32) (fed sp se co op ck cv : Int32)   : ZV (S := (Nat → Int32)) l yX0_clearCurrent cX0_clearCurrent 2 rX_clearCurrent D classes (xt cs) [.ref (ad 0)] (xw ad cs w n nr K V O M RL G fed sp se co op ck cv) (fun G1 => ∀ j, j < 4 → G1 j = 0) (fun G1 => xw ad cs w n nr K V O M RL G1 fed sp se co op 0 0) := by
  refine ZV.of (by decide +kernel) (Nat.le_of_ble_eq_true rfl) ?_
  intro p e s m args below meth c A Q ls C0 hname hK hP hD hS hA hl hret
  have hx := C0.1
  have hb := C0.2.1
  have hl : lv_has ls 2 [(0, .ref (ad 0))] := hl
  refine lv_aload_n hx hb dX0_clearCurrent_0 rfl (lv_at hl 0 rfl) ?_
  refine lv_iconst (v := 0) hx hb dX0_clearCurrent_1 (by decide) ?_
  refine z_put (ty := .int) C0 zt_x0 tyX0 tyX0_ok nmX0 hK hP hD hS 0 rfl rfl 12 (by decide) fl_X0_87 rfl (by decide +kernel) rfl rfl (Nat.le_of_ble_eq_true rfl) dX0_clearCurrent_2 (fun H locs hP hD hS => ?_)
  have hP : va_P D classes (xw ad cs w n nr K V O M RL G fed sp se co op 0 cv) H := hP
  have hD : va_D A (xw ad cs w n nr K V O M RL G fed sp se co op 0 cv) := hD
  refine lv_aload_n hx hb dX0_clearCurrent_5 rfl (lv_at hl 0 rfl) ?_
  refine lv_iconst (v := 0) hx hb dX0_clearCurrent_6 (by decide) ?_
  refine z_put (ty := .int) C0 zt_x0 tyX0 tyX0_ok nmX0 hK hP hD hS 0 rfl rfl 13 (by decide) fl_X0_93 rfl (by decide +kernel) rfl rfl (Nat.le_of_ble_eq_true rfl) dX0_clearCurrent_7 (fun H locs hP hD hS => ?_)
  have hP : va_P D classes (xw ad cs w n nr K V O M RL G fed sp se co op 0 0) H := hP
  have hD : va_D A (xw ad cs w n nr K V O M RL G fed sp se co op 0 0) := hD
  refine lv_iconst (v := 0) hx hb dX0_clearCurrent_10 (by decide) ?_
  refine lv_istore_n (lv' := [(1, .int 0), (0, .ref (ad 0))]) hx hb dX0_clearCurrent_11 rfl hl (by decide) rfl (fun ls hl => ?_)
  have loop : ∀ (NN : Nat) (i : Nat) (G1 : Nat → Int32) (H : Heap) (locs : List Loc) (ls : Array Slot), (i ≤ 4 ∧ ∀ j, j < i → G1 j = 0) → 4 - i < NN → va_P D classes (xw ad cs w n nr K V O M RL G1 fed sp se co op 0 0) H → va_D A (xw ad cs w n nr K V O M RL G1 fed sp se co op 0 0) → va_S A s.heap H locs → lv_has ls 2 [(1, .int (nI i)), (0, .ref (ad 0))] → W p l e rX_clearCurrent s m args below meth c H locs 0 0 Q (F0 m 12 ls []) := by
    intro N12
    induction N12 with
    | zero => intro i G1 H locs ls hI hN; exact absurd hN (Nat.not_lt_zero _)
    | succ N12 ih12 =>
      intro i G1 H locs ls hI hN12 hP hD hS hl
      refine lv_iload_n hx hb dX0_clearCurrent_12 rfl (lv_at hl 0 rfl) ?_
      refine lv_iconst (v := 4) hx hb dX0_clearCurrent_13 (by decide) ?_
      refine lv_icmp_ge (tgt := 32) hx hb dX0_clearCurrent_14 (by decide) (fun c1 => ?_) (fun c1 => ?_)
      · have e4 : i = 4 := by
          rcases Nat.lt_or_ge i 4 with q | q
          · exact absurd c1 (nI_ge q (by decide))
          · omega
        subst e4
        exact hret (G1) _ _ _ _ hP hD hS (hI.2) dX0_clearCurrent_32
      · have hi : i < 4 := by
          rcases Nat.lt_or_ge i 4 with q | q
          · exact q
          · exact absurd (nI_le q (by omega)) c1
        refine lv_aload_n hx hb dX0_clearCurrent_17 rfl (lv_at hl 1 rfl) ?_
        refine z_get C0 zt_x0 hK hP 0 rfl rfl 14 (by decide) fl_X0_41 rfl dX0_clearCurrent_18 ?_
        refine lv_iload_n hx hb dX0_clearCurrent_21 rfl (lv_at hl 0 rfl) ?_
        refine lv_iconst (v := 0) hx hb dX0_clearCurrent_22 (by decide) ?_
        refine zx_put C0 (by decide) hK hP hD hS hA 6 5 rfl rfl hl.1 (Nat.le_of_ble_eq_true rfl) ⟨by decide, by decide⟩ ⟨Nat.zero_le _, Nat.zero_le _⟩ dX0_clearCurrent_23 (fun H locs hP hD hS => ?_)
        have hP : va_P D classes (xw ad cs w n nr K V O M RL (zp 4 G1 (nI i) 0) fed sp se co op 0 0) H := hP
        have hD : va_D A (xw ad cs w n nr K V O M RL (zp 4 G1 (nI i) 0) fed sp se co op 0 0) := hD
        rw [show (zp 4 G1 (nI i) 0) = upd G1 i 0 from zp_at hi (by decide)] at hP hD
        have hP : va_P D classes (xw ad cs w n nr K V O M RL (upd G1 i 0) fed sp se co op 0 0) H := hP
        have hD : va_D A (xw ad cs w n nr K V O M RL (upd G1 i 0) fed sp se co op 0 0) := hD
        refine lv_iinc (v := nI (i + 1)) (lv' := [(1, .int (nI (i + 1))), (0, .ref (ad 0))]) hx hb dX0_clearCurrent_26 hl (k := 0) rfl (show (nI i) + Int32.ofInt (1) = nI (i + 1) from (congrArg ((nI i) + ·) (by decide : Int32.ofInt (1) = 1)).trans (nI_1 i)) (by decide) rfl (fun ls hl => ?_)
        refine lv_goto (tgt := 12) hx hb dX0_clearCurrent_29 (by decide) ?_
        exact ih12 (i + 1) (upd G1 i 0) _ _ _ (⟨hi, fun j hj => by rcases Nat.lt_or_ge j i with q | q; (rw [upd_ne (by omega)]; exact hI.2 j q); (rw [show j = i by omega]; exact upd_eq)⟩) (by omega) hP hD hS (lv_sub hl [0, 1] rfl)
  exact loop _ 0 G _ _ _ (⟨by decide, fun j hj => absurd hj (Nat.not_lt_zero j)⟩) (Nat.lt_succ_self _) hP hD hS (lv_sub hl [0, 1] (rfl))
abbrev rX_reset : Room := { frames := 2, cells := 0, slots := 0, locals := 43 }
set_option maxHeartbeats 4000000 in
set_option maxRecDepth 100000 in
theorem c_reset (l : Launch) (D : va_G) (ad : Nat → Nat) (cs : Nat → ClassId) (w n nr : Nat) (hn : n < 2 ^ 31) (hnr : nr < 2 ^ 31) (K V O M RL G : Nat → Int32) (fed sp se co op ck cv : Int32)   : ZV (S := (Nat → Int32)) l yX0_reset cX0_reset 1 rX_reset D classes (xt cs) [.ref (ad 0)] (xw ad cs w n nr K V O M RL G fed sp se co op ck cv) (fun G1 => ∀ j, j < 4 → G1 j = 0) (fun G1 => xw ad cs w n nr K V O M RL G1 0 0 0 0 0 0 0) := by
  refine ZV.of (by decide +kernel) (Nat.le_of_ble_eq_true rfl) ?_
  intro p e s m args below meth c A Q ls C0 hname hK hP hD hS hA hl hret
  have hx := C0.1
  have hb := C0.2.1
  have hl : lv_has ls 1 [(0, .ref (ad 0))] := hl
  refine lv_aload_n hx hb dX0_reset_0 rfl (lv_at hl 0 rfl) ?_
  refine lv_iconst (v := 0) hx hb dX0_reset_1 (by decide) ?_
  refine z_put (ty := .int) C0 zt_x0 tyX0 tyX0_ok nmX0 hK hP hD hS 0 rfl rfl 7 (by decide) fl_X0_44 rfl (by decide +kernel) rfl rfl (Nat.le_of_ble_eq_true rfl) dX0_reset_2 (fun H locs hP hD hS => ?_)
  have hP : va_P D classes (xw ad cs w n nr K V O M RL G 0 sp se co op ck cv) H := hP
  have hD : va_D A (xw ad cs w n nr K V O M RL G 0 sp se co op ck cv) := hD
  refine lv_aload_n hx hb dX0_reset_5 rfl (lv_at hl 0 rfl) ?_
  refine lv_iconst (v := 0) hx hb dX0_reset_6 (by decide) ?_
  refine z_put (ty := .int) C0 zt_x0 tyX0 tyX0_ok nmX0 hK hP hD hS 0 rfl rfl 8 (by decide) fl_X0_47 rfl (by decide +kernel) rfl rfl (Nat.le_of_ble_eq_true rfl) dX0_reset_7 (fun H locs hP hD hS => ?_)
  have hP : va_P D classes (xw ad cs w n nr K V O M RL G 0 0 se co op ck cv) H := hP
  have hD : va_D A (xw ad cs w n nr K V O M RL G 0 0 se co op ck cv) := hD
  refine lv_aload_n hx hb dX0_reset_10 rfl (lv_at hl 0 rfl) ?_
  refine lv_iconst (v := 0) hx hb dX0_reset_11 (by decide) ?_
  refine z_put (ty := .boolean) C0 zt_x0 tyX0 tyX0_ok nmX0 hK hP hD hS 0 rfl rfl 9 (by decide) fl_X0_50 rfl (by decide +kernel) rfl rfl (Nat.le_of_ble_eq_true rfl) dX0_reset_12 (fun H locs hP hD hS => ?_)
  have hP : va_P D classes (xw ad cs w n nr K V O M RL G 0 0 0 co op ck cv) H := hP
  have hD : va_D A (xw ad cs w n nr K V O M RL G 0 0 0 co op ck cv) := hD
  refine lv_aload_n hx hb dX0_reset_15 rfl (lv_at hl 0 rfl) ?_
  refine lv_iconst (v := 0) hx hb dX0_reset_16 (by decide) ?_
  refine z_put (ty := .int) C0 zt_x0 tyX0 tyX0_ok nmX0 hK hP hD hS 0 rfl rfl 10 (by decide) fl_X0_54 rfl (by decide +kernel) rfl rfl (Nat.le_of_ble_eq_true rfl) dX0_reset_17 (fun H locs hP hD hS => ?_)
  have hP : va_P D classes (xw ad cs w n nr K V O M RL G 0 0 0 0 op ck cv) H := hP
  have hD : va_D A (xw ad cs w n nr K V O M RL G 0 0 0 0 op ck cv) := hD
  refine lv_aload_n hx hb dX0_reset_20 rfl (lv_at hl 0 rfl) ?_
  refine lv_iconst (v := 0) hx hb dX0_reset_21 (by decide) ?_
  refine z_put (ty := .int) C0 zt_x0 tyX0 tyX0_ok nmX0 hK hP hD hS 0 rfl rfl 11 (by decide) fl_X0_57 rfl (by decide +kernel) rfl rfl (Nat.le_of_ble_eq_true rfl) dX0_reset_22 (fun H locs hP hD hS => ?_)
  have hP : va_P D classes (xw ad cs w n nr K V O M RL G 0 0 0 0 0 ck cv) H := hP
  have hD : va_D A (xw ad cs w n nr K V O M RL G 0 0 0 0 0 ck cv) := hD
  refine lv_aload_n hx hb dX0_reset_25 rfl (lv_at hl 0 rfl) ?_
  refine zv_callV0 (As := []) (rest := []) (q0 := 0) (ci := 0) C0 (c_clearCurrent l D ad cs w n nr hn hnr K V O M RL G 0 0 0 0 0 ck cv) zv_X0_X0_clearCurrent ⟨by decide, by decide⟩ ⟨rfl, rfl⟩ rfl hK hP hD hS hA rfl rfl rfl hl.1 rfl (Nat.le_of_ble_eq_true rfl) dX0_reset_26 ⟨Nat.zero_le _, Nat.zero_le _⟩ (fun G1 H locs h1 hP hD hS => ?_)
  have hP : va_P D classes (xw ad cs w n nr K V O M RL G1 0 0 0 0 0 0 0) H := hP
  have hD : va_D A (xw ad cs w n nr K V O M RL G1 0 0 0 0 0 0 0) := hD
  exact hret (G1) _ _ _ _ hP hD hS (h1) dX0_reset_29
end
section
/-! PURE 2: numbers, the order array in the class's states, runs that still have rows -/
theorem zle {a b : Nat} (h : nI a ≤ nI b) (ha : a < 2 ^ 31) (hb : b < 2 ^ 31) : a ≤ b := (nI_leI ha hb).mp h
theorem znle {a b : Nat} (h : ¬ nI a ≤ nI b) (ha : a < 2 ^ 31) (hb : b < 2 ^ 31) : b < a := by
  have := mt (nI_leI ha hb).mpr h
  omega
theorem zlt {a b : Nat} (h : nI a < nI b) (ha : a < 2 ^ 31) (hb : b < 2 ^ 31) : a < b := (nI_ltI ha hb).mp h
theorem znlt {a b : Nat} (h : ¬ nI a < nI b) (ha : a < 2 ^ 31) (hb : b < 2 ^ 31) : b ≤ a := by
  have := mt (nI_ltI ha hb).mpr h
  omega
theorem zne {a b : Nat} (h : ¬ nI a = nI b) : a ≠ b := fun e => h (by rw [e])
theorem zeq {a b : Nat} (h : nI a = nI b) (ha : a < 2 ^ 31) (hb : b < 2 ^ 31) : a = b := (nI_eq ha hb).mp h
def kz (K : Nat → Int32) : Nat → Int := fun i => (K i).toInt
theorem kz_lt {K : Nat → Int32} {i j : Nat} (h : K i < K j) : kz K i < kz K j := Int32.lt_iff_toInt_lt.mp h
theorem kz_le {K : Nat → Int32} {i j : Nat} (h : K i ≤ K j) : kz K i ≤ kz K j := Int32.le_iff_toInt_le.mp h
theorem kz_nlt {K : Nat → Int32} {i j : Nat} (h : ¬ K i < K j) : kz K j ≤ kz K i := by
  have := mt Int32.lt_iff_toInt_lt.mpr h
  unfold kz
  omega
theorem kz_nle {K : Nat → Int32} {i j : Nat} (h : ¬ K i ≤ K j) : kz K j < kz K i := by
  have := mt Int32.le_iff_toInt_le.mpr h
  unfold kz
  omega
/-- insertion under way: the places from t to row are free to be written at t -/
def px_sh (o : Nat → Nat) (t row : Nat) : Nat → Nat := fun a => if t < a ∧ a ≤ row then o (a - 1) else o a
theorem px_sh_0 {o : Nat → Nat} {row a : Nat} : px_sh o row row a = o a := by
  unfold px_sh
  rw [if_neg (by omega)]
theorem px_sh_lo {o : Nat → Nat} {t row a : Nat} (h : a ≤ t) : px_sh o t row a = o a := by
  unfold px_sh
  rw [if_neg (by omega)]
theorem px_sh_step {o : Nat → Nat} {OC : Nat → Int32} {f0 t row : Nat} (ht : f0 < t) (htr : t ≤ row) (h : ∀ a, f0 ≤ a → a ≤ row → OC a = nI (px_sh o t row a)) : ∀ a, f0 ≤ a → a ≤ row → upd OC t (nI (o (t - 1))) a = nI (px_sh o (t - 1) row a) := by
  intro a h1 h2
  by_cases e : a = t
  · subst e
    rw [upd_eq]
    unfold px_sh
    rw [if_pos (by omega)]
  · rw [upd_ne e, h a h1 h2]
    unfold px_sh
    by_cases q : t < a ∧ a ≤ row
    · rw [if_pos q, if_pos (by omega)]
    · rw [if_neg q, if_neg (by omega)]
theorem px_sh_end {o : Nat → Nat} {OC : Nat → Int32} {f0 t row : Nat} (h : ∀ a, f0 ≤ a → a ≤ row → OC a = nI (px_sh o t row a)) : ∀ a, f0 ≤ a → a ≤ row → upd OC t (nI (o row)) a = nI (px_ins o t row a) := by
  intro a h1 h2
  by_cases e : a = t
  · subst e
    rw [upd_eq, px_ins_eq]
  · rw [upd_ne e, h a h1 h2]
    unfold px_sh px_ins
    rw [if_neg e]
/-- the order array while feeding: r runs spilled, f pairs fed -/
def xO (w n : Nat) (K O : Nat → Int32) (r f : Nat) : Prop := r * w ≤ f ∧ f ≤ r * w + w ∧ f ≤ n ∧ ∃ o : Nat → Nat, (∀ a, a < f → O a = nI (o a)) ∧ (∀ j, j < r → px_srt (kz K) o (j * w) (j * w + w) ∧ px_prm o (j * w) w) ∧ (∀ a, r * w ≤ a → a < f → o a = a)
/-- the work area is sorted -/
def xS (w : Nat) (K O O1 : Nat → Int32) (r f : Nat) : Prop := ∃ o : Nat → Nat, (∀ a, r * w ≤ a → a < f → O1 a = nI (o a)) ∧ px_srt (kz K) o (r * w) f ∧ px_prm o (r * w) (f - r * w) ∧ ∀ a, a < r * w → O1 a = O a
theorem px_srt_sub {k : Nat → Int} {o : Nat → Nat} {lo hi hi' : Nat} (h : px_srt k o lo hi) (hh : hi' ≤ hi) : px_srt k o lo hi' := fun a b h1 h2 h3 => h a b h1 h2 (by omega)
theorem xO_0 (w n : Nat) (K O : Nat → Int32) : xO w n K O 0 0 := ⟨by omega, by omega, by omega, fun a => a, fun a h => absurd h (Nat.not_lt_zero a), fun j h => absurd h (Nat.not_lt_zero j), fun a _ h => absurd h (Nat.not_lt_zero a)⟩
theorem xO_id {w n : Nat} {K O : Nat → Int32} {r f : Nat} (h : xO w n K O r f) : ∀ a, r * w ≤ a → a < f → O a = nI a := by
  obtain ⟨h1, h2, h3, o, h4, h5, h6⟩ := h
  intro a a1 a2
  rw [h4 a a2, h6 a a1 a2]
/-- a sorted work area, joined to the runs before it -/
theorem xO_glue {w n : Nat} {K O O1 : Nat → Int32} {r f : Nat} (h : xO w n K O r f) (hs : xS w K O O1 r f) : ∃ o : Nat → Nat, (∀ a, a < f → O1 a = nI (o a)) ∧ (∀ j, j < r → px_srt (kz K) o (j * w) (j * w + w) ∧ px_prm o (j * w) w) ∧ px_srt (kz K) o (r * w) f ∧ px_prm o (r * w) (f - r * w) := by
  obtain ⟨h1, h2, h3, o, h4, h5, h6⟩ := h
  obtain ⟨o1, s1, s2, s3, s4⟩ := hs
  refine ⟨fun a => if a < r * w then o a else o1 a, fun a ha => ?_, fun j hj => ?_, s2.cg (fun a q1 q2 => if_neg (by omega)) (fun _ _ _ => rfl), s3.cg (fun a q1 q2 => if_neg (by omega))⟩
  · by_cases q : a < r * w
    · show O1 a = nI (if a < r * w then o a else o1 a)
      rw [if_pos q, s4 a q, h4 a ha]
    · show O1 a = nI (if a < r * w then o a else o1 a)
      rw [if_neg q, s1 a (by omega) ha]
  · obtain ⟨g1, g2⟩ := h5 j hj
    have hb : (j + 1) * w ≤ r * w := Nat.mul_le_mul_right _ hj
    rw [Nat.succ_mul] at hb
    exact ⟨g1.cg (fun a q1 q2 => if_pos (by omega)) (fun _ _ _ => rfl), g2.cg (fun a q1 q2 => if_pos (by omega))⟩
theorem xO_sp {w n : Nat} {K O O1 : Nat → Int32} {r f : Nat} (h : xO w n K O r f) (hs : xS w K O O1 r f) (hf : f = r * w + w) : xO w n K O1 (r + 1) f := by
  obtain ⟨o, g1, g2, g3, g4⟩ := xO_glue h hs
  have e : (r + 1) * w = r * w + w := Nat.succ_mul r w
  refine ⟨by omega, by omega, h.2.2.1, o, g1, fun j hj => ?_, fun a q1 q2 => by omega⟩
  rcases Nat.lt_or_ge j r with q | q
  · exact g2 j q
  · have ej : j = r := by omega
    subst ej
    rw [show f - j * w = w by omega] at g4
    rw [hf] at g3
    exact ⟨g3, g4⟩
theorem xO_add {w n : Nat} {K O : Nat → Int32} {r f : Nat} (h : xO w n K O r f) (hf : f < r * w + w) (hn : f < n) (key : Int32) : xO w n (upd K f key) (upd O f (nI f)) r (f + 1) := by
  obtain ⟨h1, h2, h3, o, h4, h5, h6⟩ := h
  refine ⟨by omega, by omega, by omega, px_up o f f, fun a ha => ?_, fun j hj => ?_, fun a q1 q2 => ?_⟩
  · by_cases q : a = f
    · subst q
      rw [upd_eq, px_up_eq]
    · rw [upd_ne q, px_up_ne q, h4 a (by omega)]
  · obtain ⟨g1, g2⟩ := h5 j hj
    have hb : (j + 1) * w ≤ r * w := Nat.mul_le_mul_right _ hj
    rw [Nat.succ_mul] at hb
    refine ⟨g1.cg (fun a q1 q2 => px_up_ne (by omega)) (fun a q1 q2 => ?_), g2.cg (fun a q1 q2 => px_up_ne (by omega))⟩
    have := (g2.rng q1 q2).2
    unfold kz
    rw [upd_ne (by omega)]
  · by_cases q : a = f
    · subst q
      exact px_up_eq
    · rw [px_up_ne q, h6 a q1 (by omega)]
/-- how many runs there are behind one pair more -/
def rnx (w r f : Nat) : Nat := if f < r * w + w then r else r + 1
/-- blocks -/
def xM (K O : Nat → Int32) (wd f : Nat) : Prop := ∃ o : Nat → Nat, (∀ a, a < f → O a = nI (o a)) ∧ px_blk (kz K) o wd f 0 f
theorem xM_of {w n : Nat} {K O O1 : Nat → Int32} {r f : Nat} (h : xO w n K O r f) (hs : xS w K O O1 r f) : xM K O1 w f := by
  obtain ⟨o, g1, g2, g3, g4⟩ := xO_glue h hs
  obtain ⟨h1, h2, h3, -⟩ := h
  refine ⟨o, g1, fun j _ hj => ?_⟩
  rcases Nat.lt_or_ge j r with q | q
  · have hb : (j + 1) * w ≤ r * w := Nat.mul_le_mul_right _ q
    rw [Nat.succ_mul] at hb
    have m1 : min (j * w + w) f = j * w + w := by omega
    rw [m1, show j * w + w - j * w = w by omega]
    exact g2 j q
  · have hb : r * w ≤ j * w := Nat.mul_le_mul_right _ q
    have ej : j = r := by
      rcases Nat.lt_or_ge r j with z | z
      · exfalso
        have hc : (r + 1) * w ≤ j * w := Nat.mul_le_mul_right _ z
        rw [Nat.succ_mul] at hc
        omega
      · omega
    subst ej
    have m1 : min (j * w + w) f = f := by omega
    rw [m1]
    exact ⟨g3, g4⟩
/-- sorted altogether -/
def xF (K O : Nat → Int32) (f : Nat) (o : Nat → Nat) : Prop := (∀ a, a < f → O a = nI (o a)) ∧ px_srt (kz K) o 0 f ∧ px_prm o 0 f
theorem xF.rng {K O : Nat → Int32} {f : Nat} {o : Nat → Nat} (h : xF K O f o) {a : Nat} (ha : a < f) : o a < f := by
  have := (h.2.2.rng (Nat.zero_le a) (by omega)).2
  omega
theorem xF_uniq {K O O' : Nat → Int32} {f : Nat} {o o' : Nat → Nat} (h : xF K O f o) (h' : xF K O' f o') : xF K O' f o := by
  refine ⟨fun a ha => ?_, h.2.1, h.2.2⟩
  have e := px_uniq (k := kz K) (lo := 0) (n := f) (by rw [Nat.zero_add]; exact h.2.1) h.2.2 (by rw [Nat.zero_add]; exact h'.2.1) h'.2.2 a (Nat.zero_le a) (by omega)
  rw [h'.1 a ha, e]
/-- the rows of one run -/
def rw_P (w j : Nat) : Nat → Bool := fun i => decide (i / w = j)
theorem rw_iff {w i j : Nat} (hw : 0 < w) : i / w = j ↔ j * w ≤ i ∧ i < j * w + w := by
  constructor
  · intro h
    subst h
    exact ⟨Nat.div_mul_le_self i w, Nat.lt_div_mul_add hw⟩
  · intro ⟨h1, h2⟩
    have a1 : j ≤ i / w := (Nat.le_div_iff_mul_le hw).mpr h1
    have a2 : i / w < j + 1 := (Nat.div_lt_iff_lt_mul hw).mpr (by rw [Nat.succ_mul]; exact h2)
    omega
theorem rw_cnt {w j : Nat} (hw : 0 < w) : ∀ f, px_cnt (rw_P w j) (fun a => a) 0 f = min w (f - j * w)
  | 0 => by simp [px_cnt]
  | f + 1 => by
    simp only [px_cnt]
    rw [rw_cnt hw f, Nat.zero_add]
    unfold rw_P
    by_cases h : f / w = j
    · have := (rw_iff hw).mp h
      rw [if_pos (by simpa using h)]
      omega
    · have := mt (rw_iff hw).mpr h
      rw [if_neg (by simpa using h)]
      omega
/-- how many runs below rn have rows among those from c on -/
def rw_open (w rn : Nat) (o : Nat → Nat) (c m : Nat) : Nat := px_cnt (fun j => decide (0 < px_cnt (rw_P w j) o c m)) (fun a => a) 0 rn
theorem px_cnt_cgP {P P' : Nat → Bool} {o : Nat → Nat} {lo : Nat} : ∀ n, (∀ k, k < n → P (o (lo + k)) = P' (o (lo + k))) → px_cnt P o lo n = px_cnt P' o lo n
  | 0, _ => rfl
  | n + 1, h => by
    simp only [px_cnt]
    rw [px_cnt_cgP n (fun k hk => h k (by omega)), h n (by omega)]
theorem px_cnt_flip {P P' : Nat → Bool} {j0 : Nat} (h1 : P j0 = true) (h2 : P' j0 = false) (h3 : ∀ j, j ≠ j0 → P j = P' j) : ∀ n, j0 < n → px_cnt P (fun a => a) 0 n = px_cnt P' (fun a => a) 0 n + 1
  | 0, h => absurd h (Nat.not_lt_zero j0)
  | n + 1, h => by
    simp only [px_cnt]
    rw [Nat.zero_add]
    by_cases e : n = j0
    · subst e
      rw [h1, h2, px_cnt_cgP (P := P) (P' := P') n (fun k hk => h3 _ (by omega))]
      simp
    · rw [px_cnt_flip h1 h2 h3 n (by omega), h3 n e]
      omega
/-- one row is taken from the front -/
theorem rw_take {w rn c m : Nat} {o : Nat → Nat} (hj : o c / w < rn) :
    (∀ j, px_cnt (rw_P w j) o c (m + 1) = px_cnt (rw_P w j) o (c + 1) m + (if j = o c / w then 1 else 0)) ∧
    rw_open w rn o c (m + 1) = rw_open w rn o (c + 1) m + (if px_cnt (rw_P w (o c / w)) o (c + 1) m = 0 then 1 else 0) := by
  have h1 : ∀ j, px_cnt (rw_P w j) o c (m + 1) = px_cnt (rw_P w j) o (c + 1) m + (if j = o c / w then 1 else 0) := by
    intro j
    rw [px_cnt_hd, Nat.add_comm]
    unfold rw_P
    by_cases h : o c / w = j
    · rw [if_pos (by simpa using h), if_pos h.symm]
    · rw [if_neg (by simpa using h), if_neg (fun e => h e.symm)]
  refine ⟨h1, ?_⟩
  unfold rw_open
  by_cases q : px_cnt (rw_P w (o c / w)) o (c + 1) m = 0
  · rw [if_pos q]
    refine px_cnt_flip (j0 := o c / w) ?_ ?_ ?_ rn hj
    · rw [h1, if_pos rfl]
      simp
    · rw [q]
      simp
    · intro j hne
      rw [h1, if_neg hne, Nat.add_zero]
  · rw [if_neg q, Nat.add_zero]
    refine px_cnt_cgP rn (fun k _ => ?_)
    show decide (0 < px_cnt (rw_P w (0 + k)) o c (m + 1)) = decide (0 < px_cnt (rw_P w (0 + k)) o (c + 1) m)
    rw [h1]
    by_cases e : 0 + k = o c / w
    · rw [e, if_pos rfl]
      have : 0 < px_cnt (rw_P w (o c / w)) o (c + 1) m := by omega
      simp [this]
    · rw [if_neg e, Nat.add_zero]
/-- one row more at the end -/
theorem rw_more {w rn c m : Nat} {o : Nat → Nat} (hj : o (c + m) / w < rn) :
    (∀ j, px_cnt (rw_P w j) o c (m + 1) = px_cnt (rw_P w j) o c m + (if j = o (c + m) / w then 1 else 0)) ∧
    rw_open w rn o c (m + 1) = rw_open w rn o c m + (if px_cnt (rw_P w (o (c + m) / w)) o c m = 0 then 1 else 0) := by
  have h1 : ∀ j, px_cnt (rw_P w j) o c (m + 1) = px_cnt (rw_P w j) o c m + (if j = o (c + m) / w then 1 else 0) := by
    intro j
    show px_cnt (rw_P w j) o c m + (if rw_P w j (o (c + m)) = true then 1 else 0) = _
    unfold rw_P
    by_cases h : o (c + m) / w = j
    · rw [if_pos (by simpa using h), if_pos h.symm]
    · rw [if_neg (by simpa using h), if_neg (fun e => h e.symm)]
  refine ⟨h1, ?_⟩
  unfold rw_open
  by_cases q : px_cnt (rw_P w (o (c + m) / w)) o c m = 0
  · rw [if_pos q]
    refine px_cnt_flip (j0 := o (c + m) / w) ?_ ?_ ?_ rn hj
    · rw [h1, if_pos rfl]
      simp
    · rw [q]
      simp
    · intro j hne
      rw [h1, if_neg hne, Nat.add_zero]
  · rw [if_neg q, Nat.add_zero]
    refine px_cnt_cgP rn (fun k _ => ?_)
    show decide (0 < px_cnt (rw_P w (0 + k)) o c (m + 1)) = decide (0 < px_cnt (rw_P w (0 + k)) o c m)
    rw [h1]
    by_cases e : 0 + k = o (c + m) / w
    · rw [e, if_pos rfl]
      have : 0 < px_cnt (rw_P w (o (c + m) / w)) o c m := by omega
      simp [this]
    · rw [if_neg e, Nat.add_zero]
def rnn (r f : Nat) : Nat := if f = 0 then 0 else r + 1
/-- what is kept of the runs while reading -/
def xR (w r f c : Nat) (o : Nat → Nat) (RL : Nat → Int32) (op : Int32) : Prop := (∀ j, j < rnn r f → RL j = nI (px_cnt (rw_P w j) o c (f - c))) ∧ op = nI (rw_open w (rnn r f) o c (f - c))
theorem xR_0 {w r f : Nat} {K O : Nat → Int32} {o : Nat → Nat} {RL : Nat → Int32} (hw : 0 < w) (hf : xF K O f o) (hr : 0 < f → r * w < f) (hR : ∀ j, j < rnn r f → RL j = nI (min w (f - j * w))) : xR w r f 0 o RL (nI (rnn r f)) := by
  have h1 : ∀ j, px_cnt (rw_P w j) o 0 f = min w (f - j * w) := fun j => by rw [hf.2.2 (rw_P w j), rw_cnt hw f]
  refine ⟨fun j hj => by rw [Nat.sub_zero, h1 j, hR j hj], ?_⟩
  have h2 : ∀ n, n ≤ rnn r f → px_cnt (fun j => decide (0 < px_cnt (rw_P w j) o 0 (f - 0))) (fun a => a) 0 n = n := by
    intro n
    induction n with
    | zero => intro _; rfl
    | succ n ih =>
      intro hn
      have hp : 0 < px_cnt (rw_P w n) o 0 f := by
        rw [h1 n]
        unfold rnn at hn
        by_cases e : f = 0
        · rw [if_pos e] at hn
          omega
        · rw [if_neg e] at hn
          have := hr (by omega)
          have hb : n * w ≤ r * w := Nat.mul_le_mul_right _ (by omega)
          omega
      simp only [px_cnt]
      rw [ih (by omega), Nat.zero_add, Nat.sub_zero, if_pos (by simpa using hp)]
  unfold rw_open
  rw [h2 _ (Nat.le_refl _)]
/-- a row is consumed -/
theorem xR_take {w r f c : Nat} {o : Nat → Nat} {RL : Nat → Int32} {op : Int32} (h : xR w r f c o RL op) (hw : 0 < w) (hc : c < f) (hf : f ≤ r * w + w) (ho : o c < f) (hn : f < 2 ^ 31) :
    o c / w < rnn r f ∧ RL (o c / w) = nI (px_cnt (rw_P w (o c / w)) o (c + 1) (f - (c + 1)) + 1) ∧
    xR w r f (c + 1) o (upd RL (o c / w) (nI (px_cnt (rw_P w (o c / w)) o (c + 1) (f - (c + 1))))) (if px_cnt (rw_P w (o c / w)) o (c + 1) (f - (c + 1)) = 0 then op - 1 else op) := by
  obtain ⟨h1, h2⟩ := h
  have e0 : rnn r f = r + 1 := by
    unfold rnn
    rw [if_neg (by omega)]
  have hj : o c / w < rnn r f := by
    rw [e0]
    exact (Nat.div_lt_iff_lt_mul hw).mpr (by rw [Nat.succ_mul]; omega)
  obtain ⟨t1, t2⟩ := rw_take (w := w) (rn := rnn r f) (c := c) (m := f - (c + 1)) (o := o) hj
  have em : f - c = f - (c + 1) + 1 := by omega
  rw [em] at h1 h2
  refine ⟨hj, by rw [h1 _ hj, t1, if_pos rfl], fun j hjj => ?_, ?_⟩
  · by_cases e : j = o c / w
    · rw [e, upd_eq]
    · rw [upd_ne e, h1 j hjj, t1, if_neg e, Nat.add_zero]
  · rw [h2, t2]
    by_cases q : px_cnt (rw_P w (o c / w)) o (c + 1) (f - (c + 1)) = 0
    · rw [if_pos q, if_pos q]
      exact nI_pred _
    · rw [if_neg q, if_neg q, Nat.add_zero]
/-- a group, row by row -/
def gs_P (g : Int32 × Int32 × Int32 × Int32) (v : Int32) : Int32 × Int32 × Int32 × Int32 := (g.1 + 1, g.2.1 + v, (if g.1 = 0 then v else if v < g.2.2.1 then v else g.2.2.1), (if g.1 = 0 then v else if g.2.2.2 < v then v else g.2.2.2))
def gs_F (V : Nat → Int32) (o : Nat → Nat) (c : Nat) : Nat → Int32 × Int32 × Int32 × Int32
  | 0 => (0, 0, 0, 0)
  | m + 1 => gs_P (gs_F V o c m) (V (o (c + m)))
theorem gs_cnt {V : Nat → Int32} {o : Nat → Nat} {c : Nat} : ∀ m, (gs_F V o c m).1 = nI m
  | 0 => rfl
  | m + 1 => by
    show (gs_F V o c m).1 + 1 = _
    rw [gs_cnt m, nI_1]
end
section
abbrev rX_insertRow : Room := { frames := 2, cells := 0, slots := 0, locals := 42 }
set_option maxHeartbeats 4000000 in
set_option maxRecDepth 100000 in
theorem c_insertRow (l : Launch) (D : va_G) (ad : Nat → Nat) (cs : Nat → ClassId) (w n nr : Nat) (hn : n < 2 ^ 31) (hnr : nr < 2 ^ 31) (K V O M RL G : Nat → Int32) (fed sp se co op ck cv : Int32) (f0 row : Nat) (o : Nat → Nat) (hf0 : f0 ≤ row) (hrow : row < n) (hO : ∀ a, f0 ≤ a → a ≤ row → O a = nI (o a) ∧ o a < n) : ZV (S := (Nat → Int32)) l yX0_insertRow cX0_insertRow 6 rX_insertRow D classes (xt cs) [.ref (ad 0), .int (nI f0), .int (nI row)] (xw ad cs w n nr K V O M RL G fed sp se co op ck cv) (fun O1 => ∃ t, f0 ≤ t ∧ t ≤ row ∧ (∀ a, f0 ≤ a → a ≤ row → O1 a = nI (px_ins o t row a)) ∧ (∀ a, t ≤ a → a < row → kz K (o row) < kz K (o a)) ∧ (t = f0 ∨ kz K (o (t - 1)) ≤ kz K (o row)) ∧ ∀ a, (a < f0 ∨ row < a) → O1 a = O a) (fun O1 => xw ad cs w n nr K V O1 M RL G fed sp se co op ck cv) := by
  refine ZV.of (by decide +kernel) (Nat.le_of_ble_eq_true rfl) ?_
  intro p e s m args below meth c A Q ls C0 hname hK hP hD hS hA hl hret
  have hx := C0.1
  have hb := C0.2.1
  have hl : lv_has ls 6 [(0, .ref (ad 0)), (1, .int (nI f0)), (2, .int (nI row))] := hl
  refine lv_aload_n hx hb dX0_insertRow_0 rfl (lv_at hl 0 rfl) ?_
  refine z_get C0 zt_x0 hK hP 0 rfl rfl 4 (by decide) fl_X0_32 rfl dX0_insertRow_1 ?_
  refine lv_iload_n hx hb dX0_insertRow_4 rfl (lv_at hl 2 rfl) ?_
  refine zx_at C0 hn hK hP hD 3 2 rfl rfl hl.1 (Nat.le_of_ble_eq_true rfl) ⟨by decide, by decide⟩ ⟨Nat.zero_le _, Nat.zero_le _⟩ dX0_insertRow_5 ?_
  refine z_eq (show (za n O (nI row)) = nI (o row) from (za_at hrow hn).trans (hO row hf0 (Nat.le_refl _)).1) ?_
  refine lv_istore_n (lv' := [(3, .int (nI (o row))), (0, .ref (ad 0)), (1, .int (nI f0)), (2, .int (nI row))]) hx hb dX0_insertRow_8 rfl hl (by decide) rfl (fun ls hl => ?_)
  refine lv_aload_n hx hb dX0_insertRow_9 rfl (lv_at hl 1 rfl) ?_
  refine z_get C0 zt_x0 hK hP 0 rfl rfl 2 (by decide) fl_X0_25 rfl dX0_insertRow_10 ?_
  refine lv_iload_n hx hb dX0_insertRow_13 rfl (lv_at hl 0 rfl) ?_
  refine zx_at C0 hn hK hP hD 1 0 rfl rfl hl.1 (Nat.le_of_ble_eq_true rfl) ⟨by decide, by decide⟩ ⟨Nat.zero_le _, Nat.zero_le _⟩ dX0_insertRow_14 ?_
  refine z_eq (show (za n K (nI (o row))) = K (o row) from za_at (hO row hf0 (Nat.le_refl _)).2 hn) ?_
  refine lv_istore (lv' := [(4, .int (K (o row))), (3, .int (nI (o row))), (0, .ref (ad 0)), (1, .int (nI f0)), (2, .int (nI row))]) hx hb dX0_insertRow_17 hl (by decide) rfl (fun ls hl => ?_)
  refine lv_iload_n hx hb dX0_insertRow_19 rfl (lv_at hl 4 rfl) ?_
  refine lv_istore (lv' := [(5, .int (nI row)), (4, .int (K (o row))), (3, .int (nI (o row))), (0, .ref (ad 0)), (1, .int (nI f0)), (2, .int (nI row))]) hx hb dX0_insertRow_20 hl (by decide) rfl (fun ls hl => ?_)
  have loop : ∀ (NN : Nat) (t : Nat) (OC : Nat → Int32) (H : Heap) (locs : List Loc) (ls : Array Slot), (f0 ≤ t ∧ t ≤ row ∧ (∀ a, f0 ≤ a → a ≤ row → OC a = nI (px_sh o t row a)) ∧ (∀ a, t ≤ a → a < row → kz K (o row) < kz K (o a)) ∧ ∀ a, (a < f0 ∨ row < a) → OC a = O a) → t < NN → va_P D classes (xw ad cs w n nr K V OC M RL G fed sp se co op ck cv) H → va_D A (xw ad cs w n nr K V OC M RL G fed sp se co op ck cv) → va_S A s.heap H locs → lv_has ls 6 [(5, .int (nI t)), (4, .int (K (o row))), (3, .int (nI (o row))), (0, .ref (ad 0)), (1, .int (nI f0)), (2, .int (nI row))] → W p l e rX_insertRow s m args below meth c H locs 0 0 Q (F0 m 22 ls []) := by
    intro N22
    induction N22 with
    | zero => intro t OC H locs ls hI hN; exact absurd hN (Nat.not_lt_zero _)
    | succ N22 ih22 =>
      intro t OC H locs ls hI hN22 hP hD hS hl
      obtain ⟨i1, i2, i3, i4, i5⟩ := hI
      refine lv_iload hx hb dX0_insertRow_22 (lv_at hl 0 rfl) ?_
      refine lv_iload_n hx hb dX0_insertRow_24 rfl (lv_at hl 4 rfl) ?_
      refine lv_icmp_le (tgt := 67) hx hb dX0_insertRow_25 (by decide) (fun c1 => ?_) (fun c1 => ?_)
      · have c1 := zle c1 (by omega) (by omega)
        have et : t = f0 := by omega
        refine lv_aload_n hx hb dX0_insertRow_67 rfl (lv_at hl 3 rfl) ?_
        refine z_get C0 zt_x0 hK hP 0 rfl rfl 4 (by decide) fl_X0_32 rfl dX0_insertRow_68 ?_
        refine lv_iload hx hb dX0_insertRow_71 (lv_at hl 0 rfl) ?_
        refine lv_iload_n hx hb dX0_insertRow_73 rfl (lv_at hl 2 rfl) ?_
        refine zx_put C0 hn hK hP hD hS hA 3 2 rfl rfl hl.1 (Nat.le_of_ble_eq_true rfl) ⟨by decide, by decide⟩ ⟨Nat.zero_le _, Nat.zero_le _⟩ dX0_insertRow_74 (fun H locs hP hD hS => ?_)
        have hP : va_P D classes (xw ad cs w n nr K V (zp n OC (nI t) (nI (o row))) M RL G fed sp se co op ck cv) H := hP
        have hD : va_D A (xw ad cs w n nr K V (zp n OC (nI t) (nI (o row))) M RL G fed sp se co op ck cv) := hD
        rw [show (zp n OC (nI t) (nI (o row))) = upd OC t (nI (o row)) from zp_at (by omega) hn] at hP hD
        have hP : va_P D classes (xw ad cs w n nr K V (upd OC t (nI (o row))) M RL G fed sp se co op ck cv) H := hP
        have hD : va_D A (xw ad cs w n nr K V (upd OC t (nI (o row))) M RL G fed sp se co op ck cv) := hD
        exact hret (upd OC t (nI (o row))) _ _ _ _ hP hD hS (⟨t, i1, i2, px_sh_end i3, i4, by first | exact Or.inl et | exact et, fun a h => by rw [upd_ne (by omega)]; exact i5 a h⟩) dX0_insertRow_77
      · have c1 := znle c1 (by omega) (by omega)
        have hot : OC (t - 1) = nI (o (t - 1)) := by rw [i3 (t - 1) (by omega) (by omega), px_sh_lo (by omega)]
        have hon := (hO (t - 1) (by omega) (by omega)).2
        refine lv_aload_n hx hb dX0_insertRow_28 rfl (lv_at hl 3 rfl) ?_
        refine lv_iload hx hb dX0_insertRow_29 (lv_at hl 0 rfl) ?_
        refine lv_iconst (v := 1) hx hb dX0_insertRow_31 (by decide) ?_
        refine lv_isub hx hb dX0_insertRow_32 ?_
        refine z_eq (show ((nI t) - 1) = nI (t - 1) from (pk_sub (b := 1) (by omega))) ?_
        refine zr_callV (As := [.int (nI (t - 1))]) (rest := []) (q0 := 0) (ci := 0) C0 (c_keyOfRow l D ad cs w n nr hn hnr K V OC M RL G fed sp se co op ck cv (nI (t - 1))) zv_X0_X0_keyOfRow ⟨by decide, by decide⟩ ⟨rfl, rfl⟩ rfl hK hP hD rfl rfl rfl hl.1 rfl (Nat.le_of_ble_eq_true rfl) dX0_insertRow_33 ⟨Nat.zero_le _, Nat.zero_le _⟩ (fun r1 er1 => ?_)
        subst er1
        refine z_eq (show (za n K (za n OC (nI (t - 1)))) = K (o (t - 1)) from by rw [za_at (by omega) hn, hot, za_at hon hn]) ?_
        refine lv_iload hx hb dX0_insertRow_36 (lv_at hl 1 rfl) ?_
        refine lv_icmp_le (tgt := 67) hx hb dX0_insertRow_38 (by decide) (fun c2 => ?_) (fun c2 => ?_)
        · have et : t = f0 ∨ kz K (o (t - 1)) ≤ kz K (o row) := Or.inr (kz_le c2)
          refine lv_aload_n hx hb dX0_insertRow_67 rfl (lv_at hl 3 rfl) ?_
          refine z_get C0 zt_x0 hK hP 0 rfl rfl 4 (by decide) fl_X0_32 rfl dX0_insertRow_68 ?_
          refine lv_iload hx hb dX0_insertRow_71 (lv_at hl 0 rfl) ?_
          refine lv_iload_n hx hb dX0_insertRow_73 rfl (lv_at hl 2 rfl) ?_
          refine zx_put C0 hn hK hP hD hS hA 3 2 rfl rfl hl.1 (Nat.le_of_ble_eq_true rfl) ⟨by decide, by decide⟩ ⟨Nat.zero_le _, Nat.zero_le _⟩ dX0_insertRow_74 (fun H locs hP hD hS => ?_)
          have hP : va_P D classes (xw ad cs w n nr K V (zp n OC (nI t) (nI (o row))) M RL G fed sp se co op ck cv) H := hP
          have hD : va_D A (xw ad cs w n nr K V (zp n OC (nI t) (nI (o row))) M RL G fed sp se co op ck cv) := hD
          rw [show (zp n OC (nI t) (nI (o row))) = upd OC t (nI (o row)) from zp_at (by omega) hn] at hP hD
          have hP : va_P D classes (xw ad cs w n nr K V (upd OC t (nI (o row))) M RL G fed sp se co op ck cv) H := hP
          have hD : va_D A (xw ad cs w n nr K V (upd OC t (nI (o row))) M RL G fed sp se co op ck cv) := hD
          exact hret (upd OC t (nI (o row))) _ _ _ _ hP hD hS (⟨t, i1, i2, px_sh_end i3, i4, by first | exact Or.inl et | exact et, fun a h => by rw [upd_ne (by omega)]; exact i5 a h⟩) dX0_insertRow_77
        · refine lv_aload_n hx hb dX0_insertRow_41 rfl (lv_at hl 3 rfl) ?_
          refine z_get C0 zt_x0 hK hP 0 rfl rfl 4 (by decide) fl_X0_32 rfl dX0_insertRow_42 ?_
          refine lv_iload hx hb dX0_insertRow_45 (lv_at hl 0 rfl) ?_
          refine lv_aload_n hx hb dX0_insertRow_47 rfl (lv_at hl 3 rfl) ?_
          refine z_get C0 zt_x0 hK hP 0 rfl rfl 4 (by decide) fl_X0_32 rfl dX0_insertRow_48 ?_
          refine lv_iload hx hb dX0_insertRow_51 (lv_at hl 0 rfl) ?_
          refine lv_iconst (v := 1) hx hb dX0_insertRow_53 (by decide) ?_
          refine lv_isub hx hb dX0_insertRow_54 ?_
          refine z_eq (show ((nI t) - 1) = nI (t - 1) from (pk_sub (b := 1) (by omega))) ?_
          refine zx_at C0 hn hK hP hD 3 2 rfl rfl hl.1 (Nat.le_of_ble_eq_true rfl) ⟨by decide, by decide⟩ ⟨Nat.zero_le _, Nat.zero_le _⟩ dX0_insertRow_55 ?_
          refine z_eq (show (za n OC (nI (t - 1))) = nI (o (t - 1)) from by rw [za_at (by omega) hn, hot]) ?_
          refine zx_put C0 hn hK hP hD hS hA 3 2 rfl rfl hl.1 (Nat.le_of_ble_eq_true rfl) ⟨by decide, by decide⟩ ⟨Nat.zero_le _, Nat.zero_le _⟩ dX0_insertRow_58 (fun H locs hP hD hS => ?_)
          have hP : va_P D classes (xw ad cs w n nr K V (zp n OC (nI t) (nI (o (t - 1)))) M RL G fed sp se co op ck cv) H := hP
          have hD : va_D A (xw ad cs w n nr K V (zp n OC (nI t) (nI (o (t - 1)))) M RL G fed sp se co op ck cv) := hD
          rw [show (zp n OC (nI t) (nI (o (t - 1)))) = upd OC t (nI (o (t - 1))) from zp_at (by omega) hn] at hP hD
          have hP : va_P D classes (xw ad cs w n nr K V (upd OC t (nI (o (t - 1)))) M RL G fed sp se co op ck cv) H := hP
          have hD : va_D A (xw ad cs w n nr K V (upd OC t (nI (o (t - 1)))) M RL G fed sp se co op ck cv) := hD
          refine lv_iinc (v := nI (t - 1)) (lv' := [(5, .int (nI (t - 1))), (4, .int (K (o row))), (3, .int (nI (o row))), (0, .ref (ad 0)), (1, .int (nI f0)), (2, .int (nI row))]) hx hb dX0_insertRow_61 hl (k := 0) rfl (show (nI t) + Int32.ofInt (-1) = nI (t - 1) from (congrArg ((nI t) + ·) (by decide : Int32.ofInt (-1) = -1)).trans (sb_m1 (by omega))) (by decide) rfl (fun ls hl => ?_)
          refine lv_goto (tgt := 22) hx hb dX0_insertRow_64 (by decide) ?_
          exact ih22 (t - 1) (upd OC t (nI (o (t - 1)))) _ _ _ (⟨by omega, by omega, px_sh_step c1 i2 i3, fun a h1 h2 => by rcases Nat.lt_or_ge a t with q | q; (rw [show a = t - 1 by omega]; exact kz_nle c2); (exact i4 a q h2), fun a h => by rw [upd_ne (by omega)]; exact i5 a h⟩) (by omega) hP hD hS (lv_sub hl [0, 1, 2, 3, 4, 5] rfl)
  exact loop _ row O _ _ _ (⟨hf0, Nat.le_refl _, fun a h1 h2 => by rw [px_sh_0]; exact (hO a h1 h2).1, fun a h1 h2 => by omega, fun a _ => rfl⟩) (Nat.lt_succ_self _) hP hD hS (lv_sub hl [0, 1, 2, 3, 4, 5] (rfl))
abbrev rX_sortWorkArea : Room := { frames := 3, cells := 0, slots := 0, locals := 67 }
set_option maxHeartbeats 4000000 in
set_option maxRecDepth 100000 in
theorem c_sortWorkArea (l : Launch) (D : va_G) (ad : Nat → Nat) (cs : Nat → ClassId) (w n nr : Nat) (hn : n < 2 ^ 31) (hnr : nr < 2 ^ 31) (K V O M RL G : Nat → Int32) (se co op ck cv : Int32) (r f : Nat) (hf : f ≤ n) (hn2 : n < 2 ^ 29) (hr : r * w ≤ f) (hO : ∀ a, r * w ≤ a → a < f → O a = nI a) : ZV (S := (Nat → Int32)) l yX0_sortWorkArea cX0_sortWorkArea 3 rX_sortWorkArea D classes (xt cs) [.ref (ad 0)] (xw ad cs w n nr K V O M RL G (nI f) (nI r) se co op ck cv) (fun O1 => xS w K O O1 r f) (fun O1 => xw ad cs w n nr K V O1 M RL G (nI f) (nI r) se co op ck cv) := by
  refine ZV.of (by decide +kernel) (Nat.le_of_ble_eq_true rfl) ?_
  intro p e s m args below meth c A Q ls C0 hname hK hP hD hS hA hl hret
  have hx := C0.1
  have hb := C0.2.1
  have hl : lv_has ls 3 [(0, .ref (ad 0))] := hl
  refine lv_aload_n hx hb dX0_sortWorkArea_0 rfl (lv_at hl 0 rfl) ?_
  refine zr_callV (As := []) (rest := []) (q0 := 0) (ci := 0) C0 (c_spilledPairs l D ad cs w n nr hn hnr K V O M RL G (nI f) (nI r) se co op ck cv) zv_X0_X0_spilledPairs ⟨by decide, by decide⟩ ⟨rfl, rfl⟩ rfl hK hP hD rfl rfl rfl hl.1 rfl (Nat.le_of_ble_eq_true rfl) dX0_sortWorkArea_1 ⟨Nat.zero_le _, Nat.zero_le _⟩ (fun r1 er1 => ?_)
  subst er1
  refine z_eq (show ((nI r) * nI w) = nI (r * w) from pk_mul r w) ?_
  refine lv_istore_n (lv' := [(1, .int (nI (r * w))), (0, .ref (ad 0))]) hx hb dX0_sortWorkArea_4 rfl hl (by decide) rfl (fun ls hl => ?_)
  refine lv_iload_n hx hb dX0_sortWorkArea_5 rfl (lv_at hl 0 rfl) ?_
  refine lv_iconst (v := 1) hx hb dX0_sortWorkArea_6 (by decide) ?_
  refine lv_iadd hx hb dX0_sortWorkArea_7 ?_
  refine z_eq (show ((nI (r * w)) + 1) = nI (r * w + 1) from nI_1 _) ?_
  refine lv_istore_n (lv' := [(2, .int (nI (r * w + 1))), (1, .int (nI (r * w))), (0, .ref (ad 0))]) hx hb dX0_sortWorkArea_8 rfl hl (by decide) rfl (fun ls hl => ?_)
  have loop : ∀ (NN : Nat) (row : Nat) (O1 : Nat → Int32) (o : Nat → Nat) (H : Heap) (locs : List Loc) (ls : Array Slot), (r * w + 1 ≤ row ∧ (row ≤ f ∨ row = r * w + 1) ∧ (∀ a, r * w ≤ a → a < f → O1 a = nI (o a)) ∧ px_srt (kz K) o (r * w) row ∧ px_prm o (r * w) (row - r * w) ∧ (∀ a, row ≤ a → a < f → o a = a) ∧ ∀ a, a < r * w → O1 a = O a) → f + 1 - row < NN → va_P D classes (xw ad cs w n nr K V O1 M RL G (nI f) (nI r) se co op ck cv) H → va_D A (xw ad cs w n nr K V O1 M RL G (nI f) (nI r) se co op ck cv) → va_S A s.heap H locs → lv_has ls 3 [(2, .int (nI row)), (1, .int (nI (r * w))), (0, .ref (ad 0))] → W p l e rX_sortWorkArea s m args below meth c H locs 0 0 Q (F0 m 9 ls []) := by
    intro N9
    induction N9 with
    | zero => intro row O1 o H locs ls hI hN; exact absurd hN (Nat.not_lt_zero _)
    | succ N9 ih9 =>
      intro row O1 o H locs ls hI hN9 hP hD hS hl
      obtain ⟨i1, i2, i3, i4, i5, i6, i7⟩ := hI
      refine lv_iload_n hx hb dX0_sortWorkArea_9 rfl (lv_at hl 0 rfl) ?_
      refine lv_aload_n hx hb dX0_sortWorkArea_10 rfl (lv_at hl 2 rfl) ?_
      refine z_get C0 zt_x0 hK hP 0 rfl rfl 7 (by decide) fl_X0_44 rfl dX0_sortWorkArea_11 ?_
      refine lv_icmp_ge (tgt := 29) hx hb dX0_sortWorkArea_14 (by decide) (fun c1 => ?_) (fun c1 => ?_)
      · have c1 := zle c1 (by omega) (by omega)
        exact hret (O1) _ _ _ _ hP hD hS (⟨o, i3, px_srt_sub i4 c1, by rcases i2 with q | q; (rw [show f - r * w = row - r * w by omega]; exact i5); (rcases Nat.lt_or_ge (r * w) f with z | z; (rw [show f - r * w = row - r * w by omega]; exact i5); (rw [show f - r * w = 0 by omega]; exact fun P => rfl)), i7⟩) dX0_sortWorkArea_29
      · have c1 := znle c1 (by omega) (by omega)
        refine lv_aload_n hx hb dX0_sortWorkArea_17 rfl (lv_at hl 2 rfl) ?_
        refine lv_iload_n hx hb dX0_sortWorkArea_18 rfl (lv_at hl 1 rfl) ?_
        refine lv_iload_n hx hb dX0_sortWorkArea_19 rfl (lv_at hl 0 rfl) ?_
        refine zv_callV0 (As := [.int (nI (r * w)), .int (nI row)]) (rest := []) (q0 := 0) (ci := 0) C0 (c_insertRow l D ad cs w n nr hn hnr K V O1 M RL G (nI f) (nI r) se co op ck cv (r * w) row o (by omega) (by omega) (fun a h1 h2 => ⟨i3 a h1 (by omega), by rcases Nat.lt_or_ge a row with q | q; (have := (i5.rng h1 (by omega)).2; omega); (rw [i6 a q (by omega)]; omega)⟩)) zv_X0_X0_insertRow ⟨by decide, by decide⟩ ⟨rfl, rfl⟩ rfl hK hP hD hS hA rfl rfl rfl hl.1 rfl (Nat.le_of_ble_eq_true rfl) dX0_sortWorkArea_20 ⟨Nat.zero_le _, Nat.zero_le _⟩ (fun O2 H locs hj hP hD hS => ?_)
        obtain ⟨t, j1, j2, j3, j4, j5, j6⟩ := hj
        have hP : va_P D classes (xw ad cs w n nr K V O2 M RL G (nI f) (nI r) se co op ck cv) H := hP
        have hD : va_D A (xw ad cs w n nr K V O2 M RL G (nI f) (nI r) se co op ck cv) := hD
        refine lv_iinc (v := nI (row + 1)) (lv' := [(2, .int (nI (row + 1))), (1, .int (nI (r * w))), (0, .ref (ad 0))]) hx hb dX0_sortWorkArea_23 hl (k := 0) rfl (show (nI row) + Int32.ofInt (1) = nI (row + 1) from (congrArg ((nI row) + ·) (by decide : Int32.ofInt (1) = 1)).trans (nI_1 row)) (by decide) rfl (fun ls hl => ?_)
        refine lv_goto (tgt := 9) hx hb dX0_sortWorkArea_26 (by decide) ?_
        exact ih9 (row + 1) O2 (px_ins o t row) _ _ _ (⟨by omega, Or.inl (by omega), fun a h1 h2 => by rcases Nat.lt_or_ge row a with q | q; (rw [j6 a (Or.inr q), px_ins_hi j2 q]; exact i3 a h1 h2); (exact j3 a h1 q), px_ins_srt j1 j2 i4 i5 (i6 row (Nat.le_refl _) c1) j4 j5, by rw [show row + 1 - r * w = row + 1 - r * w from rfl]; exact px_ins_prm j1 j2 i5 (i6 row (Nat.le_refl _) c1), fun a h1 h2 => by rw [px_ins_hi j2 (by omega)]; exact i6 a (by omega) h2, fun a h => by rw [j6 a (Or.inl h)]; exact i7 a h⟩) (by omega) hP hD hS (lv_sub hl [0, 1, 2] rfl)
  exact loop _ (r * w + 1) O (fun a => a) _ _ _ (⟨Nat.le_refl _, Or.inr rfl, hO, fun a b h1 h2 h3 => by omega, fun P => rfl, fun a _ _ => rfl, fun a _ => rfl⟩) (Nat.lt_succ_self _) hP hD hS (lv_sub hl [0, 1, 2] (rfl))
abbrev rX_append : Room := { frames := 4, cells := 0, slots := 0, locals := 89 }
set_option maxHeartbeats 4000000 in
set_option maxRecDepth 100000 in
theorem c_append (l : Launch) (D : va_G) (ad : Nat → Nat) (cs : Nat → ClassId) (w n nr : Nat) (hn : n < 2 ^ 31) (hnr : nr < 2 ^ 31) (K V O M RL G : Nat → Int32) (se co op ck cv : Int32) (key val : Int32) (r f : Nat) (hf : f < n) (hn2 : n < 2 ^ 29) (hw0 : 0 < w) (hw1 : w < 2 ^ 29) (hO : xO w n K O r f) : ZV (S := ((Nat → Int32) × Nat)) l yX0_append cX0_append 3 rX_append D classes (xt cs) [.ref (ad 0), .int key, .int val] (xw ad cs w n nr K V O M RL G (nI f) (nI r) se co op ck cv) (fun u => u.2 = rnx w r f ∧ xO w n (upd K f key) u.1 u.2 (f + 1)) (fun u => xw ad cs w n nr (upd K f key) (upd V f val) u.1 M RL G (nI (f + 1)) (nI u.2) se co op ck cv) := by
  refine ZV.of (by decide +kernel) (Nat.le_of_ble_eq_true rfl) ?_
  intro p e s m args below meth c A Q ls C0 hname hK hP hD hS hA hl hret
  have hx := C0.1
  have hb := C0.2.1
  have hl : lv_has ls 3 [(0, .ref (ad 0)), (1, .int key), (2, .int val)] := hl
  obtain ⟨ho1, ho2, ho3, -⟩ := id hO
  refine lv_aload_n hx hb dX0_append_0 rfl (lv_at hl 0 rfl) ?_
  refine z_get C0 zt_x0 hK hP 0 rfl rfl 7 (by decide) fl_X0_44 rfl dX0_append_1 ?_
  refine lv_aload_n hx hb dX0_append_4 rfl (lv_at hl 0 rfl) ?_
  refine zr_callV (As := []) (rest := [.int (nI f)]) (q0 := 0) (ci := 0) C0 (c_spilledPairs l D ad cs w n nr hn hnr K V O M RL G (nI f) (nI r) se co op ck cv) zv_X0_X0_spilledPairs ⟨by decide, by decide⟩ ⟨rfl, rfl⟩ rfl hK hP hD rfl rfl rfl hl.1 rfl (Nat.le_of_ble_eq_true rfl) dX0_append_5 ⟨Nat.zero_le _, Nat.zero_le _⟩ (fun r1 er1 => ?_)
  subst er1
  refine z_eq (show ((nI r) * nI w) = nI (r * w) from pk_mul r w) ?_
  refine lv_isub hx hb dX0_append_8 ?_
  refine z_eq (show ((nI f) - (nI (r * w))) = nI (f - r * w) from pk_sub ho1) ?_
  refine lv_aload_n hx hb dX0_append_9 rfl (lv_at hl 0 rfl) ?_
  refine z_get C0 zt_x0 hK hP 0 rfl rfl 0 (by decide) fl_X0_18 rfl dX0_append_10 ?_
  refine lv_icmp_lt (tgt := 30) hx hb dX0_append_13 (by decide) (fun c1 => ?_) (fun c1 => ?_)
  · have c1 := zlt c1 (by omega) (by omega)
    have hrn : rnx w r f = r := by unfold rnx; rw [if_pos (by omega)]
    refine lv_aload_n hx hb dX0_append_30 rfl (lv_at hl 0 rfl) ?_
    refine z_get C0 zt_x0 hK hP 0 rfl rfl 2 (by decide) fl_X0_25 rfl dX0_append_31 ?_
    refine lv_aload_n hx hb dX0_append_34 rfl (lv_at hl 0 rfl) ?_
    refine z_get C0 zt_x0 hK hP 0 rfl rfl 7 (by decide) fl_X0_44 rfl dX0_append_35 ?_
    refine lv_iload_n hx hb dX0_append_38 rfl (lv_at hl 1 rfl) ?_
    refine zx_put C0 hn hK hP hD hS hA 1 0 rfl rfl hl.1 (Nat.le_of_ble_eq_true rfl) ⟨by decide, by decide⟩ ⟨Nat.zero_le _, Nat.zero_le _⟩ dX0_append_39 (fun H locs hP hD hS => ?_)
    have hP : va_P D classes (xw ad cs w n nr (zp n K (nI f) key) V O M RL G (nI f) (nI r) se co op ck cv) H := hP
    have hD : va_D A (xw ad cs w n nr (zp n K (nI f) key) V O M RL G (nI f) (nI r) se co op ck cv) := hD
    rw [show (zp n K (nI f) key) = upd K f key from zp_at hf hn] at hP hD
    have hP : va_P D classes (xw ad cs w n nr (upd K f key) V O M RL G (nI f) (nI r) se co op ck cv) H := hP
    have hD : va_D A (xw ad cs w n nr (upd K f key) V O M RL G (nI f) (nI r) se co op ck cv) := hD
    refine lv_aload_n hx hb dX0_append_42 rfl (lv_at hl 0 rfl) ?_
    refine z_get C0 zt_x0 hK hP 0 rfl rfl 3 (by decide) fl_X0_29 rfl dX0_append_43 ?_
    refine lv_aload_n hx hb dX0_append_46 rfl (lv_at hl 0 rfl) ?_
    refine z_get C0 zt_x0 hK hP 0 rfl rfl 7 (by decide) fl_X0_44 rfl dX0_append_47 ?_
    refine lv_iload_n hx hb dX0_append_50 rfl (lv_at hl 2 rfl) ?_
    refine zx_put C0 hn hK hP hD hS hA 2 1 rfl rfl hl.1 (Nat.le_of_ble_eq_true rfl) ⟨by decide, by decide⟩ ⟨Nat.zero_le _, Nat.zero_le _⟩ dX0_append_51 (fun H locs hP hD hS => ?_)
    have hP : va_P D classes (xw ad cs w n nr (upd K f key) (zp n V (nI f) val) O M RL G (nI f) (nI r) se co op ck cv) H := hP
    have hD : va_D A (xw ad cs w n nr (upd K f key) (zp n V (nI f) val) O M RL G (nI f) (nI r) se co op ck cv) := hD
    rw [show (zp n V (nI f) val) = upd V f val from zp_at hf hn] at hP hD
    have hP : va_P D classes (xw ad cs w n nr (upd K f key) (upd V f val) O M RL G (nI f) (nI r) se co op ck cv) H := hP
    have hD : va_D A (xw ad cs w n nr (upd K f key) (upd V f val) O M RL G (nI f) (nI r) se co op ck cv) := hD
    refine lv_aload_n hx hb dX0_append_54 rfl (lv_at hl 0 rfl) ?_
    refine z_get C0 zt_x0 hK hP 0 rfl rfl 4 (by decide) fl_X0_32 rfl dX0_append_55 ?_
    refine lv_aload_n hx hb dX0_append_58 rfl (lv_at hl 0 rfl) ?_
    refine z_get C0 zt_x0 hK hP 0 rfl rfl 7 (by decide) fl_X0_44 rfl dX0_append_59 ?_
    refine lv_aload_n hx hb dX0_append_62 rfl (lv_at hl 0 rfl) ?_
    refine z_get C0 zt_x0 hK hP 0 rfl rfl 7 (by decide) fl_X0_44 rfl dX0_append_63 ?_
    refine zx_put C0 hn hK hP hD hS hA 3 2 rfl rfl hl.1 (Nat.le_of_ble_eq_true rfl) ⟨by decide, by decide⟩ ⟨Nat.zero_le _, Nat.zero_le _⟩ dX0_append_66 (fun H locs hP hD hS => ?_)
    have hP : va_P D classes (xw ad cs w n nr (upd K f key) (upd V f val) (zp n O (nI f) (nI f)) M RL G (nI f) (nI r) se co op ck cv) H := hP
    have hD : va_D A (xw ad cs w n nr (upd K f key) (upd V f val) (zp n O (nI f) (nI f)) M RL G (nI f) (nI r) se co op ck cv) := hD
    rw [show (zp n O (nI f) (nI f)) = upd O f (nI f) from zp_at hf hn] at hP hD
    have hP : va_P D classes (xw ad cs w n nr (upd K f key) (upd V f val) (upd O f (nI f)) M RL G (nI f) (nI r) se co op ck cv) H := hP
    have hD : va_D A (xw ad cs w n nr (upd K f key) (upd V f val) (upd O f (nI f)) M RL G (nI f) (nI r) se co op ck cv) := hD
    refine lv_aload_n hx hb dX0_append_69 rfl (lv_at hl 0 rfl) ?_
    refine lv_dup hx hb dX0_append_70 rfl ?_
    refine z_get C0 zt_x0 hK hP 0 rfl rfl 7 (by decide) fl_X0_44 rfl dX0_append_71 ?_
    refine lv_iconst (v := 1) hx hb dX0_append_74 (by decide) ?_
    refine lv_iadd hx hb dX0_append_75 ?_
    refine z_eq (show ((nI f) + 1) = nI (f + 1) from nI_1 f) ?_
    refine z_put (ty := .int) C0 zt_x0 tyX0 tyX0_ok nmX0 hK hP hD hS 0 rfl rfl 7 (by decide) fl_X0_44 rfl (by decide +kernel) rfl rfl (Nat.le_of_ble_eq_true rfl) dX0_append_76 (fun H locs hP hD hS => ?_)
    have hP : va_P D classes (xw ad cs w n nr (upd K f key) (upd V f val) (upd O f (nI f)) M RL G (nI (f + 1)) (nI r) se co op ck cv) H := hP
    have hD : va_D A (xw ad cs w n nr (upd K f key) (upd V f val) (upd O f (nI f)) M RL G (nI (f + 1)) (nI r) se co op ck cv) := hD
    exact hret ((upd O f (nI f), r)) _ _ _ _ hP hD hS (⟨hrn.symm, xO_add hO (by omega) hf key⟩) dX0_append_79
  · have c1 := znlt c1 (by omega) (by omega)
    have hrn : rnx w r f = r + 1 := by unfold rnx; rw [if_neg (by omega)]
    refine lv_aload_n hx hb dX0_append_16 rfl (lv_at hl 0 rfl) ?_
    refine zv_callV0 (As := []) (rest := []) (q0 := 0) (ci := 0) C0 (c_sortWorkArea l D ad cs w n nr hn hnr K V O M RL G se co op ck cv r f ho3 hn2 ho1 (xO_id hO)) zv_X0_X0_sortWorkArea ⟨by decide, by decide⟩ ⟨rfl, rfl⟩ rfl hK hP hD hS hA rfl rfl rfl hl.1 rfl (Nat.le_of_ble_eq_true rfl) dX0_append_17 ⟨Nat.zero_le _, Nat.zero_le _⟩ (fun O1 H locs hs hP hD hS => ?_)
    have hP : va_P D classes (xw ad cs w n nr K V O1 M RL G (nI f) (nI r) se co op ck cv) H := hP
    have hD : va_D A (xw ad cs w n nr K V O1 M RL G (nI f) (nI r) se co op ck cv) := hD
    refine lv_aload_n hx hb dX0_append_20 rfl (lv_at hl 0 rfl) ?_
    refine lv_dup hx hb dX0_append_21 rfl ?_
    refine z_get C0 zt_x0 hK hP 0 rfl rfl 8 (by decide) fl_X0_47 rfl dX0_append_22 ?_
    refine lv_iconst (v := 1) hx hb dX0_append_25 (by decide) ?_
    refine lv_iadd hx hb dX0_append_26 ?_
    refine z_eq (show ((nI r) + 1) = nI (r + 1) from nI_1 r) ?_
    refine z_put (ty := .int) C0 zt_x0 tyX0 tyX0_ok nmX0 hK hP hD hS 0 rfl rfl 8 (by decide) fl_X0_47 rfl (by decide +kernel) rfl rfl (Nat.le_of_ble_eq_true rfl) dX0_append_27 (fun H locs hP hD hS => ?_)
    have hP : va_P D classes (xw ad cs w n nr K V O1 M RL G (nI f) (nI (r + 1)) se co op ck cv) H := hP
    have hD : va_D A (xw ad cs w n nr K V O1 M RL G (nI f) (nI (r + 1)) se co op ck cv) := hD
    refine lv_aload_n hx hb dX0_append_30 rfl (lv_at hl 0 rfl) ?_
    refine z_get C0 zt_x0 hK hP 0 rfl rfl 2 (by decide) fl_X0_25 rfl dX0_append_31 ?_
    refine lv_aload_n hx hb dX0_append_34 rfl (lv_at hl 0 rfl) ?_
    refine z_get C0 zt_x0 hK hP 0 rfl rfl 7 (by decide) fl_X0_44 rfl dX0_append_35 ?_
    refine lv_iload_n hx hb dX0_append_38 rfl (lv_at hl 1 rfl) ?_
    refine zx_put C0 hn hK hP hD hS hA 1 0 rfl rfl hl.1 (Nat.le_of_ble_eq_true rfl) ⟨by decide, by decide⟩ ⟨Nat.zero_le _, Nat.zero_le _⟩ dX0_append_39 (fun H locs hP hD hS => ?_)
    have hP : va_P D classes (xw ad cs w n nr (zp n K (nI f) key) V O1 M RL G (nI f) (nI (r + 1)) se co op ck cv) H := hP
    have hD : va_D A (xw ad cs w n nr (zp n K (nI f) key) V O1 M RL G (nI f) (nI (r + 1)) se co op ck cv) := hD
    rw [show (zp n K (nI f) key) = upd K f key from zp_at hf hn] at hP hD
    have hP : va_P D classes (xw ad cs w n nr (upd K f key) V O1 M RL G (nI f) (nI (r + 1)) se co op ck cv) H := hP
    have hD : va_D A (xw ad cs w n nr (upd K f key) V O1 M RL G (nI f) (nI (r + 1)) se co op ck cv) := hD
    refine lv_aload_n hx hb dX0_append_42 rfl (lv_at hl 0 rfl) ?_
    refine z_get C0 zt_x0 hK hP 0 rfl rfl 3 (by decide) fl_X0_29 rfl dX0_append_43 ?_
    refine lv_aload_n hx hb dX0_append_46 rfl (lv_at hl 0 rfl) ?_
    refine z_get C0 zt_x0 hK hP 0 rfl rfl 7 (by decide) fl_X0_44 rfl dX0_append_47 ?_
    refine lv_iload_n hx hb dX0_append_50 rfl (lv_at hl 2 rfl) ?_
    refine zx_put C0 hn hK hP hD hS hA 2 1 rfl rfl hl.1 (Nat.le_of_ble_eq_true rfl) ⟨by decide, by decide⟩ ⟨Nat.zero_le _, Nat.zero_le _⟩ dX0_append_51 (fun H locs hP hD hS => ?_)
    have hP : va_P D classes (xw ad cs w n nr (upd K f key) (zp n V (nI f) val) O1 M RL G (nI f) (nI (r + 1)) se co op ck cv) H := hP
    have hD : va_D A (xw ad cs w n nr (upd K f key) (zp n V (nI f) val) O1 M RL G (nI f) (nI (r + 1)) se co op ck cv) := hD
    rw [show (zp n V (nI f) val) = upd V f val from zp_at hf hn] at hP hD
    have hP : va_P D classes (xw ad cs w n nr (upd K f key) (upd V f val) O1 M RL G (nI f) (nI (r + 1)) se co op ck cv) H := hP
    have hD : va_D A (xw ad cs w n nr (upd K f key) (upd V f val) O1 M RL G (nI f) (nI (r + 1)) se co op ck cv) := hD
    refine lv_aload_n hx hb dX0_append_54 rfl (lv_at hl 0 rfl) ?_
    refine z_get C0 zt_x0 hK hP 0 rfl rfl 4 (by decide) fl_X0_32 rfl dX0_append_55 ?_
    refine lv_aload_n hx hb dX0_append_58 rfl (lv_at hl 0 rfl) ?_
    refine z_get C0 zt_x0 hK hP 0 rfl rfl 7 (by decide) fl_X0_44 rfl dX0_append_59 ?_
    refine lv_aload_n hx hb dX0_append_62 rfl (lv_at hl 0 rfl) ?_
    refine z_get C0 zt_x0 hK hP 0 rfl rfl 7 (by decide) fl_X0_44 rfl dX0_append_63 ?_
    refine zx_put C0 hn hK hP hD hS hA 3 2 rfl rfl hl.1 (Nat.le_of_ble_eq_true rfl) ⟨by decide, by decide⟩ ⟨Nat.zero_le _, Nat.zero_le _⟩ dX0_append_66 (fun H locs hP hD hS => ?_)
    have hP : va_P D classes (xw ad cs w n nr (upd K f key) (upd V f val) (zp n O1 (nI f) (nI f)) M RL G (nI f) (nI (r + 1)) se co op ck cv) H := hP
    have hD : va_D A (xw ad cs w n nr (upd K f key) (upd V f val) (zp n O1 (nI f) (nI f)) M RL G (nI f) (nI (r + 1)) se co op ck cv) := hD
    rw [show (zp n O1 (nI f) (nI f)) = upd O1 f (nI f) from zp_at hf hn] at hP hD
    have hP : va_P D classes (xw ad cs w n nr (upd K f key) (upd V f val) (upd O1 f (nI f)) M RL G (nI f) (nI (r + 1)) se co op ck cv) H := hP
    have hD : va_D A (xw ad cs w n nr (upd K f key) (upd V f val) (upd O1 f (nI f)) M RL G (nI f) (nI (r + 1)) se co op ck cv) := hD
    refine lv_aload_n hx hb dX0_append_69 rfl (lv_at hl 0 rfl) ?_
    refine lv_dup hx hb dX0_append_70 rfl ?_
    refine z_get C0 zt_x0 hK hP 0 rfl rfl 7 (by decide) fl_X0_44 rfl dX0_append_71 ?_
    refine lv_iconst (v := 1) hx hb dX0_append_74 (by decide) ?_
    refine lv_iadd hx hb dX0_append_75 ?_
    refine z_eq (show ((nI f) + 1) = nI (f + 1) from nI_1 f) ?_
    refine z_put (ty := .int) C0 zt_x0 tyX0 tyX0_ok nmX0 hK hP hD hS 0 rfl rfl 7 (by decide) fl_X0_44 rfl (by decide +kernel) rfl rfl (Nat.le_of_ble_eq_true rfl) dX0_append_76 (fun H locs hP hD hS => ?_)
    have hP : va_P D classes (xw ad cs w n nr (upd K f key) (upd V f val) (upd O1 f (nI f)) M RL G (nI (f + 1)) (nI (r + 1)) se co op ck cv) H := hP
    have hD : va_D A (xw ad cs w n nr (upd K f key) (upd V f val) (upd O1 f (nI f)) M RL G (nI (f + 1)) (nI (r + 1)) se co op ck cv) := hD
    exact hret ((upd O1 f (nI f), r + 1)) _ _ _ _ hP hD hS (⟨hrn.symm, xO_add (xO_sp hO hs (by omega)) (by rw [Nat.succ_mul]; omega) hf key⟩) dX0_append_79
end
section
theorem zmin_n {a b c : Nat} (h : a = c) (ha : a < 2 ^ 31) (hb : b < 2 ^ 31) : (if nI b < nI a then nI b else nI a) = nI (min c b) := by
  subst h
  by_cases q : nI b < nI a
  · have := zlt q hb ha
    rw [if_pos q, show min a b = b by omega]
  · have := znlt q hb ha
    rw [if_neg q, show min a b = a by omega]
abbrev rX_mergeStretches : Room := { frames := 2, cells := 0, slots := 0, locals := 42 }
set_option maxHeartbeats 4000000 in
set_option maxRecDepth 100000 in
theorem c_mergeStretches (l : Launch) (D : va_G) (ad : Nat → Nat) (cs : Nat → ClassId) (w n nr : Nat) (hn : n < 2 ^ 31) (hnr : nr < 2 ^ 31) (K V O M RL G : Nat → Int32) (fed sp se co op ck cv : Int32) (low mid high : Nat) (o : Nat → Nat) (hlm : low ≤ mid) (hmh : mid ≤ high) (hhn : high ≤ n) (hO : ∀ a, low ≤ a → a < high → O a = nI (o a) ∧ o a < n) (hs1 : px_srt (kz K) o low mid) (hs2 : px_srt (kz K) o mid high) (hlr : ∀ a b, low ≤ a → a < mid → mid ≤ b → b < high → o a < o b) : ZV (S := ((Nat → Int32) × (Nat → Int32))) l yX0_mergeStretches cX0_mergeStretches 7 rX_mergeStretches D classes (xt cs) [.ref (ad 0), .int (nI low), .int (nI mid), .int (nI high)] (xw ad cs w n nr K V O M RL G fed sp se co op ck cv) (fun u => ∃ (mm : Nat → Nat) (L R : Nat), (∀ a, low ≤ a → a < high → u.1 a = nI (mm a)) ∧ (∀ a, (a < low ∨ high ≤ a) → u.1 a = O a) ∧ px_mg (kz K) o mm low mid high L R high) (fun u => xw ad cs w n nr K V u.1 u.2 RL G fed sp se co op ck cv) := by
  refine ZV.of (by decide +kernel) (Nat.le_of_ble_eq_true rfl) ?_
  intro p e s m args below meth c A Q ls C0 hname hK hP hD hS hA hl hret
  have hx := C0.1
  have hb := C0.2.1
  have hl : lv_has ls 7 [(0, .ref (ad 0)), (1, .int (nI low)), (2, .int (nI mid)), (3, .int (nI high))] := hl
  refine lv_iload_n hx hb dX0_mergeStretches_0 rfl (lv_at hl 1 rfl) ?_
  refine lv_istore (lv' := [(4, .int (nI low)), (0, .ref (ad 0)), (1, .int (nI low)), (2, .int (nI mid)), (3, .int (nI high))]) hx hb dX0_mergeStretches_1 hl (by decide) rfl (fun ls hl => ?_)
  refine lv_iload_n hx hb dX0_mergeStretches_3 rfl (lv_at hl 3 rfl) ?_
  refine lv_istore (lv' := [(5, .int (nI mid)), (4, .int (nI low)), (0, .ref (ad 0)), (1, .int (nI low)), (2, .int (nI mid)), (3, .int (nI high))]) hx hb dX0_mergeStretches_4 hl (by decide) rfl (fun ls hl => ?_)
  refine lv_iload_n hx hb dX0_mergeStretches_6 rfl (lv_at hl 3 rfl) ?_
  refine lv_istore (lv' := [(6, .int (nI low)), (5, .int (nI mid)), (4, .int (nI low)), (0, .ref (ad 0)), (1, .int (nI low)), (2, .int (nI mid)), (3, .int (nI high))]) hx hb dX0_mergeStretches_7 hl (by decide) rfl (fun ls hl => ?_)
  have loop : ∀ (NN : Nat) (L R T : Nat) (mm : Nat → Nat) (M1 : Nat → Int32) (H : Heap) (locs : List Loc) (ls : Array Slot), (px_mg (kz K) o mm low mid high L R T ∧ T ≤ high ∧ ∀ a, low ≤ a → a < T → M1 a = nI (mm a)) → high - T < NN → va_P D classes (xw ad cs w n nr K V O M1 RL G fed sp se co op ck cv) H → va_D A (xw ad cs w n nr K V O M1 RL G fed sp se co op ck cv) → va_S A s.heap H locs → lv_has ls 7 [(6, .int (nI T)), (5, .int (nI R)), (4, .int (nI L)), (0, .ref (ad 0)), (1, .int (nI low)), (2, .int (nI mid)), (3, .int (nI high))] → W p l e rX_mergeStretches s m args below meth c H locs 0 0 Q (F0 m 9 ls []) := by
    intro N9
    induction N9 with
    | zero => intro L R T mm M1 H locs ls hI hN; exact absurd hN (Nat.not_lt_zero _)
    | succ N9 ih9 =>
      intro L R T mm M1 H locs ls hI hN9 hP hD hS hl
      obtain ⟨hg, hT, hM⟩ := hI
      obtain ⟨g1, g2, g3, g4, g5⟩ := hg.1
      refine lv_iload hx hb dX0_mergeStretches_9 (lv_at hl 0 rfl) ?_
      refine lv_iload_n hx hb dX0_mergeStretches_11 rfl (lv_at hl 6 rfl) ?_
      refine lv_icmp_ge (tgt := 93) hx hb dX0_mergeStretches_12 (by decide) (fun c1 => ?_) (fun c1 => ?_)
      · have c1 := zle c1 (by omega) (by omega)
        have eT : T = high := by omega
        rw [eT] at hg hM
        refine lv_iload_n hx hb dX0_mergeStretches_93 rfl (lv_at hl 4 rfl) ?_
        refine lv_istore (lv' := [(6, .int (nI low)), (5, .int (nI R)), (4, .int (nI L)), (0, .ref (ad 0)), (1, .int (nI low)), (2, .int (nI mid)), (3, .int (nI high))]) hx hb dX0_mergeStretches_94 hl (by decide) rfl (fun ls hl => ?_)
        have loop : ∀ (NN : Nat) (i : Nat) (O1 : Nat → Int32) (H : Heap) (locs : List Loc) (ls : Array Slot), (low ≤ i ∧ i ≤ high ∧ (∀ a, low ≤ a → a < i → O1 a = nI (mm a)) ∧ ∀ a, (a < low ∨ i ≤ a) → O1 a = O a) → high - i < NN → va_P D classes (xw ad cs w n nr K V O1 M1 RL G fed sp se co op ck cv) H → va_D A (xw ad cs w n nr K V O1 M1 RL G fed sp se co op ck cv) → va_S A s.heap H locs → lv_has ls 7 [(6, .int (nI i)), (0, .ref (ad 0)), (1, .int (nI low)), (2, .int (nI mid)), (3, .int (nI high))] → W p l e rX_mergeStretches s m args below meth c H locs 0 0 Q (F0 m 96 ls []) := by
          intro N96
          induction N96 with
          | zero => intro i O1 H locs ls hI hN; exact absurd hN (Nat.not_lt_zero _)
          | succ N96 ih96 =>
            intro i O1 H locs ls hI hN96 hP hD hS hl
            obtain ⟨k1, k2, k3, k4⟩ := hI
            refine lv_iload hx hb dX0_mergeStretches_96 (lv_at hl 0 rfl) ?_
            refine lv_iload_n hx hb dX0_mergeStretches_98 rfl (lv_at hl 4 rfl) ?_
            refine lv_icmp_ge (tgt := 126) hx hb dX0_mergeStretches_99 (by decide) (fun c5 => ?_) (fun c5 => ?_)
            · have c5 := zle c5 (by omega) (by omega)
              have ei : i = high := by omega
              rw [ei] at k3 k4
              exact hret ((O1, M1)) _ _ _ _ hP hD hS (⟨mm, L, R, k3, k4, hg⟩) dX0_mergeStretches_126
            · have c5 := znle c5 (by omega) (by omega)
              refine lv_aload_n hx hb dX0_mergeStretches_102 rfl (lv_at hl 1 rfl) ?_
              refine z_get C0 zt_x0 hK hP 0 rfl rfl 4 (by decide) fl_X0_32 rfl dX0_mergeStretches_103 ?_
              refine lv_iload hx hb dX0_mergeStretches_106 (lv_at hl 0 rfl) ?_
              refine lv_aload_n hx hb dX0_mergeStretches_108 rfl (lv_at hl 1 rfl) ?_
              refine z_get C0 zt_x0 hK hP 0 rfl rfl 5 (by decide) fl_X0_35 rfl dX0_mergeStretches_109 ?_
              refine lv_iload hx hb dX0_mergeStretches_112 (lv_at hl 0 rfl) ?_
              refine zx_at C0 hn hK hP hD 4 3 rfl rfl hl.1 (Nat.le_of_ble_eq_true rfl) ⟨by decide, by decide⟩ ⟨Nat.zero_le _, Nat.zero_le _⟩ dX0_mergeStretches_114 ?_
              refine z_eq (show (za n M1 (nI i)) = nI (mm i) from by rw [za_at (by omega) hn, hM i k1 c5]) ?_
              refine zx_put C0 hn hK hP hD hS hA 3 2 rfl rfl hl.1 (Nat.le_of_ble_eq_true rfl) ⟨by decide, by decide⟩ ⟨Nat.zero_le _, Nat.zero_le _⟩ dX0_mergeStretches_117 (fun H locs hP hD hS => ?_)
              have hP : va_P D classes (xw ad cs w n nr K V (zp n O1 (nI i) (nI (mm i))) M1 RL G fed sp se co op ck cv) H := hP
              have hD : va_D A (xw ad cs w n nr K V (zp n O1 (nI i) (nI (mm i))) M1 RL G fed sp se co op ck cv) := hD
              rw [show (zp n O1 (nI i) (nI (mm i))) = upd O1 i (nI (mm i)) from zp_at (by omega) hn] at hP hD
              have hP : va_P D classes (xw ad cs w n nr K V (upd O1 i (nI (mm i))) M1 RL G fed sp se co op ck cv) H := hP
              have hD : va_D A (xw ad cs w n nr K V (upd O1 i (nI (mm i))) M1 RL G fed sp se co op ck cv) := hD
              refine lv_iinc (v := nI (i + 1)) (lv' := [(6, .int (nI (i + 1))), (0, .ref (ad 0)), (1, .int (nI low)), (2, .int (nI mid)), (3, .int (nI high))]) hx hb dX0_mergeStretches_120 hl (k := 0) rfl (show (nI i) + Int32.ofInt (1) = nI (i + 1) from (congrArg ((nI i) + ·) (by decide : Int32.ofInt (1) = 1)).trans (nI_1 i)) (by decide) rfl (fun ls hl => ?_)
              refine lv_goto (tgt := 96) hx hb dX0_mergeStretches_123 (by decide) ?_
              exact ih96 (i + 1) (upd O1 i (nI (mm i))) _ _ _ (⟨by omega, by omega, fun a h1 h2 => by rcases Nat.lt_or_ge a i with q | q; (rw [upd_ne (by omega)]; exact k3 a h1 q); (rw [show a = i by omega, upd_eq]), fun a h => by rw [upd_ne (by omega)]; exact k4 a (by omega)⟩) (by omega) hP hD hS (lv_sub hl [0, 1, 2, 3, 4] rfl)
        exact loop _ low O _ _ _ (⟨Nat.le_refl _, by omega, fun a h1 h2 => by omega, fun a _ => rfl⟩) (Nat.lt_succ_self _) hP hD hS (lv_sub hl [0, 3, 4, 5, 6] (rfl))
      · have c1 := znle c1 (by omega) (by omega)
        refine lv_iload hx hb dX0_mergeStretches_15 (lv_at hl 1 rfl) ?_
        refine lv_iload_n hx hb dX0_mergeStretches_17 rfl (lv_at hl 6 rfl) ?_
        refine lv_icmp_ge (tgt := 42) hx hb dX0_mergeStretches_18 (by decide) (fun c2 => ?_) (fun c2 => ?_)
        · have c2 := zle c2 (by omega) (by omega)
          have hL : L < mid := by omega
          have hc : R = high ∨ (R < high ∧ px_lt (kz K) (o L) (o R)) := Or.inl (by omega)
          refine lv_aload_n hx hb dX0_mergeStretches_42 rfl (lv_at hl 3 rfl) ?_
          refine z_get C0 zt_x0 hK hP 0 rfl rfl 5 (by decide) fl_X0_35 rfl dX0_mergeStretches_43 ?_
          refine lv_iload hx hb dX0_mergeStretches_46 (lv_at hl 0 rfl) ?_
          refine lv_aload_n hx hb dX0_mergeStretches_48 rfl (lv_at hl 3 rfl) ?_
          refine z_get C0 zt_x0 hK hP 0 rfl rfl 4 (by decide) fl_X0_32 rfl dX0_mergeStretches_49 ?_
          refine lv_iload hx hb dX0_mergeStretches_52 (lv_at hl 2 rfl) ?_
          refine zx_at C0 hn hK hP hD 3 2 rfl rfl hl.1 (Nat.le_of_ble_eq_true rfl) ⟨by decide, by decide⟩ ⟨Nat.zero_le _, Nat.zero_le _⟩ dX0_mergeStretches_54 ?_
          refine z_eq (show (za n O (nI L)) = nI (o L) from by rw [za_at (by omega) hn, (hO L (by omega) (by omega)).1]) ?_
          refine zx_put C0 hn hK hP hD hS hA 4 3 rfl rfl hl.1 (Nat.le_of_ble_eq_true rfl) ⟨by decide, by decide⟩ ⟨Nat.zero_le _, Nat.zero_le _⟩ dX0_mergeStretches_57 (fun H locs hP hD hS => ?_)
          have hP : va_P D classes (xw ad cs w n nr K V O (zp n M1 (nI T) (nI (o L))) RL G fed sp se co op ck cv) H := hP
          have hD : va_D A (xw ad cs w n nr K V O (zp n M1 (nI T) (nI (o L))) RL G fed sp se co op ck cv) := hD
          rw [show (zp n M1 (nI T) (nI (o L))) = upd M1 T (nI (o L)) from zp_at (by omega) hn] at hP hD
          have hP : va_P D classes (xw ad cs w n nr K V O (upd M1 T (nI (o L))) RL G fed sp se co op ck cv) H := hP
          have hD : va_D A (xw ad cs w n nr K V O (upd M1 T (nI (o L))) RL G fed sp se co op ck cv) := hD
          refine lv_iinc (v := nI (L + 1)) (lv' := [(4, .int (nI (L + 1))), (6, .int (nI T)), (5, .int (nI R)), (0, .ref (ad 0)), (1, .int (nI low)), (2, .int (nI mid)), (3, .int (nI high))]) hx hb dX0_mergeStretches_60 hl (k := 2) rfl (show (nI L) + Int32.ofInt (1) = nI (L + 1) from (congrArg ((nI L) + ·) (by decide : Int32.ofInt (1) = 1)).trans (nI_1 L)) (by decide) rfl (fun ls hl => ?_)
          refine lv_goto (tgt := 87) hx hb dX0_mergeStretches_63 (by decide) ?_
          refine lv_iinc (v := nI (T + 1)) (lv' := [(6, .int (nI (T + 1))), (4, .int (nI (L + 1))), (5, .int (nI R)), (0, .ref (ad 0)), (1, .int (nI low)), (2, .int (nI mid)), (3, .int (nI high))]) hx hb dX0_mergeStretches_87 hl (k := 1) rfl (show (nI T) + Int32.ofInt (1) = nI (T + 1) from (congrArg ((nI T) + ·) (by decide : Int32.ofInt (1) = 1)).trans (nI_1 T)) (by decide) rfl (fun ls hl => ?_)
          refine lv_goto (tgt := 9) hx hb dX0_mergeStretches_90 (by decide) ?_
          exact ih9 (L + 1) R (T + 1) (px_up mm T (o L)) (upd M1 T (nI (o L))) _ _ _ (⟨px_mg_l hg hs1 hs2 hL hc, by omega, fun a h1 h2 => by rcases Nat.lt_or_ge a T with q | q; (rw [upd_ne (by omega), px_up_ne (by omega)]; exact hM a h1 q); (rw [show a = T by omega, upd_eq, px_up_eq])⟩) (by omega) hP hD hS (lv_sub hl [0, 2, 1, 3, 4, 5, 6] rfl)
        · have c2 := znle c2 (by omega) (by omega)
          have hR : R < high := c2
          refine lv_iload hx hb dX0_mergeStretches_21 (lv_at hl 2 rfl) ?_
          refine lv_iload_n hx hb dX0_mergeStretches_23 rfl (lv_at hl 5 rfl) ?_
          refine lv_icmp_ge (tgt := 66) hx hb dX0_mergeStretches_24 (by decide) (fun c3 => ?_) (fun c3 => ?_)
          · have c3 := zle c3 (by omega) (by omega)
            have hc : L = mid ∨ (L < mid ∧ px_lt (kz K) (o R) (o L)) := Or.inl (by omega)
            refine lv_aload_n hx hb dX0_mergeStretches_66 rfl (lv_at hl 3 rfl) ?_
            refine z_get C0 zt_x0 hK hP 0 rfl rfl 5 (by decide) fl_X0_35 rfl dX0_mergeStretches_67 ?_
            refine lv_iload hx hb dX0_mergeStretches_70 (lv_at hl 0 rfl) ?_
            refine lv_aload_n hx hb dX0_mergeStretches_72 rfl (lv_at hl 3 rfl) ?_
            refine z_get C0 zt_x0 hK hP 0 rfl rfl 4 (by decide) fl_X0_32 rfl dX0_mergeStretches_73 ?_
            refine lv_iload hx hb dX0_mergeStretches_76 (lv_at hl 1 rfl) ?_
            refine zx_at C0 hn hK hP hD 3 2 rfl rfl hl.1 (Nat.le_of_ble_eq_true rfl) ⟨by decide, by decide⟩ ⟨Nat.zero_le _, Nat.zero_le _⟩ dX0_mergeStretches_78 ?_
            refine z_eq (show (za n O (nI R)) = nI (o R) from by rw [za_at (by omega) hn, (hO R (by omega) (by omega)).1]) ?_
            refine zx_put C0 hn hK hP hD hS hA 4 3 rfl rfl hl.1 (Nat.le_of_ble_eq_true rfl) ⟨by decide, by decide⟩ ⟨Nat.zero_le _, Nat.zero_le _⟩ dX0_mergeStretches_81 (fun H locs hP hD hS => ?_)
            have hP : va_P D classes (xw ad cs w n nr K V O (zp n M1 (nI T) (nI (o R))) RL G fed sp se co op ck cv) H := hP
            have hD : va_D A (xw ad cs w n nr K V O (zp n M1 (nI T) (nI (o R))) RL G fed sp se co op ck cv) := hD
            rw [show (zp n M1 (nI T) (nI (o R))) = upd M1 T (nI (o R)) from zp_at (by omega) hn] at hP hD
            have hP : va_P D classes (xw ad cs w n nr K V O (upd M1 T (nI (o R))) RL G fed sp se co op ck cv) H := hP
            have hD : va_D A (xw ad cs w n nr K V O (upd M1 T (nI (o R))) RL G fed sp se co op ck cv) := hD
            refine lv_iinc (v := nI (R + 1)) (lv' := [(5, .int (nI (R + 1))), (6, .int (nI T)), (4, .int (nI L)), (0, .ref (ad 0)), (1, .int (nI low)), (2, .int (nI mid)), (3, .int (nI high))]) hx hb dX0_mergeStretches_84 hl (k := 1) rfl (show (nI R) + Int32.ofInt (1) = nI (R + 1) from (congrArg ((nI R) + ·) (by decide : Int32.ofInt (1) = 1)).trans (nI_1 R)) (by decide) rfl (fun ls hl => ?_)
            refine lv_iinc (v := nI (T + 1)) (lv' := [(6, .int (nI (T + 1))), (5, .int (nI (R + 1))), (4, .int (nI L)), (0, .ref (ad 0)), (1, .int (nI low)), (2, .int (nI mid)), (3, .int (nI high))]) hx hb dX0_mergeStretches_87 hl (k := 1) rfl (show (nI T) + Int32.ofInt (1) = nI (T + 1) from (congrArg ((nI T) + ·) (by decide : Int32.ofInt (1) = 1)).trans (nI_1 T)) (by decide) rfl (fun ls hl => ?_)
            refine lv_goto (tgt := 9) hx hb dX0_mergeStretches_90 (by decide) ?_
            exact ih9 L (R + 1) (T + 1) (px_up mm T (o R)) (upd M1 T (nI (o R))) _ _ _ (⟨px_mg_r hg hs1 hs2 hR hc, by omega, fun a h1 h2 => by rcases Nat.lt_or_ge a T with q | q; (rw [upd_ne (by omega), px_up_ne (by omega)]; exact hM a h1 q); (rw [show a = T by omega, upd_eq, px_up_eq])⟩) (by omega) hP hD hS (lv_sub hl [0, 1, 2, 3, 4, 5, 6] rfl)
          · have c3 := znle c3 (by omega) (by omega)
            have hL : L < mid := c3
            refine lv_aload_n hx hb dX0_mergeStretches_27 rfl (lv_at hl 3 rfl) ?_
            refine lv_iload hx hb dX0_mergeStretches_28 (lv_at hl 2 rfl) ?_
            refine zr_callV (As := [.int (nI L)]) (rest := []) (q0 := 0) (ci := 0) C0 (c_keyOfRow l D ad cs w n nr hn hnr K V O M1 RL G fed sp se co op ck cv (nI L)) zv_X0_X0_keyOfRow ⟨by decide, by decide⟩ ⟨rfl, rfl⟩ rfl hK hP hD rfl rfl rfl hl.1 rfl (Nat.le_of_ble_eq_true rfl) dX0_mergeStretches_30 ⟨Nat.zero_le _, Nat.zero_le _⟩ (fun r1 er1 => ?_)
            subst er1
            refine z_eq (show (za n K (za n O (nI L))) = K (o L) from by rw [za_at (by omega) hn, (hO L (by omega) (by omega)).1, za_at (hO L (by omega) (by omega)).2 hn]) ?_
            refine lv_aload_n hx hb dX0_mergeStretches_33 rfl (lv_at hl 3 rfl) ?_
            refine lv_iload hx hb dX0_mergeStretches_34 (lv_at hl 1 rfl) ?_
            refine zr_callV (As := [.int (nI R)]) (rest := [.int (K (o L))]) (q0 := 0) (ci := 0) C0 (c_keyOfRow l D ad cs w n nr hn hnr K V O M1 RL G fed sp se co op ck cv (nI R)) zv_X0_X0_keyOfRow ⟨by decide, by decide⟩ ⟨rfl, rfl⟩ rfl hK hP hD rfl rfl rfl hl.1 rfl (Nat.le_of_ble_eq_true rfl) dX0_mergeStretches_36 ⟨Nat.zero_le _, Nat.zero_le _⟩ (fun r2 er2 => ?_)
            subst er2
            refine z_eq (show (za n K (za n O (nI R))) = K (o R) from by rw [za_at (by omega) hn, (hO R (by omega) (by omega)).1, za_at (hO R (by omega) (by omega)).2 hn]) ?_
            refine lv_icmp_gt (tgt := 66) hx hb dX0_mergeStretches_39 (by decide) (fun c4 => ?_) (fun c4 => ?_)
            · have hc : L = mid ∨ (L < mid ∧ px_lt (kz K) (o R) (o L)) := Or.inr ⟨hL, Or.inl (kz_lt c4)⟩
              refine lv_aload_n hx hb dX0_mergeStretches_66 rfl (lv_at hl 3 rfl) ?_
              refine z_get C0 zt_x0 hK hP 0 rfl rfl 5 (by decide) fl_X0_35 rfl dX0_mergeStretches_67 ?_
              refine lv_iload hx hb dX0_mergeStretches_70 (lv_at hl 0 rfl) ?_
              refine lv_aload_n hx hb dX0_mergeStretches_72 rfl (lv_at hl 3 rfl) ?_
              refine z_get C0 zt_x0 hK hP 0 rfl rfl 4 (by decide) fl_X0_32 rfl dX0_mergeStretches_73 ?_
              refine lv_iload hx hb dX0_mergeStretches_76 (lv_at hl 1 rfl) ?_
              refine zx_at C0 hn hK hP hD 3 2 rfl rfl hl.1 (Nat.le_of_ble_eq_true rfl) ⟨by decide, by decide⟩ ⟨Nat.zero_le _, Nat.zero_le _⟩ dX0_mergeStretches_78 ?_
              refine z_eq (show (za n O (nI R)) = nI (o R) from by rw [za_at (by omega) hn, (hO R (by omega) (by omega)).1]) ?_
              refine zx_put C0 hn hK hP hD hS hA 4 3 rfl rfl hl.1 (Nat.le_of_ble_eq_true rfl) ⟨by decide, by decide⟩ ⟨Nat.zero_le _, Nat.zero_le _⟩ dX0_mergeStretches_81 (fun H locs hP hD hS => ?_)
              have hP : va_P D classes (xw ad cs w n nr K V O (zp n M1 (nI T) (nI (o R))) RL G fed sp se co op ck cv) H := hP
              have hD : va_D A (xw ad cs w n nr K V O (zp n M1 (nI T) (nI (o R))) RL G fed sp se co op ck cv) := hD
              rw [show (zp n M1 (nI T) (nI (o R))) = upd M1 T (nI (o R)) from zp_at (by omega) hn] at hP hD
              have hP : va_P D classes (xw ad cs w n nr K V O (upd M1 T (nI (o R))) RL G fed sp se co op ck cv) H := hP
              have hD : va_D A (xw ad cs w n nr K V O (upd M1 T (nI (o R))) RL G fed sp se co op ck cv) := hD
              refine lv_iinc (v := nI (R + 1)) (lv' := [(5, .int (nI (R + 1))), (6, .int (nI T)), (4, .int (nI L)), (0, .ref (ad 0)), (1, .int (nI low)), (2, .int (nI mid)), (3, .int (nI high))]) hx hb dX0_mergeStretches_84 hl (k := 1) rfl (show (nI R) + Int32.ofInt (1) = nI (R + 1) from (congrArg ((nI R) + ·) (by decide : Int32.ofInt (1) = 1)).trans (nI_1 R)) (by decide) rfl (fun ls hl => ?_)
              refine lv_iinc (v := nI (T + 1)) (lv' := [(6, .int (nI (T + 1))), (5, .int (nI (R + 1))), (4, .int (nI L)), (0, .ref (ad 0)), (1, .int (nI low)), (2, .int (nI mid)), (3, .int (nI high))]) hx hb dX0_mergeStretches_87 hl (k := 1) rfl (show (nI T) + Int32.ofInt (1) = nI (T + 1) from (congrArg ((nI T) + ·) (by decide : Int32.ofInt (1) = 1)).trans (nI_1 T)) (by decide) rfl (fun ls hl => ?_)
              refine lv_goto (tgt := 9) hx hb dX0_mergeStretches_90 (by decide) ?_
              exact ih9 L (R + 1) (T + 1) (px_up mm T (o R)) (upd M1 T (nI (o R))) _ _ _ (⟨px_mg_r hg hs1 hs2 hR hc, by omega, fun a h1 h2 => by rcases Nat.lt_or_ge a T with q | q; (rw [upd_ne (by omega), px_up_ne (by omega)]; exact hM a h1 q); (rw [show a = T by omega, upd_eq, px_up_eq])⟩) (by omega) hP hD hS (lv_sub hl [0, 1, 2, 3, 4, 5, 6] rfl)
            · have hc : R = high ∨ (R < high ∧ px_lt (kz K) (o L) (o R)) := by
                have z1 := kz_nlt c4
                have z2 := hlr L R g1 hL g3 hR
                exact Or.inr ⟨hR, by unfold px_lt; omega⟩
              refine lv_aload_n hx hb dX0_mergeStretches_42 rfl (lv_at hl 3 rfl) ?_
              refine z_get C0 zt_x0 hK hP 0 rfl rfl 5 (by decide) fl_X0_35 rfl dX0_mergeStretches_43 ?_
              refine lv_iload hx hb dX0_mergeStretches_46 (lv_at hl 0 rfl) ?_
              refine lv_aload_n hx hb dX0_mergeStretches_48 rfl (lv_at hl 3 rfl) ?_
              refine z_get C0 zt_x0 hK hP 0 rfl rfl 4 (by decide) fl_X0_32 rfl dX0_mergeStretches_49 ?_
              refine lv_iload hx hb dX0_mergeStretches_52 (lv_at hl 2 rfl) ?_
              refine zx_at C0 hn hK hP hD 3 2 rfl rfl hl.1 (Nat.le_of_ble_eq_true rfl) ⟨by decide, by decide⟩ ⟨Nat.zero_le _, Nat.zero_le _⟩ dX0_mergeStretches_54 ?_
              refine z_eq (show (za n O (nI L)) = nI (o L) from by rw [za_at (by omega) hn, (hO L (by omega) (by omega)).1]) ?_
              refine zx_put C0 hn hK hP hD hS hA 4 3 rfl rfl hl.1 (Nat.le_of_ble_eq_true rfl) ⟨by decide, by decide⟩ ⟨Nat.zero_le _, Nat.zero_le _⟩ dX0_mergeStretches_57 (fun H locs hP hD hS => ?_)
              have hP : va_P D classes (xw ad cs w n nr K V O (zp n M1 (nI T) (nI (o L))) RL G fed sp se co op ck cv) H := hP
              have hD : va_D A (xw ad cs w n nr K V O (zp n M1 (nI T) (nI (o L))) RL G fed sp se co op ck cv) := hD
              rw [show (zp n M1 (nI T) (nI (o L))) = upd M1 T (nI (o L)) from zp_at (by omega) hn] at hP hD
              have hP : va_P D classes (xw ad cs w n nr K V O (upd M1 T (nI (o L))) RL G fed sp se co op ck cv) H := hP
              have hD : va_D A (xw ad cs w n nr K V O (upd M1 T (nI (o L))) RL G fed sp se co op ck cv) := hD
              refine lv_iinc (v := nI (L + 1)) (lv' := [(4, .int (nI (L + 1))), (6, .int (nI T)), (5, .int (nI R)), (0, .ref (ad 0)), (1, .int (nI low)), (2, .int (nI mid)), (3, .int (nI high))]) hx hb dX0_mergeStretches_60 hl (k := 2) rfl (show (nI L) + Int32.ofInt (1) = nI (L + 1) from (congrArg ((nI L) + ·) (by decide : Int32.ofInt (1) = 1)).trans (nI_1 L)) (by decide) rfl (fun ls hl => ?_)
              refine lv_goto (tgt := 87) hx hb dX0_mergeStretches_63 (by decide) ?_
              refine lv_iinc (v := nI (T + 1)) (lv' := [(6, .int (nI (T + 1))), (4, .int (nI (L + 1))), (5, .int (nI R)), (0, .ref (ad 0)), (1, .int (nI low)), (2, .int (nI mid)), (3, .int (nI high))]) hx hb dX0_mergeStretches_87 hl (k := 1) rfl (show (nI T) + Int32.ofInt (1) = nI (T + 1) from (congrArg ((nI T) + ·) (by decide : Int32.ofInt (1) = 1)).trans (nI_1 T)) (by decide) rfl (fun ls hl => ?_)
              refine lv_goto (tgt := 9) hx hb dX0_mergeStretches_90 (by decide) ?_
              exact ih9 (L + 1) R (T + 1) (px_up mm T (o L)) (upd M1 T (nI (o L))) _ _ _ (⟨px_mg_l hg hs1 hs2 hL hc, by omega, fun a h1 h2 => by rcases Nat.lt_or_ge a T with q | q; (rw [upd_ne (by omega), px_up_ne (by omega)]; exact hM a h1 q); (rw [show a = T by omega, upd_eq, px_up_eq])⟩) (by omega) hP hD hS (lv_sub hl [0, 2, 1, 3, 4, 5, 6] rfl)
  exact loop _ low mid low (fun a => a) M _ _ _ (⟨px_mg_0 hlm hmh, by omega, fun a h1 h2 => by omega⟩) (Nat.lt_succ_self _) hP hD hS (lv_sub hl [0, 1, 2, 3, 4, 5, 6] (rfl))
abbrev rX_mergeNeighbours : Room := { frames := 3, cells := 0, slots := 0, locals := 68 }
set_option maxHeartbeats 4000000 in
set_option maxRecDepth 100000 in
theorem c_mergeNeighbours (l : Launch) (D : va_G) (ad : Nat → Nat) (cs : Nat → ClassId) (w n nr : Nat) (hn : n < 2 ^ 31) (hnr : nr < 2 ^ 31) (K V O M RL G : Nat → Int32) (sp se co op ck cv : Int32) (wd f : Nat) (hf : f ≤ n) (hn2 : n < 2 ^ 29) (hwd : 0 < wd) (hwf : wd < f) (hX : xM K O wd f) : ZV (S := ((Nat → Int32) × (Nat → Int32))) l yX0_mergeNeighbours cX0_mergeNeighbours 3 rX_mergeNeighbours D classes (xt cs) [.ref (ad 0), .int (nI wd)] (xw ad cs w n nr K V O M RL G (nI f) sp se co op ck cv) (fun u => xM K u.1 (2 * wd) f) (fun u => xw ad cs w n nr K V u.1 u.2 RL G (nI f) sp se co op ck cv) := by
  refine ZV.of (by decide +kernel) (Nat.le_of_ble_eq_true rfl) ?_
  intro p e s m args below meth c A Q ls C0 hname hK hP hD hS hA hl hret
  have hx := C0.1
  have hb := C0.2.1
  have hl : lv_has ls 3 [(0, .ref (ad 0)), (1, .int (nI wd))] := hl
  refine lv_iconst (v := 0) hx hb dX0_mergeNeighbours_0 (by decide) ?_
  refine lv_istore_n (lv' := [(2, .int 0), (0, .ref (ad 0)), (1, .int (nI wd))]) hx hb dX0_mergeNeighbours_1 rfl hl (by decide) rfl (fun ls hl => ?_)
  have loop : ∀ (NN : Nat) (i : Nat) (O1 M1 : Nat → Int32) (H : Heap) (locs : List Loc) (ls : Array Slot), (i * (2 * wd) ≤ f + wd ∧ ∃ o : Nat → Nat, (∀ a, a < f → O1 a = nI (o a)) ∧ px_blk (kz K) o (2 * wd) f 0 (i * (2 * wd)) ∧ px_blk (kz K) o wd f (i * (2 * wd)) f) → f + 1 - i < NN → va_P D classes (xw ad cs w n nr K V O1 M1 RL G (nI f) sp se co op ck cv) H → va_D A (xw ad cs w n nr K V O1 M1 RL G (nI f) sp se co op ck cv) → va_S A s.heap H locs → lv_has ls 3 [(2, .int (nI (i * (2 * wd)))), (0, .ref (ad 0)), (1, .int (nI wd))] → W p l e rX_mergeNeighbours s m args below meth c H locs 0 0 Q (F0 m 2 ls []) := by
    intro N2
    induction N2 with
    | zero => intro i O1 M1 H locs ls hI hN; exact absurd hN (Nat.not_lt_zero _)
    | succ N2 ih2 =>
      intro i O1 M1 H locs ls hI hN2 hP hD hS hl
      obtain ⟨hi, o, i1, i2, i3⟩ := hI
      refine lv_iload_n hx hb dX0_mergeNeighbours_2 rfl (lv_at hl 0 rfl) ?_
      refine lv_iload_n hx hb dX0_mergeNeighbours_3 rfl (lv_at hl 2 rfl) ?_
      refine lv_iadd hx hb dX0_mergeNeighbours_4 ?_
      refine z_eq (show ((nI (i * (2 * wd))) + (nI wd)) = nI (i * (2 * wd) + wd) from nI_add _ _) ?_
      refine lv_aload_n hx hb dX0_mergeNeighbours_5 rfl (lv_at hl 1 rfl) ?_
      refine z_get C0 zt_x0 hK hP 0 rfl rfl 7 (by decide) fl_X0_44 rfl dX0_mergeNeighbours_6 ?_
      refine lv_icmp_ge (tgt := 41) hx hb dX0_mergeNeighbours_9 (by decide) (fun c1 => ?_) (fun c1 => ?_)
      · have c1 := zle c1 (by omega) (by omega)
        exact hret ((O1, M1)) _ _ _ _ hP hD hS (⟨o, i1, px_blk_end c1 i2 i3⟩) dX0_mergeNeighbours_41
      · have c1 := znle c1 (by omega) (by omega)
        refine lv_aload_n hx hb dX0_mergeNeighbours_12 rfl (lv_at hl 1 rfl) ?_
        refine lv_iload_n hx hb dX0_mergeNeighbours_13 rfl (lv_at hl 0 rfl) ?_
        refine lv_iload_n hx hb dX0_mergeNeighbours_14 rfl (lv_at hl 0 rfl) ?_
        refine lv_iload_n hx hb dX0_mergeNeighbours_15 rfl (lv_at hl 2 rfl) ?_
        refine lv_iadd hx hb dX0_mergeNeighbours_16 ?_
        refine z_eq (show ((nI (i * (2 * wd))) + (nI wd)) = nI (i * (2 * wd) + wd) from nI_add _ _) ?_
        refine lv_iload_n hx hb dX0_mergeNeighbours_17 rfl (lv_at hl 0 rfl) ?_
        refine lv_iload_n hx hb dX0_mergeNeighbours_18 rfl (lv_at hl 2 rfl) ?_
        refine lv_iadd hx hb dX0_mergeNeighbours_19 ?_
        refine z_eq (show ((nI (i * (2 * wd))) + (nI wd)) = nI (i * (2 * wd) + wd) from nI_add _ _) ?_
        refine lv_iload_n hx hb dX0_mergeNeighbours_20 rfl (lv_at hl 2 rfl) ?_
        refine lv_iadd hx hb dX0_mergeNeighbours_21 ?_
        refine z_eq (show ((nI (i * (2 * wd) + wd)) + (nI wd)) = nI (i * (2 * wd) + wd + wd) from nI_add _ _) ?_
        refine lv_aload_n hx hb dX0_mergeNeighbours_22 rfl (lv_at hl 1 rfl) ?_
        refine z_get C0 zt_x0 hK hP 0 rfl rfl 7 (by decide) fl_X0_44 rfl dX0_mergeNeighbours_23 ?_
        refine z_min C0 zm_min hl.1 ⟨by decide, Nat.le_of_ble_eq_true rfl⟩ ⟨Nat.zero_le _, Nat.zero_le _⟩ dX0_mergeNeighbours_26 ?_
        refine z_eq (show (if (nI f) < (nI (i * (2 * wd) + wd + wd)) then (nI f) else (nI (i * (2 * wd) + wd + wd))) = nI (min (i * (2 * wd) + 2 * wd) f) from zmin_n (by omega) (by omega) (by omega)) ?_
        have e1 : 2 * i * wd = i * (2 * wd) := by rw [Nat.mul_comm 2 i, Nat.mul_assoc]
        have e2 : (2 * i + 1) * wd = i * (2 * wd) + wd := by rw [Nat.succ_mul, e1]
        obtain ⟨b1, b2⟩ := i3 (2 * i) (by rw [e1]; omega) (by rw [e1]; omega)
        obtain ⟨b3, b4⟩ := i3 (2 * i + 1) (by rw [e2]; omega) (by rw [e2]; omega)
        rw [e1] at b1 b2
        rw [e2] at b3 b4
        have m1 : min (i * (2 * wd) + wd) f = i * (2 * wd) + wd := by omega
        have m2 : min (i * (2 * wd) + wd + wd) f = min (i * (2 * wd) + 2 * wd) f := by omega
        rw [m1] at b1 b2
        rw [m2] at b3 b4
        refine zv_callV0 (As := [.int (nI (i * (2 * wd))), .int (nI (i * (2 * wd) + wd)), .int (nI (min (i * (2 * wd) + 2 * wd) f))]) (rest := []) (q0 := 0) (ci := 0) C0 (c_mergeStretches l D ad cs w n nr hn hnr K V O1 M1 RL G (nI f) sp se co op ck cv (i * (2 * wd)) (i * (2 * wd) + wd) (min (i * (2 * wd) + 2 * wd) f) o (by omega) (by omega) (by omega) (fun a h1 h2 => ⟨i1 a (by omega), by rcases Nat.lt_or_ge a (i * (2 * wd) + wd) with q | q; (have := (b2.rng h1 (by omega)).2; omega); (have := (b4.rng q (by omega)).2; omega)⟩) b1 b3 (fun a b h1 h2 h3 h4 => by have z1 := (b2.rng h1 (by omega)).2; have z2 := (b4.rng h3 (by omega)).1; omega)) zv_X0_X0_mergeStretches ⟨by decide, by decide⟩ ⟨rfl, rfl⟩ rfl hK hP hD hS hA rfl rfl rfl hl.1 rfl (Nat.le_of_ble_eq_true rfl) dX0_mergeNeighbours_29 ⟨Nat.zero_le _, Nat.zero_le _⟩ (fun u1 H locs hj hP hD hS => ?_)
        obtain ⟨mm, L, R, j1, j2, j3⟩ := hj
        obtain ⟨s1, s2⟩ := px_mg_end j3 b2 b4
        have hbk := px_blk_step (o' := fun a => if a < i * (2 * wd) ∨ min (i * (2 * wd) + 2 * wd) f ≤ a then o a else mm a) c1 i2 i3 (fun a h => if_pos h) (s1.cg (fun a q1 q2 => if_neg (by omega)) (fun _ _ _ => rfl)) (s2.cg (fun a q1 q2 => if_neg (by omega)))
        have hP : va_P D classes (xw ad cs w n nr K V u1.1 u1.2 RL G (nI f) sp se co op ck cv) H := hP
        have hD : va_D A (xw ad cs w n nr K V u1.1 u1.2 RL G (nI f) sp se co op ck cv) := hD
        refine lv_iload_n hx hb dX0_mergeNeighbours_32 rfl (lv_at hl 0 rfl) ?_
        refine lv_iload_n hx hb dX0_mergeNeighbours_33 rfl (lv_at hl 2 rfl) ?_
        refine lv_iload_n hx hb dX0_mergeNeighbours_34 rfl (lv_at hl 2 rfl) ?_
        refine lv_iadd hx hb dX0_mergeNeighbours_35 ?_
        refine z_eq (show ((nI wd) + (nI wd)) = nI (wd + wd) from nI_add _ _) ?_
        refine lv_iadd hx hb dX0_mergeNeighbours_36 ?_
        refine z_eq (show ((nI (i * (2 * wd))) + (nI (wd + wd))) = nI ((i + 1) * (2 * wd)) from by rw [nI_add, Nat.succ_mul i (2 * wd), show wd + wd = 2 * wd by omega]) ?_
        refine lv_istore_n (lv' := [(2, .int (nI ((i + 1) * (2 * wd)))), (0, .ref (ad 0)), (1, .int (nI wd))]) hx hb dX0_mergeNeighbours_37 rfl hl (by decide) rfl (fun ls hl => ?_)
        refine lv_goto (tgt := 2) hx hb dX0_mergeNeighbours_38 (by decide) ?_
        exact ih2 (i + 1) u1.1 u1.2 _ _ _ (⟨by rw [Nat.succ_mul]; omega, fun a => if a < i * (2 * wd) ∨ min (i * (2 * wd) + 2 * wd) f ≤ a then o a else mm a, fun a ha => by by_cases q : a < i * (2 * wd) ∨ min (i * (2 * wd) + 2 * wd) f ≤ a; (simp only [if_pos q]; rw [j2 a (by omega)]; exact i1 a ha); (simp only [if_neg q]; exact j1 a (by omega) (by omega)), hbk.1, hbk.2⟩) (by have : i ≤ i * (2 * wd) := Nat.le_mul_of_pos_right i (by omega); omega) hP hD hS (lv_sub hl [0, 1, 2] rfl)
  exact loop _ 0 O M _ _ _ (by obtain ⟨o, q1, q2⟩ := hX; rw [Nat.zero_mul]; exact ⟨by omega, o, q1, fun j _ h => by omega, fun j _ h => q2 j (Nat.zero_le _) h⟩) (Nat.lt_succ_self _) hP hD hS (lv_sub hl [0, 1, 2] (by rw [Nat.zero_mul]; rfl))
abbrev rX_mergeRuns : Room := { frames := 4, cells := 0, slots := 0, locals := 90 }
set_option maxHeartbeats 4000000 in
set_option maxRecDepth 100000 in
theorem c_mergeRuns (l : Launch) (D : va_G) (ad : Nat → Nat) (cs : Nat → ClassId) (w n nr : Nat) (hn : n < 2 ^ 31) (hnr : nr < 2 ^ 31) (K V O M RL G : Nat → Int32) (sp se co op ck cv : Int32) (f : Nat) (hf : f ≤ n) (hn2 : n < 2 ^ 29) (hw0 : 0 < w) (hw1 : w < 2 ^ 29) (hcap : f ≤ w * 2048) (hX : xM K O w f) : ZV (S := ((Nat → Int32) × (Nat → Int32))) l yX0_mergeRuns cX0_mergeRuns 3 rX_mergeRuns D classes (xt cs) [.ref (ad 0)] (xw ad cs w n nr K V O M RL G (nI f) sp se co op ck cv) (fun u => ∃ o, xF K u.1 f o) (fun u => xw ad cs w n nr K V u.1 u.2 RL G (nI f) sp se co op ck cv) := by
  refine ZV.of (by decide +kernel) (Nat.le_of_ble_eq_true rfl) ?_
  intro p e s m args below meth c A Q ls C0 hname hK hP hD hS hA hl hret
  have hx := C0.1
  have hb := C0.2.1
  have hl : lv_has ls 3 [(0, .ref (ad 0))] := hl
  refine lv_aload_n hx hb dX0_mergeRuns_0 rfl (lv_at hl 0 rfl) ?_
  refine z_get C0 zt_x0 hK hP 0 rfl rfl 0 (by decide) fl_X0_18 rfl dX0_mergeRuns_1 ?_
  refine lv_istore_n (lv' := [(1, .int (nI w)), (0, .ref (ad 0))]) hx hb dX0_mergeRuns_4 rfl hl (by decide) rfl (fun ls hl => ?_)
  refine lv_iconst (v := 0) hx hb dX0_mergeRuns_5 (by decide) ?_
  refine lv_istore_n (lv' := [(2, .int 0), (1, .int (nI w)), (0, .ref (ad 0))]) hx hb dX0_mergeRuns_6 rfl hl (by decide) rfl (fun ls hl => ?_)
  have loop : ∀ (NN : Nat) (pass wd : Nat) (O1 M1 : Nat → Int32) (H : Heap) (locs : List Loc) (ls : Array Slot), (wd = w * 2 ^ pass ∧ pass ≤ 11 ∧ wd < 2 ^ 30 ∧ xM K O1 wd f) → 11 - pass < NN → va_P D classes (xw ad cs w n nr K V O1 M1 RL G (nI f) sp se co op ck cv) H → va_D A (xw ad cs w n nr K V O1 M1 RL G (nI f) sp se co op ck cv) → va_S A s.heap H locs → lv_has ls 3 [(2, .int (nI pass)), (1, .int (nI wd)), (0, .ref (ad 0))] → W p l e rX_mergeRuns s m args below meth c H locs 0 0 Q (F0 m 7 ls []) := by
    intro N7
    induction N7 with
    | zero => intro pass wd O1 M1 H locs ls hI hN; exact absurd hN (Nat.not_lt_zero _)
    | succ N7 ih7 =>
      intro pass wd O1 M1 H locs ls hI hN7 hP hD hS hl
      obtain ⟨i1, i2, i3, i4⟩ := hI
      have hwd : 0 < wd := by rw [i1]; exact Nat.mul_pos hw0 (Nat.pow_pos (by decide))
      refine lv_iload_n hx hb dX0_mergeRuns_7 rfl (lv_at hl 0 rfl) ?_
      refine lv_bipush (v := 11) hx hb dX0_mergeRuns_8 (by decide) ?_
      refine lv_icmp_ge (tgt := 36) hx hb dX0_mergeRuns_10 (by decide) (fun c1 => ?_) (fun c1 => ?_)
      · have c1 := zle (a := 11) c1 (by omega) (by omega)
        have ep : pass = 11 := by omega
        have hfw : f ≤ wd := by rw [i1, ep]; exact hcap
        exact hret ((O1, M1)) _ _ _ _ hP hD hS (by obtain ⟨o, q1, q2⟩ := i4; obtain ⟨q3, q4⟩ := px_blk_all q2 hfw; exact ⟨o, q1, q3, q4⟩) dX0_mergeRuns_36
      · have c1 := znle (a := 11) c1 (by omega) (by omega)
        refine lv_iload_n hx hb dX0_mergeRuns_13 rfl (lv_at hl 1 rfl) ?_
        refine lv_aload_n hx hb dX0_mergeRuns_14 rfl (lv_at hl 2 rfl) ?_
        refine z_get C0 zt_x0 hK hP 0 rfl rfl 7 (by decide) fl_X0_44 rfl dX0_mergeRuns_15 ?_
        refine lv_icmp_ge (tgt := 36) hx hb dX0_mergeRuns_18 (by decide) (fun c2 => ?_) (fun c2 => ?_)
        · have c2 := zle c2 (by omega) (by omega)
          have hfw : f ≤ wd := c2
          exact hret ((O1, M1)) _ _ _ _ hP hD hS (by obtain ⟨o, q1, q2⟩ := i4; obtain ⟨q3, q4⟩ := px_blk_all q2 hfw; exact ⟨o, q1, q3, q4⟩) dX0_mergeRuns_36
        · have c2 := znle c2 (by omega) (by omega)
          refine lv_aload_n hx hb dX0_mergeRuns_21 rfl (lv_at hl 2 rfl) ?_
          refine lv_iload_n hx hb dX0_mergeRuns_22 rfl (lv_at hl 1 rfl) ?_
          refine zv_callV0 (As := [.int (nI wd)]) (rest := []) (q0 := 0) (ci := 0) C0 (c_mergeNeighbours l D ad cs w n nr hn hnr K V O1 M1 RL G sp se co op ck cv wd f hf hn2 hwd c2 i4) zv_X0_X0_mergeNeighbours ⟨by decide, by decide⟩ ⟨rfl, rfl⟩ rfl hK hP hD hS hA rfl rfl rfl hl.1 rfl (Nat.le_of_ble_eq_true rfl) dX0_mergeRuns_23 ⟨Nat.zero_le _, Nat.zero_le _⟩ (fun u1 H locs hj hP hD hS => ?_)
          have hP : va_P D classes (xw ad cs w n nr K V u1.1 u1.2 RL G (nI f) sp se co op ck cv) H := hP
          have hD : va_D A (xw ad cs w n nr K V u1.1 u1.2 RL G (nI f) sp se co op ck cv) := hD
          refine lv_iload_n hx hb dX0_mergeRuns_26 rfl (lv_at hl 1 rfl) ?_
          refine lv_iload_n hx hb dX0_mergeRuns_27 rfl (lv_at hl 1 rfl) ?_
          refine lv_iadd hx hb dX0_mergeRuns_28 ?_
          refine z_eq (show ((nI wd) + (nI wd)) = nI (wd + wd) from nI_add _ _) ?_
          refine lv_istore_n (lv' := [(1, .int (nI (wd + wd))), (2, .int (nI pass)), (0, .ref (ad 0))]) hx hb dX0_mergeRuns_29 rfl hl (by decide) rfl (fun ls hl => ?_)
          refine lv_iinc (v := nI (pass + 1)) (lv' := [(2, .int (nI (pass + 1))), (1, .int (nI (wd + wd))), (0, .ref (ad 0))]) hx hb dX0_mergeRuns_30 hl (k := 1) rfl (show (nI pass) + Int32.ofInt (1) = nI (pass + 1) from (congrArg ((nI pass) + ·) (by decide : Int32.ofInt (1) = 1)).trans (nI_1 pass)) (by decide) rfl (fun ls hl => ?_)
          refine lv_goto (tgt := 7) hx hb dX0_mergeRuns_33 (by decide) ?_
          exact ih7 (pass + 1) (wd + wd) u1.1 u1.2 _ _ _ (⟨by rw [i1, Nat.pow_succ, ← Nat.mul_assoc]; omega, by omega, by omega, by rw [show wd + wd = 2 * wd by omega]; exact hj⟩) (by omega) hP hD hS (lv_sub hl [0, 1, 2] rfl)
  exact loop _ 0 w O M _ _ _ (⟨by rw [Nat.pow_zero, Nat.mul_one], by omega, by omega, hX⟩) (Nat.lt_succ_self _) hP hD hS (lv_sub hl [0, 1, 2] (rfl))
end
section
abbrev rX_countRowsOfRuns : Room := { frames := 1, cells := 0, slots := 0, locals := 22 }
set_option maxHeartbeats 4000000 in
set_option maxRecDepth 100000 in
theorem c_countRowsOfRuns (l : Launch) (D : va_G) (ad : Nat → Nat) (cs : Nat → ClassId) (w n nr : Nat) (hn : n < 2 ^ 31) (hnr : nr < 2 ^ 31) (K V O M RL G : Nat → Int32) (se co op ck cv : Int32) (r f : Nat) (hf : f ≤ n) (hn2 : n < 2 ^ 29) (hw0 : 0 < w) (hw1 : w < 2 ^ 29) (hr : r * w ≤ f) (hr2 : r < 2 ^ 29) (hrn : rnn r f ≤ nr) : ZV (S := (Nat → Int32)) l yX0_countRowsOfRuns cX0_countRowsOfRuns 2 rX_countRowsOfRuns D classes (xt cs) [.ref (ad 0)] (xw ad cs w n nr K V O M RL G (nI f) (nI r) se co op ck cv) (fun RL1 => ∀ j, j < rnn r f → RL1 j = nI (min w (f - j * w))) (fun RL1 => xw ad cs w n nr K V O M RL1 G (nI f) (nI r) se co (nI (rnn r f)) ck cv) := by
  refine ZV.of (by decide +kernel) (Nat.le_of_ble_eq_true rfl) ?_
  intro p e s m args below meth c A Q ls C0 hname hK hP hD hS hA hl hret
  have hx := C0.1
  have hb := C0.2.1
  have hl : lv_has ls 2 [(0, .ref (ad 0))] := hl
  refine lv_aload_n hx hb dX0_countRowsOfRuns_0 rfl (lv_at hl 0 rfl) ?_
  refine lv_aload_n hx hb dX0_countRowsOfRuns_1 rfl (lv_at hl 0 rfl) ?_
  refine z_get C0 zt_x0 hK hP 0 rfl rfl 7 (by decide) fl_X0_44 rfl dX0_countRowsOfRuns_2 ?_
  refine lv_if_ne (tgt := 12) hx hb dX0_countRowsOfRuns_5 (by decide) (fun c1 => ?_) (fun c1 => ?_)
  · have c1 : f ≠ 0 := zne (b := 0) c1
    refine lv_aload_n hx hb dX0_countRowsOfRuns_12 rfl (lv_at hl 0 rfl) ?_
    refine z_get C0 zt_x0 hK hP 0 rfl rfl 8 (by decide) fl_X0_47 rfl dX0_countRowsOfRuns_13 ?_
    refine lv_iconst (v := 1) hx hb dX0_countRowsOfRuns_16 (by decide) ?_
    refine lv_iadd hx hb dX0_countRowsOfRuns_17 ?_
    refine z_eq (show ((nI r) + 1) = nI (rnn r f) from by unfold rnn; rw [if_neg c1]; exact nI_1 r) ?_
    refine z_put (ty := .int) C0 zt_x0 tyX0 tyX0_ok nmX0 hK hP hD hS 0 rfl rfl 11 (by decide) fl_X0_57 rfl (by decide +kernel) rfl rfl (Nat.le_of_ble_eq_true rfl) dX0_countRowsOfRuns_18 (fun H locs hP hD hS => ?_)
    have hP : va_P D classes (xw ad cs w n nr K V O M RL G (nI f) (nI r) se co (nI (rnn r f)) ck cv) H := hP
    have hD : va_D A (xw ad cs w n nr K V O M RL G (nI f) (nI r) se co (nI (rnn r f)) ck cv) := hD
    refine lv_iconst (v := 0) hx hb dX0_countRowsOfRuns_21 (by decide) ?_
    refine lv_istore_n (lv' := [(1, .int 0), (0, .ref (ad 0))]) hx hb dX0_countRowsOfRuns_22 rfl hl (by decide) rfl (fun ls hl => ?_)
    have loop : ∀ (NN : Nat) (j : Nat) (RL1 : Nat → Int32) (H : Heap) (locs : List Loc) (ls : Array Slot), (j ≤ rnn r f ∧ ∀ i, i < j → RL1 i = nI (min w (f - i * w))) → rnn r f - j < NN → va_P D classes (xw ad cs w n nr K V O M RL1 G (nI f) (nI r) se co (nI (rnn r f)) ck cv) H → va_D A (xw ad cs w n nr K V O M RL1 G (nI f) (nI r) se co (nI (rnn r f)) ck cv) → va_S A s.heap H locs → lv_has ls 2 [(1, .int (nI j)), (0, .ref (ad 0))] → W p l e rX_countRowsOfRuns s m args below meth c H locs 0 0 Q (F0 m 23 ls []) := by
      intro N23
      induction N23 with
      | zero => intro j RL1 H locs ls hI hN; exact absurd hN (Nat.not_lt_zero _)
      | succ N23 ih23 =>
        intro j RL1 H locs ls hI hN23 hP hD hS hl
        obtain ⟨i1, i2⟩ := hI
        have hrb : rnn r f ≤ r + 1 := by unfold rnn; split <;> omega
        refine lv_iload_n hx hb dX0_countRowsOfRuns_23 rfl (lv_at hl 0 rfl) ?_
        refine lv_aload_n hx hb dX0_countRowsOfRuns_24 rfl (lv_at hl 1 rfl) ?_
        refine z_get C0 zt_x0 hK hP 0 rfl rfl 11 (by decide) fl_X0_57 rfl dX0_countRowsOfRuns_25 ?_
        refine lv_icmp_ge (tgt := 63) hx hb dX0_countRowsOfRuns_28 (by decide) (fun c2 => ?_) (fun c2 => ?_)
        · have c2 := zle c2 (by omega) (by omega)
          have ej : j = rnn r f := by omega
          exact hret (RL1) _ _ _ _ hP hD hS (by rw [← ej]; exact i2) dX0_countRowsOfRuns_63
        · have c2 := znle c2 (by omega) (by omega)
          have hjw : j * w ≤ f := Nat.le_trans (Nat.mul_le_mul_right w (show j ≤ r by omega)) hr
          refine lv_aload_n hx hb dX0_countRowsOfRuns_31 rfl (lv_at hl 1 rfl) ?_
          refine z_get C0 zt_x0 hK hP 0 rfl rfl 6 (by decide) fl_X0_38 rfl dX0_countRowsOfRuns_32 ?_
          refine lv_iload_n hx hb dX0_countRowsOfRuns_35 rfl (lv_at hl 0 rfl) ?_
          refine lv_aload_n hx hb dX0_countRowsOfRuns_36 rfl (lv_at hl 1 rfl) ?_
          refine z_get C0 zt_x0 hK hP 0 rfl rfl 0 (by decide) fl_X0_18 rfl dX0_countRowsOfRuns_37 ?_
          refine lv_aload_n hx hb dX0_countRowsOfRuns_40 rfl (lv_at hl 1 rfl) ?_
          refine z_get C0 zt_x0 hK hP 0 rfl rfl 7 (by decide) fl_X0_44 rfl dX0_countRowsOfRuns_41 ?_
          refine lv_iload_n hx hb dX0_countRowsOfRuns_44 rfl (lv_at hl 0 rfl) ?_
          refine lv_aload_n hx hb dX0_countRowsOfRuns_45 rfl (lv_at hl 1 rfl) ?_
          refine z_get C0 zt_x0 hK hP 0 rfl rfl 0 (by decide) fl_X0_18 rfl dX0_countRowsOfRuns_46 ?_
          refine lv_imul hx hb dX0_countRowsOfRuns_49 ?_
          refine z_eq (show ((nI j) * (nI w)) = nI (j * w) from pk_mul j w) ?_
          refine lv_isub hx hb dX0_countRowsOfRuns_50 ?_
          refine z_eq (show ((nI f) - (nI (j * w))) = nI (f - j * w) from pk_sub hjw) ?_
          refine z_min C0 zm_min hl.1 ⟨by decide, Nat.le_of_ble_eq_true rfl⟩ ⟨Nat.zero_le _, Nat.zero_le _⟩ dX0_countRowsOfRuns_51 ?_
          refine z_eq (show (if (nI (f - j * w)) < (nI w) then (nI (f - j * w)) else (nI w)) = nI (min w (f - j * w)) from zmin_n rfl (by omega) (by omega)) ?_
          refine zx_put C0 hnr hK hP hD hS hA 5 4 rfl rfl hl.1 (Nat.le_of_ble_eq_true rfl) ⟨by decide, by decide⟩ ⟨Nat.zero_le _, Nat.zero_le _⟩ dX0_countRowsOfRuns_54 (fun H locs hP hD hS => ?_)
          have hP : va_P D classes (xw ad cs w n nr K V O M (zp nr RL1 (nI j) (nI (min w (f - j * w)))) G (nI f) (nI r) se co (nI (rnn r f)) ck cv) H := hP
          have hD : va_D A (xw ad cs w n nr K V O M (zp nr RL1 (nI j) (nI (min w (f - j * w)))) G (nI f) (nI r) se co (nI (rnn r f)) ck cv) := hD
          rw [show (zp nr RL1 (nI j) (nI (min w (f - j * w)))) = upd RL1 j (nI (min w (f - j * w))) from zp_at (by omega) hnr] at hP hD
          have hP : va_P D classes (xw ad cs w n nr K V O M (upd RL1 j (nI (min w (f - j * w)))) G (nI f) (nI r) se co (nI (rnn r f)) ck cv) H := hP
          have hD : va_D A (xw ad cs w n nr K V O M (upd RL1 j (nI (min w (f - j * w)))) G (nI f) (nI r) se co (nI (rnn r f)) ck cv) := hD
          refine lv_iinc (v := nI (j + 1)) (lv' := [(1, .int (nI (j + 1))), (0, .ref (ad 0))]) hx hb dX0_countRowsOfRuns_57 hl (k := 0) rfl (show (nI j) + Int32.ofInt (1) = nI (j + 1) from (congrArg ((nI j) + ·) (by decide : Int32.ofInt (1) = 1)).trans (nI_1 j)) (by decide) rfl (fun ls hl => ?_)
          refine lv_goto (tgt := 23) hx hb dX0_countRowsOfRuns_60 (by decide) ?_
          exact ih23 (j + 1) (upd RL1 j (nI (min w (f - j * w)))) _ _ _ (⟨c2, fun i h => by rcases Nat.lt_or_ge i j with q | q; (rw [upd_ne (by omega)]; exact i2 i q); (rw [show i = j by omega, upd_eq])⟩) (by omega) hP hD hS (lv_sub hl [0, 1] rfl)
    exact loop _ 0 RL _ _ _ (⟨Nat.zero_le _, fun i h => absurd h (Nat.not_lt_zero i)⟩) (Nat.lt_succ_self _) hP hD hS (lv_sub hl [0, 1] (rfl))
  · have c1 : f = 0 := zeq (b := 0) c1 (by omega) (by omega)
    refine lv_iconst (v := 0) hx hb dX0_countRowsOfRuns_8 (by decide) ?_
    refine z_eq (show (0) = nI (rnn r f) from by unfold rnn; rw [if_pos c1]; rfl) ?_
    refine lv_goto (tgt := 18) hx hb dX0_countRowsOfRuns_9 (by decide) ?_
    refine z_put (ty := .int) C0 zt_x0 tyX0 tyX0_ok nmX0 hK hP hD hS 0 rfl rfl 11 (by decide) fl_X0_57 rfl (by decide +kernel) rfl rfl (Nat.le_of_ble_eq_true rfl) dX0_countRowsOfRuns_18 (fun H locs hP hD hS => ?_)
    have hP : va_P D classes (xw ad cs w n nr K V O M RL G (nI f) (nI r) se co (nI (rnn r f)) ck cv) H := hP
    have hD : va_D A (xw ad cs w n nr K V O M RL G (nI f) (nI r) se co (nI (rnn r f)) ck cv) := hD
    refine lv_iconst (v := 0) hx hb dX0_countRowsOfRuns_21 (by decide) ?_
    refine lv_istore_n (lv' := [(1, .int 0), (0, .ref (ad 0))]) hx hb dX0_countRowsOfRuns_22 rfl hl (by decide) rfl (fun ls hl => ?_)
    have loop : ∀ (NN : Nat) (j : Nat) (RL1 : Nat → Int32) (H : Heap) (locs : List Loc) (ls : Array Slot), (j ≤ rnn r f ∧ ∀ i, i < j → RL1 i = nI (min w (f - i * w))) → rnn r f - j < NN → va_P D classes (xw ad cs w n nr K V O M RL1 G (nI f) (nI r) se co (nI (rnn r f)) ck cv) H → va_D A (xw ad cs w n nr K V O M RL1 G (nI f) (nI r) se co (nI (rnn r f)) ck cv) → va_S A s.heap H locs → lv_has ls 2 [(1, .int (nI j)), (0, .ref (ad 0))] → W p l e rX_countRowsOfRuns s m args below meth c H locs 0 0 Q (F0 m 23 ls []) := by
      intro N23
      induction N23 with
      | zero => intro j RL1 H locs ls hI hN; exact absurd hN (Nat.not_lt_zero _)
      | succ N23 ih23 =>
        intro j RL1 H locs ls hI hN23 hP hD hS hl
        obtain ⟨i1, i2⟩ := hI
        have hrb : rnn r f ≤ r + 1 := by unfold rnn; split <;> omega
        refine lv_iload_n hx hb dX0_countRowsOfRuns_23 rfl (lv_at hl 0 rfl) ?_
        refine lv_aload_n hx hb dX0_countRowsOfRuns_24 rfl (lv_at hl 1 rfl) ?_
        refine z_get C0 zt_x0 hK hP 0 rfl rfl 11 (by decide) fl_X0_57 rfl dX0_countRowsOfRuns_25 ?_
        refine lv_icmp_ge (tgt := 63) hx hb dX0_countRowsOfRuns_28 (by decide) (fun c2 => ?_) (fun c2 => ?_)
        · have c2 := zle c2 (by omega) (by omega)
          have ej : j = rnn r f := by omega
          exact hret (RL1) _ _ _ _ hP hD hS (by rw [← ej]; exact i2) dX0_countRowsOfRuns_63
        · have c2 := znle c2 (by omega) (by omega)
          have hjw : j * w ≤ f := Nat.le_trans (Nat.mul_le_mul_right w (show j ≤ r by omega)) hr
          refine lv_aload_n hx hb dX0_countRowsOfRuns_31 rfl (lv_at hl 1 rfl) ?_
          refine z_get C0 zt_x0 hK hP 0 rfl rfl 6 (by decide) fl_X0_38 rfl dX0_countRowsOfRuns_32 ?_
          refine lv_iload_n hx hb dX0_countRowsOfRuns_35 rfl (lv_at hl 0 rfl) ?_
          refine lv_aload_n hx hb dX0_countRowsOfRuns_36 rfl (lv_at hl 1 rfl) ?_
          refine z_get C0 zt_x0 hK hP 0 rfl rfl 0 (by decide) fl_X0_18 rfl dX0_countRowsOfRuns_37 ?_
          refine lv_aload_n hx hb dX0_countRowsOfRuns_40 rfl (lv_at hl 1 rfl) ?_
          refine z_get C0 zt_x0 hK hP 0 rfl rfl 7 (by decide) fl_X0_44 rfl dX0_countRowsOfRuns_41 ?_
          refine lv_iload_n hx hb dX0_countRowsOfRuns_44 rfl (lv_at hl 0 rfl) ?_
          refine lv_aload_n hx hb dX0_countRowsOfRuns_45 rfl (lv_at hl 1 rfl) ?_
          refine z_get C0 zt_x0 hK hP 0 rfl rfl 0 (by decide) fl_X0_18 rfl dX0_countRowsOfRuns_46 ?_
          refine lv_imul hx hb dX0_countRowsOfRuns_49 ?_
          refine z_eq (show ((nI j) * (nI w)) = nI (j * w) from pk_mul j w) ?_
          refine lv_isub hx hb dX0_countRowsOfRuns_50 ?_
          refine z_eq (show ((nI f) - (nI (j * w))) = nI (f - j * w) from pk_sub hjw) ?_
          refine z_min C0 zm_min hl.1 ⟨by decide, Nat.le_of_ble_eq_true rfl⟩ ⟨Nat.zero_le _, Nat.zero_le _⟩ dX0_countRowsOfRuns_51 ?_
          refine z_eq (show (if (nI (f - j * w)) < (nI w) then (nI (f - j * w)) else (nI w)) = nI (min w (f - j * w)) from zmin_n rfl (by omega) (by omega)) ?_
          refine zx_put C0 hnr hK hP hD hS hA 5 4 rfl rfl hl.1 (Nat.le_of_ble_eq_true rfl) ⟨by decide, by decide⟩ ⟨Nat.zero_le _, Nat.zero_le _⟩ dX0_countRowsOfRuns_54 (fun H locs hP hD hS => ?_)
          have hP : va_P D classes (xw ad cs w n nr K V O M (zp nr RL1 (nI j) (nI (min w (f - j * w)))) G (nI f) (nI r) se co (nI (rnn r f)) ck cv) H := hP
          have hD : va_D A (xw ad cs w n nr K V O M (zp nr RL1 (nI j) (nI (min w (f - j * w)))) G (nI f) (nI r) se co (nI (rnn r f)) ck cv) := hD
          rw [show (zp nr RL1 (nI j) (nI (min w (f - j * w)))) = upd RL1 j (nI (min w (f - j * w))) from zp_at (by omega) hnr] at hP hD
          have hP : va_P D classes (xw ad cs w n nr K V O M (upd RL1 j (nI (min w (f - j * w)))) G (nI f) (nI r) se co (nI (rnn r f)) ck cv) H := hP
          have hD : va_D A (xw ad cs w n nr K V O M (upd RL1 j (nI (min w (f - j * w)))) G (nI f) (nI r) se co (nI (rnn r f)) ck cv) := hD
          refine lv_iinc (v := nI (j + 1)) (lv' := [(1, .int (nI (j + 1))), (0, .ref (ad 0))]) hx hb dX0_countRowsOfRuns_57 hl (k := 0) rfl (show (nI j) + Int32.ofInt (1) = nI (j + 1) from (congrArg ((nI j) + ·) (by decide : Int32.ofInt (1) = 1)).trans (nI_1 j)) (by decide) rfl (fun ls hl => ?_)
          refine lv_goto (tgt := 23) hx hb dX0_countRowsOfRuns_60 (by decide) ?_
          exact ih23 (j + 1) (upd RL1 j (nI (min w (f - j * w)))) _ _ _ (⟨c2, fun i h => by rcases Nat.lt_or_ge i j with q | q; (rw [upd_ne (by omega)]; exact i2 i q); (rw [show i = j by omega, upd_eq])⟩) (by omega) hP hD hS (lv_sub hl [0, 1] rfl)
    exact loop _ 0 RL _ _ _ (⟨Nat.zero_le _, fun i h => absurd h (Nat.not_lt_zero i)⟩) (Nat.lt_succ_self _) hP hD hS (lv_sub hl [0, 1] (rfl))
abbrev rX_takeFromRun : Room := { frames := 1, cells := 0, slots := 0, locals := 22 }
set_option maxHeartbeats 4000000 in
set_option maxRecDepth 100000 in
theorem c_takeFromRun (l : Launch) (D : va_G) (ad : Nat → Nat) (cs : Nat → ClassId) (w n nr : Nat) (hn : n < 2 ^ 31) (hnr : nr < 2 ^ 31) (K V O M RL G : Nat → Int32) (fed sp se co op ck cv : Int32) (c0 x q : Nat) (hw0 : 0 < w) (hw1 : w < 2 ^ 29) (hc : c0 < n) (hOc : O c0 = nI x) (hx9 : x < 2 ^ 31) (hq9 : q < 2 ^ 31) (hj : x / w < nr) (hRL : RL (x / w) = nI (q + 1)) : ZV (S := Int32) l yX0_takeFromRun cX0_takeFromRun 4 rX_takeFromRun D classes (xt cs) [.ref (ad 0), .int (nI c0)] (xw ad cs w n nr K V O M RL G fed sp se co op ck cv) (fun op1 => op1 = if q = 0 then op - 1 else op) (fun op1 => xw ad cs w n nr K V O M (upd RL (x / w) (nI q)) G fed sp se co op1 ck cv) := by
  refine ZV.of (by decide +kernel) (Nat.le_of_ble_eq_true rfl) ?_
  intro p e s m args below meth c A Q ls C0 hname hK hP hD hS hA hl hret
  have hx := C0.1
  have hb := C0.2.1
  have hl : lv_has ls 4 [(0, .ref (ad 0)), (1, .int (nI c0))] := hl
  refine lv_aload_n hx hb dX0_takeFromRun_0 rfl (lv_at hl 0 rfl) ?_
  refine z_get C0 zt_x0 hK hP 0 rfl rfl 4 (by decide) fl_X0_32 rfl dX0_takeFromRun_1 ?_
  refine lv_iload_n hx hb dX0_takeFromRun_4 rfl (lv_at hl 1 rfl) ?_
  refine zx_at C0 hn hK hP hD 3 2 rfl rfl hl.1 (Nat.le_of_ble_eq_true rfl) ⟨by decide, by decide⟩ ⟨Nat.zero_le _, Nat.zero_le _⟩ dX0_takeFromRun_5 ?_
  refine z_eq (show (za n O (nI c0)) = nI x from (za_at hc hn).trans hOc) ?_
  refine lv_aload_n hx hb dX0_takeFromRun_8 rfl (lv_at hl 0 rfl) ?_
  refine z_get C0 zt_x0 hK hP 0 rfl rfl 0 (by decide) fl_X0_18 rfl dX0_takeFromRun_9 ?_
  refine lv_idiv hx hb dX0_takeFromRun_12 (nI_ne0 hw0 (by omega)) ?_
  refine z_eq (show ((nI x) / (nI w)) = nI (x / w) from pk_div hx9 hw0 (by omega)) ?_
  refine lv_istore_n (lv' := [(2, .int (nI (x / w))), (0, .ref (ad 0)), (1, .int (nI c0))]) hx hb dX0_takeFromRun_13 rfl hl (by decide) rfl (fun ls hl => ?_)
  refine lv_aload_n hx hb dX0_takeFromRun_14 rfl (lv_at hl 1 rfl) ?_
  refine z_get C0 zt_x0 hK hP 0 rfl rfl 6 (by decide) fl_X0_38 rfl dX0_takeFromRun_15 ?_
  refine lv_iload_n hx hb dX0_takeFromRun_18 rfl (lv_at hl 0 rfl) ?_
  refine zx_at C0 hnr hK hP hD 5 4 rfl rfl hl.1 (Nat.le_of_ble_eq_true rfl) ⟨by decide, by decide⟩ ⟨Nat.zero_le _, Nat.zero_le _⟩ dX0_takeFromRun_19 ?_
  refine z_eq (show (za nr RL (nI (x / w))) = nI (q + 1) from (za_at hj hnr).trans hRL) ?_
  refine lv_iconst (v := 1) hx hb dX0_takeFromRun_22 (by decide) ?_
  refine lv_isub hx hb dX0_takeFromRun_23 ?_
  refine z_eq (show ((nI (q + 1)) - 1) = nI q from nI_pred q) ?_
  refine lv_istore_n (lv' := [(3, .int (nI q)), (2, .int (nI (x / w))), (0, .ref (ad 0)), (1, .int (nI c0))]) hx hb dX0_takeFromRun_24 rfl hl (by decide) rfl (fun ls hl => ?_)
  refine lv_aload_n hx hb dX0_takeFromRun_25 rfl (lv_at hl 2 rfl) ?_
  refine z_get C0 zt_x0 hK hP 0 rfl rfl 6 (by decide) fl_X0_38 rfl dX0_takeFromRun_26 ?_
  refine lv_iload_n hx hb dX0_takeFromRun_29 rfl (lv_at hl 1 rfl) ?_
  refine lv_iload_n hx hb dX0_takeFromRun_30 rfl (lv_at hl 0 rfl) ?_
  refine zx_put C0 hnr hK hP hD hS hA 5 4 rfl rfl hl.1 (Nat.le_of_ble_eq_true rfl) ⟨by decide, by decide⟩ ⟨Nat.zero_le _, Nat.zero_le _⟩ dX0_takeFromRun_31 (fun H locs hP hD hS => ?_)
  have hP : va_P D classes (xw ad cs w n nr K V O M (zp nr RL (nI (x / w)) (nI q)) G fed sp se co op ck cv) H := hP
  have hD : va_D A (xw ad cs w n nr K V O M (zp nr RL (nI (x / w)) (nI q)) G fed sp se co op ck cv) := hD
  rw [show (zp nr RL (nI (x / w)) (nI q)) = upd RL (x / w) (nI q) from zp_at hj hnr] at hP hD
  have hP : va_P D classes (xw ad cs w n nr K V O M (upd RL (x / w) (nI q)) G fed sp se co op ck cv) H := hP
  have hD : va_D A (xw ad cs w n nr K V O M (upd RL (x / w) (nI q)) G fed sp se co op ck cv) := hD
  refine lv_iload_n hx hb dX0_takeFromRun_34 rfl (lv_at hl 0 rfl) ?_
  refine lv_if_ne (tgt := 48) hx hb dX0_takeFromRun_35 (by decide) (fun c1 => ?_) (fun c1 => ?_)
  · have c1 : q ≠ 0 := zne (b := 0) c1
    exact hret (op) _ _ _ _ hP hD hS (by rw [if_neg c1]) dX0_takeFromRun_48
  · have c1 : q = 0 := zeq (b := 0) c1 hq9 (by decide)
    refine lv_aload_n hx hb dX0_takeFromRun_38 rfl (lv_at hl 2 rfl) ?_
    refine lv_dup hx hb dX0_takeFromRun_39 rfl ?_
    refine z_get C0 zt_x0 hK hP 0 rfl rfl 11 (by decide) fl_X0_57 rfl dX0_takeFromRun_40 ?_
    refine lv_iconst (v := 1) hx hb dX0_takeFromRun_43 (by decide) ?_
    refine lv_isub hx hb dX0_takeFromRun_44 ?_
    refine z_put (ty := .int) C0 zt_x0 tyX0 tyX0_ok nmX0 hK hP hD hS 0 rfl rfl 11 (by decide) fl_X0_57 rfl (by decide +kernel) rfl rfl (Nat.le_of_ble_eq_true rfl) dX0_takeFromRun_45 (fun H locs hP hD hS => ?_)
    have hP : va_P D classes (xw ad cs w n nr K V O M (upd RL (x / w) (nI q)) G fed sp se co (op - 1) ck cv) H := hP
    have hD : va_D A (xw ad cs w n nr K V O M (upd RL (x / w) (nI q)) G fed sp se co (op - 1) ck cv) := hD
    exact hret (op - 1) _ _ _ _ hP hD hS (by rw [if_pos c1]) dX0_takeFromRun_48
abbrev rX_addToGroup : Room := { frames := 1, cells := 0, slots := 0, locals := 22 }
set_option maxHeartbeats 4000000 in
set_option maxRecDepth 100000 in
theorem c_addToGroup (l : Launch) (D : va_G) (ad : Nat → Nat) (cs : Nat → ClassId) (w n nr : Nat) (hn : n < 2 ^ 31) (hnr : nr < 2 ^ 31) (K V O M RL G : Nat → Int32) (fed sp se co op ck cv : Int32) (v : Int32)  : ZV (S := (Nat → Int32)) l yX0_addToGroup cX0_addToGroup 3 rX_addToGroup D classes (xt cs) [.ref (ad 0), .int v] (xw ad cs w n nr K V O M RL G fed sp se co op ck cv) (fun G1 => G1 0 = G 0 + 1 ∧ G1 1 = G 1 + v ∧ G1 2 = (if G 0 = 0 then v else if v < G 2 then v else G 2) ∧ G1 3 = (if G 0 = 0 then v else if G 3 < v then v else G 3)) (fun G1 => xw ad cs w n nr K V O M RL G1 fed sp se co op ck cv) := by
  refine ZV.of (by decide +kernel) (Nat.le_of_ble_eq_true rfl) ?_
  intro p e s m args below meth c A Q ls C0 hname hK hP hD hS hA hl hret
  have hx := C0.1
  have hb := C0.2.1
  have hl : lv_has ls 3 [(0, .ref (ad 0)), (1, .int v)] := hl
  refine lv_aload_n hx hb dX0_addToGroup_0 rfl (lv_at hl 0 rfl) ?_
  refine z_get C0 zt_x0 hK hP 0 rfl rfl 14 (by decide) fl_X0_41 rfl dX0_addToGroup_1 ?_
  refine lv_iconst (v := 0) hx hb dX0_addToGroup_4 (by decide) ?_
  refine zx_at C0 (by decide) hK hP hD 6 5 rfl rfl hl.1 (Nat.le_of_ble_eq_true rfl) ⟨by decide, by decide⟩ ⟨Nat.zero_le _, Nat.zero_le _⟩ dX0_addToGroup_5 ?_
  refine z_eq (show (za 4 G 0) = G 0 from (za_at (j := 0) (by decide) (by decide))) ?_
  refine lv_if_ne (tgt := 15) hx hb dX0_addToGroup_8 (by decide) (fun c1 => ?_) (fun c1 => ?_)
  · refine lv_iconst (v := 0) hx hb dX0_addToGroup_15 (by decide) ?_
    refine lv_istore_n (lv' := [(2, .int 0), (0, .ref (ad 0)), (1, .int v)]) hx hb dX0_addToGroup_16 rfl hl (by decide) rfl (fun ls hl => ?_)
    refine lv_aload_n hx hb dX0_addToGroup_17 rfl (lv_at hl 1 rfl) ?_
    refine z_get C0 zt_x0 hK hP 0 rfl rfl 14 (by decide) fl_X0_41 rfl dX0_addToGroup_18 ?_
    refine lv_iconst (v := 0) hx hb dX0_addToGroup_21 (by decide) ?_
    refine lv_aload_n hx hb dX0_addToGroup_22 rfl (lv_at hl 1 rfl) ?_
    refine z_get C0 zt_x0 hK hP 0 rfl rfl 14 (by decide) fl_X0_41 rfl dX0_addToGroup_23 ?_
    refine lv_iconst (v := 0) hx hb dX0_addToGroup_26 (by decide) ?_
    refine zx_at C0 (by decide) hK hP hD 6 5 rfl rfl hl.1 (Nat.le_of_ble_eq_true rfl) ⟨by decide, by decide⟩ ⟨Nat.zero_le _, Nat.zero_le _⟩ dX0_addToGroup_27 ?_
    refine z_eq (show (za 4 G 0) = G 0 from (za_at (j := 0) (by decide) (by decide))) ?_
    refine lv_iconst (v := 1) hx hb dX0_addToGroup_30 (by decide) ?_
    refine lv_iadd hx hb dX0_addToGroup_31 ?_
    refine zx_put C0 (by decide) hK hP hD hS hA 6 5 rfl rfl hl.1 (Nat.le_of_ble_eq_true rfl) ⟨by decide, by decide⟩ ⟨Nat.zero_le _, Nat.zero_le _⟩ dX0_addToGroup_32 (fun H locs hP hD hS => ?_)
    have hP : va_P D classes (xw ad cs w n nr K V O M RL (zp 4 G 0 ((G 0) + 1)) fed sp se co op ck cv) H := hP
    have hD : va_D A (xw ad cs w n nr K V O M RL (zp 4 G 0 ((G 0) + 1)) fed sp se co op ck cv) := hD
    rw [show (zp 4 G 0 ((G 0) + 1)) = upd G 0 (G 0 + 1) from zp_at (j := 0) (by decide) (by decide)] at hP hD
    have hP : va_P D classes (xw ad cs w n nr K V O M RL (upd G 0 (G 0 + 1)) fed sp se co op ck cv) H := hP
    have hD : va_D A (xw ad cs w n nr K V O M RL (upd G 0 (G 0 + 1)) fed sp se co op ck cv) := hD
    refine lv_aload_n hx hb dX0_addToGroup_35 rfl (lv_at hl 1 rfl) ?_
    refine z_get C0 zt_x0 hK hP 0 rfl rfl 14 (by decide) fl_X0_41 rfl dX0_addToGroup_36 ?_
    refine lv_iconst (v := 1) hx hb dX0_addToGroup_39 (by decide) ?_
    refine lv_aload_n hx hb dX0_addToGroup_40 rfl (lv_at hl 1 rfl) ?_
    refine z_get C0 zt_x0 hK hP 0 rfl rfl 14 (by decide) fl_X0_41 rfl dX0_addToGroup_41 ?_
    refine lv_iconst (v := 1) hx hb dX0_addToGroup_44 (by decide) ?_
    refine zx_at C0 (by decide) hK hP hD 6 5 rfl rfl hl.1 (Nat.le_of_ble_eq_true rfl) ⟨by decide, by decide⟩ ⟨Nat.zero_le _, Nat.zero_le _⟩ dX0_addToGroup_45 ?_
    refine z_eq (show (za 4 (upd G 0 (G 0 + 1)) 1) = G 1 from (za_at (j := 1) (by decide) (by decide)).trans (upd_ne (by decide))) ?_
    refine lv_iload_n hx hb dX0_addToGroup_48 rfl (lv_at hl 2 rfl) ?_
    refine lv_iadd hx hb dX0_addToGroup_49 ?_
    refine zx_put C0 (by decide) hK hP hD hS hA 6 5 rfl rfl hl.1 (Nat.le_of_ble_eq_true rfl) ⟨by decide, by decide⟩ ⟨Nat.zero_le _, Nat.zero_le _⟩ dX0_addToGroup_50 (fun H locs hP hD hS => ?_)
    have hP : va_P D classes (xw ad cs w n nr K V O M RL (zp 4 (upd G 0 (G 0 + 1)) 1 ((G 1) + v)) fed sp se co op ck cv) H := hP
    have hD : va_D A (xw ad cs w n nr K V O M RL (zp 4 (upd G 0 (G 0 + 1)) 1 ((G 1) + v)) fed sp se co op ck cv) := hD
    rw [show (zp 4 (upd G 0 (G 0 + 1)) 1 ((G 1) + v)) = upd (upd G 0 (G 0 + 1)) 1 (G 1 + v) from zp_at (j := 1) (by decide) (by decide)] at hP hD
    have hP : va_P D classes (xw ad cs w n nr K V O M RL (upd (upd G 0 (G 0 + 1)) 1 (G 1 + v)) fed sp se co op ck cv) H := hP
    have hD : va_D A (xw ad cs w n nr K V O M RL (upd (upd G 0 (G 0 + 1)) 1 (G 1 + v)) fed sp se co op ck cv) := hD
    refine lv_aload_n hx hb dX0_addToGroup_53 rfl (lv_at hl 1 rfl) ?_
    refine z_get C0 zt_x0 hK hP 0 rfl rfl 14 (by decide) fl_X0_41 rfl dX0_addToGroup_54 ?_
    refine lv_iconst (v := 2) hx hb dX0_addToGroup_57 (by decide) ?_
    refine lv_iload_n hx hb dX0_addToGroup_58 rfl (lv_at hl 0 rfl) ?_
    refine lv_if_eq (tgt := 66) hx hb dX0_addToGroup_59 (by decide) (fun hz => ?_) (fun hz => False.elim (hz rfl))
    refine lv_aload_n hx hb dX0_addToGroup_66 rfl (lv_at hl 1 rfl) ?_
    refine z_get C0 zt_x0 hK hP 0 rfl rfl 14 (by decide) fl_X0_41 rfl dX0_addToGroup_67 ?_
    refine lv_iconst (v := 2) hx hb dX0_addToGroup_70 (by decide) ?_
    refine zx_at C0 (by decide) hK hP hD 6 5 rfl rfl hl.1 (Nat.le_of_ble_eq_true rfl) ⟨by decide, by decide⟩ ⟨Nat.zero_le _, Nat.zero_le _⟩ dX0_addToGroup_71 ?_
    refine z_eq (show (za 4 (upd (upd G 0 (G 0 + 1)) 1 (G 1 + v)) 2) = G 2 from (za_at (j := 2) (by decide) (by decide)).trans ((upd_ne (by decide)).trans (upd_ne (by decide)))) ?_
    refine lv_iload_n hx hb dX0_addToGroup_74 rfl (lv_at hl 2 rfl) ?_
    refine z_min C0 zm_min hl.1 ⟨by decide, Nat.le_of_ble_eq_true rfl⟩ ⟨Nat.zero_le _, Nat.zero_le _⟩ dX0_addToGroup_75 ?_
    refine zx_put C0 (by decide) hK hP hD hS hA 6 5 rfl rfl hl.1 (Nat.le_of_ble_eq_true rfl) ⟨by decide, by decide⟩ ⟨Nat.zero_le _, Nat.zero_le _⟩ dX0_addToGroup_78 (fun H locs hP hD hS => ?_)
    have hP : va_P D classes (xw ad cs w n nr K V O M RL (zp 4 (upd (upd G 0 (G 0 + 1)) 1 (G 1 + v)) 2 (if v < (G 2) then v else (G 2))) fed sp se co op ck cv) H := hP
    have hD : va_D A (xw ad cs w n nr K V O M RL (zp 4 (upd (upd G 0 (G 0 + 1)) 1 (G 1 + v)) 2 (if v < (G 2) then v else (G 2))) fed sp se co op ck cv) := hD
    rw [show (zp 4 (upd (upd G 0 (G 0 + 1)) 1 (G 1 + v)) 2 (if v < (G 2) then v else (G 2))) = upd (upd (upd G 0 (G 0 + 1)) 1 (G 1 + v)) 2 (if v < (G 2) then v else (G 2)) from zp_at (j := 2) (by decide) (by decide)] at hP hD
    have hP : va_P D classes (xw ad cs w n nr K V O M RL (upd (upd (upd G 0 (G 0 + 1)) 1 (G 1 + v)) 2 (if v < (G 2) then v else (G 2))) fed sp se co op ck cv) H := hP
    have hD : va_D A (xw ad cs w n nr K V O M RL (upd (upd (upd G 0 (G 0 + 1)) 1 (G 1 + v)) 2 (if v < (G 2) then v else (G 2))) fed sp se co op ck cv) := hD
    refine lv_aload_n hx hb dX0_addToGroup_81 rfl (lv_at hl 1 rfl) ?_
    refine z_get C0 zt_x0 hK hP 0 rfl rfl 14 (by decide) fl_X0_41 rfl dX0_addToGroup_82 ?_
    refine lv_iconst (v := 3) hx hb dX0_addToGroup_85 (by decide) ?_
    refine lv_iload_n hx hb dX0_addToGroup_86 rfl (lv_at hl 0 rfl) ?_
    refine lv_if_eq (tgt := 94) hx hb dX0_addToGroup_87 (by decide) (fun hz => ?_) (fun hz => False.elim (hz rfl))
    refine lv_aload_n hx hb dX0_addToGroup_94 rfl (lv_at hl 1 rfl) ?_
    refine z_get C0 zt_x0 hK hP 0 rfl rfl 14 (by decide) fl_X0_41 rfl dX0_addToGroup_95 ?_
    refine lv_iconst (v := 3) hx hb dX0_addToGroup_98 (by decide) ?_
    refine zx_at C0 (by decide) hK hP hD 6 5 rfl rfl hl.1 (Nat.le_of_ble_eq_true rfl) ⟨by decide, by decide⟩ ⟨Nat.zero_le _, Nat.zero_le _⟩ dX0_addToGroup_99 ?_
    refine z_eq (show (za 4 (upd (upd (upd G 0 (G 0 + 1)) 1 (G 1 + v)) 2 (if v < (G 2) then v else (G 2))) 3) = G 3 from (za_at (j := 3) (by decide) (by decide)).trans ((upd_ne (by decide)).trans ((upd_ne (by decide)).trans (upd_ne (by decide))))) ?_
    refine lv_iload_n hx hb dX0_addToGroup_102 rfl (lv_at hl 2 rfl) ?_
    refine z_max C0 zm_max hl.1 ⟨by decide, Nat.le_of_ble_eq_true rfl⟩ ⟨Nat.zero_le _, Nat.zero_le _⟩ dX0_addToGroup_103 ?_
    refine zx_put C0 (by decide) hK hP hD hS hA 6 5 rfl rfl hl.1 (Nat.le_of_ble_eq_true rfl) ⟨by decide, by decide⟩ ⟨Nat.zero_le _, Nat.zero_le _⟩ dX0_addToGroup_106 (fun H locs hP hD hS => ?_)
    have hP : va_P D classes (xw ad cs w n nr K V O M RL (zp 4 (upd (upd (upd G 0 (G 0 + 1)) 1 (G 1 + v)) 2 (if v < (G 2) then v else (G 2))) 3 (if (G 3) < v then v else (G 3))) fed sp se co op ck cv) H := hP
    have hD : va_D A (xw ad cs w n nr K V O M RL (zp 4 (upd (upd (upd G 0 (G 0 + 1)) 1 (G 1 + v)) 2 (if v < (G 2) then v else (G 2))) 3 (if (G 3) < v then v else (G 3))) fed sp se co op ck cv) := hD
    rw [show (zp 4 (upd (upd (upd G 0 (G 0 + 1)) 1 (G 1 + v)) 2 (if v < (G 2) then v else (G 2))) 3 (if (G 3) < v then v else (G 3))) = upd (upd (upd (upd G 0 (G 0 + 1)) 1 (G 1 + v)) 2 (if v < (G 2) then v else (G 2))) 3 (if (G 3) < v then v else (G 3)) from zp_at (j := 3) (by decide) (by decide)] at hP hD
    have hP : va_P D classes (xw ad cs w n nr K V O M RL (upd (upd (upd (upd G 0 (G 0 + 1)) 1 (G 1 + v)) 2 (if v < (G 2) then v else (G 2))) 3 (if (G 3) < v then v else (G 3))) fed sp se co op ck cv) H := hP
    have hD : va_D A (xw ad cs w n nr K V O M RL (upd (upd (upd (upd G 0 (G 0 + 1)) 1 (G 1 + v)) 2 (if v < (G 2) then v else (G 2))) 3 (if (G 3) < v then v else (G 3))) fed sp se co op ck cv) := hD
    exact hret (upd (upd (upd (upd G 0 (G 0 + 1)) 1 (G 1 + v)) 2 (if v < (G 2) then v else (G 2))) 3 (if (G 3) < v then v else (G 3))) _ _ _ _ hP hD hS (by refine ⟨?_, ?_, ?_, ?_⟩ <;> simp [upd, c1]) dX0_addToGroup_109
  · refine lv_iconst (v := 1) hx hb dX0_addToGroup_11 (by decide) ?_
    refine lv_goto (tgt := 16) hx hb dX0_addToGroup_12 (by decide) ?_
    refine lv_istore_n (lv' := [(2, .int 1), (0, .ref (ad 0)), (1, .int v)]) hx hb dX0_addToGroup_16 rfl hl (by decide) rfl (fun ls hl => ?_)
    refine lv_aload_n hx hb dX0_addToGroup_17 rfl (lv_at hl 1 rfl) ?_
    refine z_get C0 zt_x0 hK hP 0 rfl rfl 14 (by decide) fl_X0_41 rfl dX0_addToGroup_18 ?_
    refine lv_iconst (v := 0) hx hb dX0_addToGroup_21 (by decide) ?_
    refine lv_aload_n hx hb dX0_addToGroup_22 rfl (lv_at hl 1 rfl) ?_
    refine z_get C0 zt_x0 hK hP 0 rfl rfl 14 (by decide) fl_X0_41 rfl dX0_addToGroup_23 ?_
    refine lv_iconst (v := 0) hx hb dX0_addToGroup_26 (by decide) ?_
    refine zx_at C0 (by decide) hK hP hD 6 5 rfl rfl hl.1 (Nat.le_of_ble_eq_true rfl) ⟨by decide, by decide⟩ ⟨Nat.zero_le _, Nat.zero_le _⟩ dX0_addToGroup_27 ?_
    refine z_eq (show (za 4 G 0) = G 0 from (za_at (j := 0) (by decide) (by decide))) ?_
    refine lv_iconst (v := 1) hx hb dX0_addToGroup_30 (by decide) ?_
    refine lv_iadd hx hb dX0_addToGroup_31 ?_
    refine zx_put C0 (by decide) hK hP hD hS hA 6 5 rfl rfl hl.1 (Nat.le_of_ble_eq_true rfl) ⟨by decide, by decide⟩ ⟨Nat.zero_le _, Nat.zero_le _⟩ dX0_addToGroup_32 (fun H locs hP hD hS => ?_)
    have hP : va_P D classes (xw ad cs w n nr K V O M RL (zp 4 G 0 ((G 0) + 1)) fed sp se co op ck cv) H := hP
    have hD : va_D A (xw ad cs w n nr K V O M RL (zp 4 G 0 ((G 0) + 1)) fed sp se co op ck cv) := hD
    rw [show (zp 4 G 0 ((G 0) + 1)) = upd G 0 (G 0 + 1) from zp_at (j := 0) (by decide) (by decide)] at hP hD
    have hP : va_P D classes (xw ad cs w n nr K V O M RL (upd G 0 (G 0 + 1)) fed sp se co op ck cv) H := hP
    have hD : va_D A (xw ad cs w n nr K V O M RL (upd G 0 (G 0 + 1)) fed sp se co op ck cv) := hD
    refine lv_aload_n hx hb dX0_addToGroup_35 rfl (lv_at hl 1 rfl) ?_
    refine z_get C0 zt_x0 hK hP 0 rfl rfl 14 (by decide) fl_X0_41 rfl dX0_addToGroup_36 ?_
    refine lv_iconst (v := 1) hx hb dX0_addToGroup_39 (by decide) ?_
    refine lv_aload_n hx hb dX0_addToGroup_40 rfl (lv_at hl 1 rfl) ?_
    refine z_get C0 zt_x0 hK hP 0 rfl rfl 14 (by decide) fl_X0_41 rfl dX0_addToGroup_41 ?_
    refine lv_iconst (v := 1) hx hb dX0_addToGroup_44 (by decide) ?_
    refine zx_at C0 (by decide) hK hP hD 6 5 rfl rfl hl.1 (Nat.le_of_ble_eq_true rfl) ⟨by decide, by decide⟩ ⟨Nat.zero_le _, Nat.zero_le _⟩ dX0_addToGroup_45 ?_
    refine z_eq (show (za 4 (upd G 0 (G 0 + 1)) 1) = G 1 from (za_at (j := 1) (by decide) (by decide)).trans (upd_ne (by decide))) ?_
    refine lv_iload_n hx hb dX0_addToGroup_48 rfl (lv_at hl 2 rfl) ?_
    refine lv_iadd hx hb dX0_addToGroup_49 ?_
    refine zx_put C0 (by decide) hK hP hD hS hA 6 5 rfl rfl hl.1 (Nat.le_of_ble_eq_true rfl) ⟨by decide, by decide⟩ ⟨Nat.zero_le _, Nat.zero_le _⟩ dX0_addToGroup_50 (fun H locs hP hD hS => ?_)
    have hP : va_P D classes (xw ad cs w n nr K V O M RL (zp 4 (upd G 0 (G 0 + 1)) 1 ((G 1) + v)) fed sp se co op ck cv) H := hP
    have hD : va_D A (xw ad cs w n nr K V O M RL (zp 4 (upd G 0 (G 0 + 1)) 1 ((G 1) + v)) fed sp se co op ck cv) := hD
    rw [show (zp 4 (upd G 0 (G 0 + 1)) 1 ((G 1) + v)) = upd (upd G 0 (G 0 + 1)) 1 (G 1 + v) from zp_at (j := 1) (by decide) (by decide)] at hP hD
    have hP : va_P D classes (xw ad cs w n nr K V O M RL (upd (upd G 0 (G 0 + 1)) 1 (G 1 + v)) fed sp se co op ck cv) H := hP
    have hD : va_D A (xw ad cs w n nr K V O M RL (upd (upd G 0 (G 0 + 1)) 1 (G 1 + v)) fed sp se co op ck cv) := hD
    refine lv_aload_n hx hb dX0_addToGroup_53 rfl (lv_at hl 1 rfl) ?_
    refine z_get C0 zt_x0 hK hP 0 rfl rfl 14 (by decide) fl_X0_41 rfl dX0_addToGroup_54 ?_
    refine lv_iconst (v := 2) hx hb dX0_addToGroup_57 (by decide) ?_
    refine lv_iload_n hx hb dX0_addToGroup_58 rfl (lv_at hl 0 rfl) ?_
    refine lv_if_eq (tgt := 66) hx hb dX0_addToGroup_59 (by decide) (fun hz => False.elim (absurd hz (by decide))) (fun hz => ?_)
    refine lv_iload_n hx hb dX0_addToGroup_62 rfl (lv_at hl 2 rfl) ?_
    refine lv_goto (tgt := 78) hx hb dX0_addToGroup_63 (by decide) ?_
    refine zx_put C0 (by decide) hK hP hD hS hA 6 5 rfl rfl hl.1 (Nat.le_of_ble_eq_true rfl) ⟨by decide, by decide⟩ ⟨Nat.zero_le _, Nat.zero_le _⟩ dX0_addToGroup_78 (fun H locs hP hD hS => ?_)
    have hP : va_P D classes (xw ad cs w n nr K V O M RL (zp 4 (upd (upd G 0 (G 0 + 1)) 1 (G 1 + v)) 2 v) fed sp se co op ck cv) H := hP
    have hD : va_D A (xw ad cs w n nr K V O M RL (zp 4 (upd (upd G 0 (G 0 + 1)) 1 (G 1 + v)) 2 v) fed sp se co op ck cv) := hD
    rw [show (zp 4 (upd (upd G 0 (G 0 + 1)) 1 (G 1 + v)) 2 v) = upd (upd (upd G 0 (G 0 + 1)) 1 (G 1 + v)) 2 (v) from zp_at (j := 2) (by decide) (by decide)] at hP hD
    have hP : va_P D classes (xw ad cs w n nr K V O M RL (upd (upd (upd G 0 (G 0 + 1)) 1 (G 1 + v)) 2 (v)) fed sp se co op ck cv) H := hP
    have hD : va_D A (xw ad cs w n nr K V O M RL (upd (upd (upd G 0 (G 0 + 1)) 1 (G 1 + v)) 2 (v)) fed sp se co op ck cv) := hD
    refine lv_aload_n hx hb dX0_addToGroup_81 rfl (lv_at hl 1 rfl) ?_
    refine z_get C0 zt_x0 hK hP 0 rfl rfl 14 (by decide) fl_X0_41 rfl dX0_addToGroup_82 ?_
    refine lv_iconst (v := 3) hx hb dX0_addToGroup_85 (by decide) ?_
    refine lv_iload_n hx hb dX0_addToGroup_86 rfl (lv_at hl 0 rfl) ?_
    refine lv_if_eq (tgt := 94) hx hb dX0_addToGroup_87 (by decide) (fun hz => False.elim (absurd hz (by decide))) (fun hz => ?_)
    refine lv_iload_n hx hb dX0_addToGroup_90 rfl (lv_at hl 2 rfl) ?_
    refine lv_goto (tgt := 106) hx hb dX0_addToGroup_91 (by decide) ?_
    refine zx_put C0 (by decide) hK hP hD hS hA 6 5 rfl rfl hl.1 (Nat.le_of_ble_eq_true rfl) ⟨by decide, by decide⟩ ⟨Nat.zero_le _, Nat.zero_le _⟩ dX0_addToGroup_106 (fun H locs hP hD hS => ?_)
    have hP : va_P D classes (xw ad cs w n nr K V O M RL (zp 4 (upd (upd (upd G 0 (G 0 + 1)) 1 (G 1 + v)) 2 (v)) 3 v) fed sp se co op ck cv) H := hP
    have hD : va_D A (xw ad cs w n nr K V O M RL (zp 4 (upd (upd (upd G 0 (G 0 + 1)) 1 (G 1 + v)) 2 (v)) 3 v) fed sp se co op ck cv) := hD
    rw [show (zp 4 (upd (upd (upd G 0 (G 0 + 1)) 1 (G 1 + v)) 2 (v)) 3 v) = upd (upd (upd (upd G 0 (G 0 + 1)) 1 (G 1 + v)) 2 (v)) 3 (v) from zp_at (j := 3) (by decide) (by decide)] at hP hD
    have hP : va_P D classes (xw ad cs w n nr K V O M RL (upd (upd (upd (upd G 0 (G 0 + 1)) 1 (G 1 + v)) 2 (v)) 3 (v)) fed sp se co op ck cv) H := hP
    have hD : va_D A (xw ad cs w n nr K V O M RL (upd (upd (upd (upd G 0 (G 0 + 1)) 1 (G 1 + v)) 2 (v)) 3 (v)) fed sp se co op ck cv) := hD
    exact hret (upd (upd (upd (upd G 0 (G 0 + 1)) 1 (G 1 + v)) 2 (v)) 3 (v)) _ _ _ _ hP hD hS (by refine ⟨?_, ?_, ?_, ?_⟩ <;> simp [upd, c1]) dX0_addToGroup_109
abbrev rX_seal : Room := { frames := 5, cells := 0, slots := 0, locals := 112 }
set_option maxHeartbeats 4000000 in
set_option maxRecDepth 100000 in
theorem c_seal (l : Launch) (D : va_G) (ad : Nat → Nat) (cs : Nat → ClassId) (w n nr : Nat) (hn : n < 2 ^ 31) (hnr : nr < 2 ^ 31) (K V O M RL G : Nat → Int32) (co op ck cv : Int32) (r f : Nat) (hn2 : n < 2 ^ 29) (hw0 : 0 < w) (hw1 : w < 2 ^ 29) (hO : xO w n K O r f) (hrf : 0 < f → r * w < f) (hr2 : r < 2 ^ 29) (hrn : rnn r f ≤ nr) (hcap : f ≤ w * 2048) : ZI (S := ((Nat → Int32) × (Nat → Int32) × (Nat → Int32))) l yX0_seal cX0_seal 1 rX_seal D classes (xt cs) [.ref (ad 0)] (xw ad cs w n nr K V O M RL G (nI f) (nI r) 0 co op ck cv) (fun v u => v = 0 ∧ ∃ o, xF K u.1 f o ∧ xR w r f 0 o u.2.2 (nI (rnn r f))) (fun u => xw ad cs w n nr K V u.1 u.2.1 u.2.2 G (nI f) (nI r) 1 co (nI (rnn r f)) ck cv) := by
  refine ZI.of (by decide +kernel) (Nat.le_of_ble_eq_true rfl) ?_
  intro p e s m args below meth c A Q ls C0 hK hP hD hS hA hl hret
  have hx := C0.1
  have hb := C0.2.1
  have hl : lv_has ls 1 [(0, .ref (ad 0))] := hl
  obtain ⟨ho1, ho2, ho3, -⟩ := id hO
  refine lv_aload_n hx hb dX0_seal_0 rfl (lv_at hl 0 rfl) ?_
  refine z_get C0 zt_x0 hK hP 0 rfl rfl 9 (by decide) fl_X0_50 rfl dX0_seal_1 ?_
  refine lv_if_eq (tgt := 10) hx hb dX0_seal_4 (by decide) (fun hz => ?_) (fun hz => False.elim (hz rfl))
  refine lv_aload_n hx hb dX0_seal_10 rfl (lv_at hl 0 rfl) ?_
  refine zv_callV0 (As := []) (rest := []) (q0 := 0) (ci := 0) C0 (c_sortWorkArea l D ad cs w n nr hn hnr K V O M RL G 0 co op ck cv r f ho3 hn2 ho1 (xO_id hO)) zv_X0_X0_sortWorkArea ⟨by decide, by decide⟩ ⟨rfl, rfl⟩ rfl hK hP hD hS hA rfl rfl rfl hl.1 rfl (Nat.le_of_ble_eq_true rfl) dX0_seal_11 ⟨Nat.zero_le _, Nat.zero_le _⟩ (fun O1 H locs hs hP hD hS => ?_)
  have hP : va_P D classes (xw ad cs w n nr K V O1 M RL G (nI f) (nI r) 0 co op ck cv) H := hP
  have hD : va_D A (xw ad cs w n nr K V O1 M RL G (nI f) (nI r) 0 co op ck cv) := hD
  refine lv_aload_n hx hb dX0_seal_14 rfl (lv_at hl 0 rfl) ?_
  refine zv_callV0 (As := []) (rest := []) (q0 := 0) (ci := 0) C0 (c_countRowsOfRuns l D ad cs w n nr hn hnr K V O1 M RL G 0 co op ck cv r f ho3 hn2 hw0 hw1 ho1 hr2 hrn) zv_X0_X0_countRowsOfRuns ⟨by decide, by decide⟩ ⟨rfl, rfl⟩ rfl hK hP hD hS hA rfl rfl rfl hl.1 rfl (Nat.le_of_ble_eq_true rfl) dX0_seal_15 ⟨Nat.zero_le _, Nat.zero_le _⟩ (fun RL1 H locs hc hP hD hS => ?_)
  have hP : va_P D classes (xw ad cs w n nr K V O1 M RL1 G (nI f) (nI r) 0 co (nI (rnn r f)) ck cv) H := hP
  have hD : va_D A (xw ad cs w n nr K V O1 M RL1 G (nI f) (nI r) 0 co (nI (rnn r f)) ck cv) := hD
  refine lv_aload_n hx hb dX0_seal_18 rfl (lv_at hl 0 rfl) ?_
  refine zv_callV0 (As := []) (rest := []) (q0 := 0) (ci := 0) C0 (c_mergeRuns l D ad cs w n nr hn hnr K V O1 M RL1 G (nI r) 0 co (nI (rnn r f)) ck cv f ho3 hn2 hw0 hw1 hcap (xM_of hO hs)) zv_X0_X0_mergeRuns ⟨by decide, by decide⟩ ⟨rfl, rfl⟩ rfl hK hP hD hS hA rfl rfl rfl hl.1 rfl (Nat.le_of_ble_eq_true rfl) dX0_seal_19 ⟨Nat.zero_le _, Nat.zero_le _⟩ (fun u1 H locs hm hP hD hS => ?_)
  obtain ⟨o, hm⟩ := hm
  have hP : va_P D classes (xw ad cs w n nr K V u1.1 u1.2 RL1 G (nI f) (nI r) 0 co (nI (rnn r f)) ck cv) H := hP
  have hD : va_D A (xw ad cs w n nr K V u1.1 u1.2 RL1 G (nI f) (nI r) 0 co (nI (rnn r f)) ck cv) := hD
  refine lv_aload_n hx hb dX0_seal_22 rfl (lv_at hl 0 rfl) ?_
  refine lv_iconst (v := 1) hx hb dX0_seal_23 (by decide) ?_
  refine z_put (ty := .boolean) C0 zt_x0 tyX0 tyX0_ok nmX0 hK hP hD hS 0 rfl rfl 9 (by decide) fl_X0_50 rfl (by decide +kernel) rfl rfl (Nat.le_of_ble_eq_true rfl) dX0_seal_24 (fun H locs hP hD hS => ?_)
  have hP : va_P D classes (xw ad cs w n nr K V u1.1 u1.2 RL1 G (nI f) (nI r) 1 co (nI (rnn r f)) ck cv) H := hP
  have hD : va_D A (xw ad cs w n nr K V u1.1 u1.2 RL1 G (nI f) (nI r) 1 co (nI (rnn r f)) ck cv) := hD
  refine lv_iconst (v := 0) hx hb dX0_seal_27 (by decide) ?_
  exact hret _ ((u1.1, u1.2, RL1)) _ _ _ _ hP hD hS (⟨rfl, o, hm, xR_0 hw0 hm hrf hc⟩) dX0_seal_28
set_option maxHeartbeats 4000000 in
set_option maxRecDepth 100000 in
theorem c_seal_s (l : Launch) (D : va_G) (ad : Nat → Nat) (cs : Nat → ClassId) (w n nr : Nat) (hn : n < 2 ^ 31) (hnr : nr < 2 ^ 31) (K V O M RL G : Nat → Int32) (fed sp co op ck cv : Int32)   : ZI (S := Unit) l yX0_seal cX0_seal 1 rX_seal D classes (xt cs) [.ref (ad 0)] (xw ad cs w n nr K V O M RL G fed sp 1 co op ck cv) (fun v _ => v = -3) (fun _ => xw ad cs w n nr K V O M RL G fed sp 1 co op ck cv) := by
  refine ZI.of (by decide +kernel) (Nat.le_of_ble_eq_true rfl) ?_
  intro p e s m args below meth c A Q ls C0 hK hP hD hS hA hl hret
  have hx := C0.1
  have hb := C0.2.1
  have hl : lv_has ls 1 [(0, .ref (ad 0))] := hl
  refine lv_aload_n hx hb dX0_seal_0 rfl (lv_at hl 0 rfl) ?_
  refine z_get C0 zt_x0 hK hP 0 rfl rfl 9 (by decide) fl_X0_50 rfl dX0_seal_1 ?_
  refine lv_if_eq (tgt := 10) hx hb dX0_seal_4 (by decide) (fun hz => False.elim (absurd hz (by decide))) (fun hz => ?_)
  refine lv_bipush (v := -3) hx hb dX0_seal_7 (by decide) ?_
  exact hret _ (()) _ _ _ _ hP hD hS (rfl) dX0_seal_9
abbrev rX_feed : Room := { frames := 5, cells := 0, slots := 0, locals := 111 }
set_option maxHeartbeats 4000000 in
set_option maxRecDepth 100000 in
theorem c_feed (l : Launch) (D : va_G) (ad : Nat → Nat) (cs : Nat → ClassId) (w n nr : Nat) (hn : n < 2 ^ 31) (hnr : nr < 2 ^ 31) (K V O M RL G : Nat → Int32) (co op ck cv : Int32) (key val : Int32) (r f : Nat) (hf : f < n) (hn2 : n < 2 ^ 29) (hw0 : 0 < w) (hw1 : w < 2 ^ 29) (hO : xO w n K O r f) : ZI (S := ((Nat → Int32) × Nat)) l yX0_feed cX0_feed 3 rX_feed D classes (xt cs) [.ref (ad 0), .int key, .int val] (xw ad cs w n nr K V O M RL G (nI f) (nI r) 0 co op ck cv) (fun v u => v = 0 ∧ u.2 = rnx w r f ∧ xO w n (upd K f key) u.1 u.2 (f + 1)) (fun u => xw ad cs w n nr (upd K f key) (upd V f val) u.1 M RL G (nI (f + 1)) (nI u.2) 0 co op ck cv) := by
  refine ZI.of (by decide +kernel) (Nat.le_of_ble_eq_true rfl) ?_
  intro p e s m args below meth c A Q ls C0 hK hP hD hS hA hl hret
  have hx := C0.1
  have hb := C0.2.1
  have hl : lv_has ls 3 [(0, .ref (ad 0)), (1, .int key), (2, .int val)] := hl
  refine lv_aload_n hx hb dX0_feed_0 rfl (lv_at hl 0 rfl) ?_
  refine z_get C0 zt_x0 hK hP 0 rfl rfl 9 (by decide) fl_X0_50 rfl dX0_feed_1 ?_
  refine lv_if_eq (tgt := 10) hx hb dX0_feed_4 (by decide) (fun hz => ?_) (fun hz => False.elim (hz rfl))
  refine lv_aload_n hx hb dX0_feed_10 rfl (lv_at hl 0 rfl) ?_
  refine z_get C0 zt_x0 hK hP 0 rfl rfl 7 (by decide) fl_X0_44 rfl dX0_feed_11 ?_
  refine lv_aload_n hx hb dX0_feed_14 rfl (lv_at hl 0 rfl) ?_
  refine z_get C0 zt_x0 hK hP 0 rfl rfl 1 (by decide) fl_X0_22 rfl dX0_feed_15 ?_
  refine lv_icmp_lt (tgt := 24) hx hb dX0_feed_18 (by decide) (fun c1 => ?_) (fun c1 => False.elim (c1 (nI_lt hf (by omega))))
  refine lv_aload_n hx hb dX0_feed_24 rfl (lv_at hl 0 rfl) ?_
  refine lv_iload_n hx hb dX0_feed_25 rfl (lv_at hl 1 rfl) ?_
  refine lv_iload_n hx hb dX0_feed_26 rfl (lv_at hl 2 rfl) ?_
  refine zv_callV0 (As := [.int key, .int val]) (rest := []) (q0 := 0) (ci := 0) C0 (c_append l D ad cs w n nr hn hnr K V O M RL G 0 co op ck cv key val r f hf hn2 hw0 hw1 hO) zv_X0_X0_append ⟨by decide, by decide⟩ ⟨rfl, rfl⟩ rfl hK hP hD hS hA rfl rfl rfl hl.1 rfl (Nat.le_of_ble_eq_true rfl) dX0_feed_27 ⟨Nat.zero_le _, Nat.zero_le _⟩ (fun u1 H locs hj hP hD hS => ?_)
  have hP : va_P D classes (xw ad cs w n nr (upd K f key) (upd V f val) u1.1 M RL G (nI (f + 1)) (nI u1.2) 0 co op ck cv) H := hP
  have hD : va_D A (xw ad cs w n nr (upd K f key) (upd V f val) u1.1 M RL G (nI (f + 1)) (nI u1.2) 0 co op ck cv) := hD
  refine lv_iconst (v := 0) hx hb dX0_feed_30 (by decide) ?_
  exact hret _ (u1) _ _ _ _ hP hD hS (⟨rfl, hj⟩) dX0_feed_31
set_option maxHeartbeats 4000000 in
set_option maxRecDepth 100000 in
theorem c_feed_s (l : Launch) (D : va_G) (ad : Nat → Nat) (cs : Nat → ClassId) (w n nr : Nat) (hn : n < 2 ^ 31) (hnr : nr < 2 ^ 31) (K V O M RL G : Nat → Int32) (fed sp co op ck cv : Int32) (key val : Int32)  : ZI (S := Unit) l yX0_feed cX0_feed 3 rX_feed D classes (xt cs) [.ref (ad 0), .int key, .int val] (xw ad cs w n nr K V O M RL G fed sp 1 co op ck cv) (fun v _ => v = -3) (fun _ => xw ad cs w n nr K V O M RL G fed sp 1 co op ck cv) := by
  refine ZI.of (by decide +kernel) (Nat.le_of_ble_eq_true rfl) ?_
  intro p e s m args below meth c A Q ls C0 hK hP hD hS hA hl hret
  have hx := C0.1
  have hb := C0.2.1
  have hl : lv_has ls 3 [(0, .ref (ad 0)), (1, .int key), (2, .int val)] := hl
  refine lv_aload_n hx hb dX0_feed_0 rfl (lv_at hl 0 rfl) ?_
  refine z_get C0 zt_x0 hK hP 0 rfl rfl 9 (by decide) fl_X0_50 rfl dX0_feed_1 ?_
  refine lv_if_eq (tgt := 10) hx hb dX0_feed_4 (by decide) (fun hz => False.elim (absurd hz (by decide))) (fun hz => ?_)
  refine lv_bipush (v := -3) hx hb dX0_feed_7 (by decide) ?_
  exact hret _ (()) _ _ _ _ hP hD hS (rfl) dX0_feed_9
set_option maxHeartbeats 4000000 in
set_option maxRecDepth 100000 in
theorem c_feed_f (l : Launch) (D : va_G) (ad : Nat → Nat) (cs : Nat → ClassId) (w n nr : Nat) (hn : n < 2 ^ 31) (hnr : nr < 2 ^ 31) (K V O M RL G : Nat → Int32) (sp co op ck cv : Int32) (key val : Int32)  : ZI (S := Unit) l yX0_feed cX0_feed 3 rX_feed D classes (xt cs) [.ref (ad 0), .int key, .int val] (xw ad cs w n nr K V O M RL G (nI n) sp 0 co op ck cv) (fun v _ => v = -2) (fun _ => xw ad cs w n nr K V O M RL G (nI n) sp 0 co op ck cv) := by
  refine ZI.of (by decide +kernel) (Nat.le_of_ble_eq_true rfl) ?_
  intro p e s m args below meth c A Q ls C0 hK hP hD hS hA hl hret
  have hx := C0.1
  have hb := C0.2.1
  have hl : lv_has ls 3 [(0, .ref (ad 0)), (1, .int key), (2, .int val)] := hl
  refine lv_aload_n hx hb dX0_feed_0 rfl (lv_at hl 0 rfl) ?_
  refine z_get C0 zt_x0 hK hP 0 rfl rfl 9 (by decide) fl_X0_50 rfl dX0_feed_1 ?_
  refine lv_if_eq (tgt := 10) hx hb dX0_feed_4 (by decide) (fun hz => ?_) (fun hz => False.elim (hz rfl))
  refine lv_aload_n hx hb dX0_feed_10 rfl (lv_at hl 0 rfl) ?_
  refine z_get C0 zt_x0 hK hP 0 rfl rfl 7 (by decide) fl_X0_44 rfl dX0_feed_11 ?_
  refine lv_aload_n hx hb dX0_feed_14 rfl (lv_at hl 0 rfl) ?_
  refine z_get C0 zt_x0 hK hP 0 rfl rfl 1 (by decide) fl_X0_22 rfl dX0_feed_15 ?_
  refine lv_icmp_lt (tgt := 24) hx hb dX0_feed_18 (by decide) (fun c1 => False.elim (nI_nlt (Nat.le_refl n) hn c1)) (fun c1 => ?_)
  refine lv_bipush (v := -2) hx hb dX0_feed_21 (by decide) ?_
  exact hret _ (()) _ _ _ _ hP hD hS (rfl) dX0_feed_23
abbrev rX_nextRow : Room := { frames := 2, cells := 0, slots := 0, locals := 45 }
set_option maxHeartbeats 4000000 in
set_option maxRecDepth 100000 in
theorem c_nextRow (l : Launch) (D : va_G) (ad : Nat → Nat) (cs : Nat → ClassId) (w n nr : Nat) (hn : n < 2 ^ 31) (hnr : nr < 2 ^ 31) (K V O M RL G : Nat → Int32) (sp op ck cv : Int32) (r f c0 : Nat) (o : Nat → Nat) (hf : f ≤ n) (hn2 : n < 2 ^ 29) (hw0 : 0 < w) (hw1 : w < 2 ^ 29) (hF : xF K O f o) (hR : xR w r f c0 o RL op) (hfr : f ≤ r * w + w) (hrn : rnn r f ≤ nr) (hc : c0 < f) : ZI (S := ((Nat → Int32) × (Nat → Int32) × Int32)) l yX0_nextRow cX0_nextRow 1 rX_nextRow D classes (xt cs) [.ref (ad 0)] (xw ad cs w n nr K V O M RL G (nI f) sp 1 (nI c0) op ck cv) (fun v u => v = 1 ∧ (∀ j, j < 4 → u.1 j = 0) ∧ xR w r f (c0 + 1) o u.2.1 u.2.2) (fun u => xw ad cs w n nr K V O M u.2.1 u.1 (nI f) sp 1 (nI (c0 + 1)) u.2.2 (K (o c0)) (V (o c0))) := by
  refine ZI.of (by decide +kernel) (Nat.le_of_ble_eq_true rfl) ?_
  intro p e s m args below meth c A Q ls C0 hK hP hD hS hA hl hret
  have hx := C0.1
  have hb := C0.2.1
  have hl : lv_has ls 1 [(0, .ref (ad 0))] := hl
  refine lv_aload_n hx hb dX0_nextRow_0 rfl (lv_at hl 0 rfl) ?_
  refine z_get C0 zt_x0 hK hP 0 rfl rfl 9 (by decide) fl_X0_50 rfl dX0_nextRow_1 ?_
  refine lv_if_ne (tgt := 10) hx hb dX0_nextRow_4 (by decide) (fun hz => ?_) (fun hz => False.elim (absurd hz (by decide)))
  refine lv_aload_n hx hb dX0_nextRow_10 rfl (lv_at hl 0 rfl) ?_
  refine zv_callV0 (As := []) (rest := []) (q0 := 0) (ci := 0) C0 (c_clearCurrent l D ad cs w n nr hn hnr K V O M RL G (nI f) sp 1 (nI c0) op ck cv) zv_X0_X0_clearCurrent ⟨by decide, by decide⟩ ⟨rfl, rfl⟩ rfl hK hP hD hS hA rfl rfl rfl hl.1 rfl (Nat.le_of_ble_eq_true rfl) dX0_nextRow_11 ⟨Nat.zero_le _, Nat.zero_le _⟩ (fun G1 H locs hg hP hD hS => ?_)
  have hP : va_P D classes (xw ad cs w n nr K V O M RL G1 (nI f) sp 1 (nI c0) op 0 0) H := hP
  have hD : va_D A (xw ad cs w n nr K V O M RL G1 (nI f) sp 1 (nI c0) op 0 0) := hD
  refine lv_aload_n hx hb dX0_nextRow_14 rfl (lv_at hl 0 rfl) ?_
  refine z_get C0 zt_x0 hK hP 0 rfl rfl 10 (by decide) fl_X0_54 rfl dX0_nextRow_15 ?_
  refine lv_aload_n hx hb dX0_nextRow_18 rfl (lv_at hl 0 rfl) ?_
  refine z_get C0 zt_x0 hK hP 0 rfl rfl 7 (by decide) fl_X0_44 rfl dX0_nextRow_19 ?_
  refine lv_icmp_lt (tgt := 27) hx hb dX0_nextRow_22 (by decide) (fun c1 => ?_) (fun c1 => False.elim (c1 (nI_lt hc (by omega))))
  refine lv_aload_n hx hb dX0_nextRow_27 rfl (lv_at hl 0 rfl) ?_
  refine lv_aload_n hx hb dX0_nextRow_28 rfl (lv_at hl 0 rfl) ?_
  refine lv_aload_n hx hb dX0_nextRow_29 rfl (lv_at hl 0 rfl) ?_
  refine z_get C0 zt_x0 hK hP 0 rfl rfl 10 (by decide) fl_X0_54 rfl dX0_nextRow_30 ?_
  refine zr_callV (As := [.int (nI c0)]) (rest := [.ref (ad 0)]) (q0 := 0) (ci := 0) C0 (c_keyOfRow l D ad cs w n nr hn hnr K V O M RL G1 (nI f) sp 1 (nI c0) op 0 0 (nI c0)) zv_X0_X0_keyOfRow ⟨by decide, by decide⟩ ⟨rfl, rfl⟩ rfl hK hP hD rfl rfl rfl hl.1 rfl (Nat.le_of_ble_eq_true rfl) dX0_nextRow_33 ⟨Nat.zero_le _, Nat.zero_le _⟩ (fun r1 er1 => ?_)
  subst er1
  refine z_eq (show (za n K (za n O (nI c0))) = K (o (c0)) from by rw [za_at (by omega) hn, hF.1 _ (by omega), za_at (by have := hF.rng (a := c0) (by omega); omega) hn]) ?_
  refine z_put (ty := .int) C0 zt_x0 tyX0 tyX0_ok nmX0 hK hP hD hS 0 rfl rfl 12 (by decide) fl_X0_87 rfl (by decide +kernel) rfl rfl (Nat.le_of_ble_eq_true rfl) dX0_nextRow_36 (fun H locs hP hD hS => ?_)
  have hP : va_P D classes (xw ad cs w n nr K V O M RL G1 (nI f) sp 1 (nI c0) op (K (o (c0))) 0) H := hP
  have hD : va_D A (xw ad cs w n nr K V O M RL G1 (nI f) sp 1 (nI c0) op (K (o (c0))) 0) := hD
  refine lv_aload_n hx hb dX0_nextRow_39 rfl (lv_at hl 0 rfl) ?_
  refine lv_aload_n hx hb dX0_nextRow_40 rfl (lv_at hl 0 rfl) ?_
  refine lv_aload_n hx hb dX0_nextRow_41 rfl (lv_at hl 0 rfl) ?_
  refine z_get C0 zt_x0 hK hP 0 rfl rfl 10 (by decide) fl_X0_54 rfl dX0_nextRow_42 ?_
  refine zr_callV (As := [.int (nI c0)]) (rest := [.ref (ad 0)]) (q0 := 0) (ci := 0) C0 (c_valueOfRow l D ad cs w n nr hn hnr K V O M RL G1 (nI f) sp 1 (nI c0) op (K (o (c0))) 0 (nI c0)) zv_X0_X0_valueOfRow ⟨by decide, by decide⟩ ⟨rfl, rfl⟩ rfl hK hP hD rfl rfl rfl hl.1 rfl (Nat.le_of_ble_eq_true rfl) dX0_nextRow_45 ⟨Nat.zero_le _, Nat.zero_le _⟩ (fun r2 er2 => ?_)
  subst er2
  refine z_eq (show (za n V (za n O (nI c0))) = V (o (c0)) from by rw [za_at (by omega) hn, hF.1 _ (by omega), za_at (by have := hF.rng (a := c0) (by omega); omega) hn]) ?_
  refine z_put (ty := .int) C0 zt_x0 tyX0 tyX0_ok nmX0 hK hP hD hS 0 rfl rfl 13 (by decide) fl_X0_93 rfl (by decide +kernel) rfl rfl (Nat.le_of_ble_eq_true rfl) dX0_nextRow_48 (fun H locs hP hD hS => ?_)
  have hP : va_P D classes (xw ad cs w n nr K V O M RL G1 (nI f) sp 1 (nI c0) op (K (o (c0))) (V (o (c0)))) H := hP
  have hD : va_D A (xw ad cs w n nr K V O M RL G1 (nI f) sp 1 (nI c0) op (K (o (c0))) (V (o (c0)))) := hD
  refine lv_aload_n hx hb dX0_nextRow_51 rfl (lv_at hl 0 rfl) ?_
  refine lv_aload_n hx hb dX0_nextRow_52 rfl (lv_at hl 0 rfl) ?_
  refine z_get C0 zt_x0 hK hP 0 rfl rfl 10 (by decide) fl_X0_54 rfl dX0_nextRow_53 ?_
  have hoc := hF.rng (a := c0) (by omega)
  obtain ⟨t1, t2, t3⟩ := xR_take hR hw0 (show c0 < f by omega) hfr hoc (by omega)
  refine zv_callV0 (As := [.int (nI c0)]) (rest := []) (q0 := 0) (ci := 0) C0 (c_takeFromRun l D ad cs w n nr hn hnr K V O M RL G1 (nI f) sp 1 (nI c0) op (K (o (c0))) (V (o (c0))) (c0) (o (c0)) (px_cnt (rw_P w (o (c0) / w)) o (c0 + 1) (f - (c0 + 1))) hw0 hw1 (by omega) (hF.1 _ (by omega)) (by omega) (by have := px_cnt_le (P := rw_P w (o (c0) / w)) (o := o) (lo := c0 + 1) (f - (c0 + 1)); omega) (by omega) t2) zv_X0_X0_takeFromRun ⟨by decide, by decide⟩ ⟨rfl, rfl⟩ rfl hK hP hD hS hA rfl rfl rfl hl.1 rfl (Nat.le_of_ble_eq_true rfl) dX0_nextRow_56 ⟨Nat.zero_le _, Nat.zero_le _⟩ (fun op1 H locs ht hP hD hS => ?_)
  rw [← ht] at t3
  have hP : va_P D classes (xw ad cs w n nr K V O M (upd RL (o (c0) / w) (nI (px_cnt (rw_P w (o (c0) / w)) o (c0 + 1) (f - (c0 + 1))))) G1 (nI f) sp 1 (nI c0) op1 (K (o (c0))) (V (o (c0)))) H := hP
  have hD : va_D A (xw ad cs w n nr K V O M (upd RL (o (c0) / w) (nI (px_cnt (rw_P w (o (c0) / w)) o (c0 + 1) (f - (c0 + 1))))) G1 (nI f) sp 1 (nI c0) op1 (K (o (c0))) (V (o (c0)))) := hD
  refine lv_aload_n hx hb dX0_nextRow_59 rfl (lv_at hl 0 rfl) ?_
  refine lv_dup hx hb dX0_nextRow_60 rfl ?_
  refine z_get C0 zt_x0 hK hP 0 rfl rfl 10 (by decide) fl_X0_54 rfl dX0_nextRow_61 ?_
  refine lv_iconst (v := 1) hx hb dX0_nextRow_64 (by decide) ?_
  refine lv_iadd hx hb dX0_nextRow_65 ?_
  refine z_eq (show ((nI c0) + 1) = nI (c0 + 1) from nI_1 c0) ?_
  refine z_put (ty := .int) C0 zt_x0 tyX0 tyX0_ok nmX0 hK hP hD hS 0 rfl rfl 10 (by decide) fl_X0_54 rfl (by decide +kernel) rfl rfl (Nat.le_of_ble_eq_true rfl) dX0_nextRow_66 (fun H locs hP hD hS => ?_)
  have hP : va_P D classes (xw ad cs w n nr K V O M (upd RL (o (c0) / w) (nI (px_cnt (rw_P w (o (c0) / w)) o (c0 + 1) (f - (c0 + 1))))) G1 (nI f) sp 1 (nI (c0 + 1)) op1 (K (o (c0))) (V (o (c0)))) H := hP
  have hD : va_D A (xw ad cs w n nr K V O M (upd RL (o (c0) / w) (nI (px_cnt (rw_P w (o (c0) / w)) o (c0 + 1) (f - (c0 + 1))))) G1 (nI f) sp 1 (nI (c0 + 1)) op1 (K (o (c0))) (V (o (c0)))) := hD
  refine lv_iconst (v := 1) hx hb dX0_nextRow_69 (by decide) ?_
  exact hret _ ((G1, upd RL (o (c0) / w) (nI (px_cnt (rw_P w (o (c0) / w)) o (c0 + 1) (f - (c0 + 1)))), op1)) _ _ _ _ hP hD hS (⟨rfl, hg, t3⟩) dX0_nextRow_70
set_option maxHeartbeats 4000000 in
set_option maxRecDepth 100000 in
theorem c_nextRow_u (l : Launch) (D : va_G) (ad : Nat → Nat) (cs : Nat → ClassId) (w n nr : Nat) (hn : n < 2 ^ 31) (hnr : nr < 2 ^ 31) (K V O M RL G : Nat → Int32) (fed sp co op ck cv : Int32)   : ZI (S := Unit) l yX0_nextRow cX0_nextRow 1 rX_nextRow D classes (xt cs) [.ref (ad 0)] (xw ad cs w n nr K V O M RL G fed sp 0 co op ck cv) (fun v _ => v = -4) (fun _ => xw ad cs w n nr K V O M RL G fed sp 0 co op ck cv) := by
  refine ZI.of (by decide +kernel) (Nat.le_of_ble_eq_true rfl) ?_
  intro p e s m args below meth c A Q ls C0 hK hP hD hS hA hl hret
  have hx := C0.1
  have hb := C0.2.1
  have hl : lv_has ls 1 [(0, .ref (ad 0))] := hl
  refine lv_aload_n hx hb dX0_nextRow_0 rfl (lv_at hl 0 rfl) ?_
  refine z_get C0 zt_x0 hK hP 0 rfl rfl 9 (by decide) fl_X0_50 rfl dX0_nextRow_1 ?_
  refine lv_if_ne (tgt := 10) hx hb dX0_nextRow_4 (by decide) (fun hz => False.elim (hz rfl)) (fun hz => ?_)
  refine lv_bipush (v := -4) hx hb dX0_nextRow_7 (by decide) ?_
  exact hret _ (()) _ _ _ _ hP hD hS (rfl) dX0_nextRow_9
set_option maxHeartbeats 4000000 in
set_option maxRecDepth 100000 in
theorem c_nextRow_e (l : Launch) (D : va_G) (ad : Nat → Nat) (cs : Nat → ClassId) (w n nr : Nat) (hn : n < 2 ^ 31) (hnr : nr < 2 ^ 31) (K V O M RL G : Nat → Int32) (sp op ck cv : Int32) (f : Nat) (hf : f ≤ n) : ZI (S := (Nat → Int32)) l yX0_nextRow cX0_nextRow 1 rX_nextRow D classes (xt cs) [.ref (ad 0)] (xw ad cs w n nr K V O M RL G (nI f) sp 1 (nI f) op ck cv) (fun v G1 => v = -1 ∧ ∀ j, j < 4 → G1 j = 0) (fun G1 => xw ad cs w n nr K V O M RL G1 (nI f) sp 1 (nI f) op 0 0) := by
  refine ZI.of (by decide +kernel) (Nat.le_of_ble_eq_true rfl) ?_
  intro p e s m args below meth c A Q ls C0 hK hP hD hS hA hl hret
  have hx := C0.1
  have hb := C0.2.1
  have hl : lv_has ls 1 [(0, .ref (ad 0))] := hl
  refine lv_aload_n hx hb dX0_nextRow_0 rfl (lv_at hl 0 rfl) ?_
  refine z_get C0 zt_x0 hK hP 0 rfl rfl 9 (by decide) fl_X0_50 rfl dX0_nextRow_1 ?_
  refine lv_if_ne (tgt := 10) hx hb dX0_nextRow_4 (by decide) (fun hz => ?_) (fun hz => False.elim (absurd hz (by decide)))
  refine lv_aload_n hx hb dX0_nextRow_10 rfl (lv_at hl 0 rfl) ?_
  refine zv_callV0 (As := []) (rest := []) (q0 := 0) (ci := 0) C0 (c_clearCurrent l D ad cs w n nr hn hnr K V O M RL G (nI f) sp 1 (nI f) op ck cv) zv_X0_X0_clearCurrent ⟨by decide, by decide⟩ ⟨rfl, rfl⟩ rfl hK hP hD hS hA rfl rfl rfl hl.1 rfl (Nat.le_of_ble_eq_true rfl) dX0_nextRow_11 ⟨Nat.zero_le _, Nat.zero_le _⟩ (fun G1 H locs hg hP hD hS => ?_)
  have hP : va_P D classes (xw ad cs w n nr K V O M RL G1 (nI f) sp 1 (nI f) op 0 0) H := hP
  have hD : va_D A (xw ad cs w n nr K V O M RL G1 (nI f) sp 1 (nI f) op 0 0) := hD
  refine lv_aload_n hx hb dX0_nextRow_14 rfl (lv_at hl 0 rfl) ?_
  refine z_get C0 zt_x0 hK hP 0 rfl rfl 10 (by decide) fl_X0_54 rfl dX0_nextRow_15 ?_
  refine lv_aload_n hx hb dX0_nextRow_18 rfl (lv_at hl 0 rfl) ?_
  refine z_get C0 zt_x0 hK hP 0 rfl rfl 7 (by decide) fl_X0_44 rfl dX0_nextRow_19 ?_
  refine lv_icmp_lt (tgt := 27) hx hb dX0_nextRow_22 (by decide) (fun c1 => False.elim (nI_nlt (Nat.le_refl f) (by omega) c1)) (fun c1 => ?_)
  refine lv_iconst (v := -1) hx hb dX0_nextRow_25 (by decide) ?_
  exact hret _ (G1) _ _ _ _ hP hD hS (⟨rfl, hg⟩) dX0_nextRow_26
abbrev rX_nextGroup : Room := { frames := 2, cells := 0, slots := 0, locals := 45 }
set_option maxHeartbeats 4000000 in
set_option maxRecDepth 100000 in
theorem c_nextGroup (l : Launch) (D : va_G) (ad : Nat → Nat) (cs : Nat → ClassId) (w n nr : Nat) (hn : n < 2 ^ 31) (hnr : nr < 2 ^ 31) (K V O M RL G : Nat → Int32) (sp op ck cv : Int32) (r f c0 : Nat) (o : Nat → Nat) (hf : f ≤ n) (hn2 : n < 2 ^ 29) (hw0 : 0 < w) (hw1 : w < 2 ^ 29) (hF : xF K O f o) (hR : xR w r f c0 o RL op) (hfr : f ≤ r * w + w) (hrn : rnn r f ≤ nr) (hc : c0 < f) : ZI (S := ((Nat → Int32) × (Nat → Int32) × Int32 × Nat)) l yX0_nextGroup cX0_nextGroup 1 rX_nextGroup D classes (xt cs) [.ref (ad 0)] (xw ad cs w n nr K V O M RL G (nI f) sp 1 (nI c0) op ck cv) (fun v u => v = 2 ∧ c0 + u.2.2.2 ≤ f ∧ (∀ i, i < u.2.2.2 → K (o (c0 + i)) = K (o c0)) ∧ (c0 + u.2.2.2 = f ∨ ¬ K (o (c0 + u.2.2.2)) = K (o c0)) ∧ (u.1 0, u.1 1, u.1 2, u.1 3) = gs_F V o c0 u.2.2.2 ∧ xR w r f (c0 + u.2.2.2) o u.2.1 u.2.2.1) (fun u => xw ad cs w n nr K V O M u.2.1 u.1 (nI f) sp 1 (nI (c0 + u.2.2.2)) u.2.2.1 (K (o c0)) 0) := by
  refine ZI.of (by decide +kernel) (Nat.le_of_ble_eq_true rfl) ?_
  intro p e s m args below meth c A Q ls C0 hK hP hD hS hA hl hret
  have hx := C0.1
  have hb := C0.2.1
  have hl : lv_has ls 1 [(0, .ref (ad 0))] := hl
  refine lv_aload_n hx hb dX0_nextGroup_0 rfl (lv_at hl 0 rfl) ?_
  refine z_get C0 zt_x0 hK hP 0 rfl rfl 9 (by decide) fl_X0_50 rfl dX0_nextGroup_1 ?_
  refine lv_if_ne (tgt := 10) hx hb dX0_nextGroup_4 (by decide) (fun hz => ?_) (fun hz => False.elim (absurd hz (by decide)))
  refine lv_aload_n hx hb dX0_nextGroup_10 rfl (lv_at hl 0 rfl) ?_
  refine zv_callV0 (As := []) (rest := []) (q0 := 0) (ci := 0) C0 (c_clearCurrent l D ad cs w n nr hn hnr K V O M RL G (nI f) sp 1 (nI c0) op ck cv) zv_X0_X0_clearCurrent ⟨by decide, by decide⟩ ⟨rfl, rfl⟩ rfl hK hP hD hS hA rfl rfl rfl hl.1 rfl (Nat.le_of_ble_eq_true rfl) dX0_nextGroup_11 ⟨Nat.zero_le _, Nat.zero_le _⟩ (fun G1 H locs hg hP hD hS => ?_)
  have hP : va_P D classes (xw ad cs w n nr K V O M RL G1 (nI f) sp 1 (nI c0) op 0 0) H := hP
  have hD : va_D A (xw ad cs w n nr K V O M RL G1 (nI f) sp 1 (nI c0) op 0 0) := hD
  refine lv_aload_n hx hb dX0_nextGroup_14 rfl (lv_at hl 0 rfl) ?_
  refine z_get C0 zt_x0 hK hP 0 rfl rfl 10 (by decide) fl_X0_54 rfl dX0_nextGroup_15 ?_
  refine lv_aload_n hx hb dX0_nextGroup_18 rfl (lv_at hl 0 rfl) ?_
  refine z_get C0 zt_x0 hK hP 0 rfl rfl 7 (by decide) fl_X0_44 rfl dX0_nextGroup_19 ?_
  refine lv_icmp_lt (tgt := 27) hx hb dX0_nextGroup_22 (by decide) (fun c1 => ?_) (fun c1 => False.elim (c1 (nI_lt hc (by omega))))
  refine lv_aload_n hx hb dX0_nextGroup_27 rfl (lv_at hl 0 rfl) ?_
  refine lv_aload_n hx hb dX0_nextGroup_28 rfl (lv_at hl 0 rfl) ?_
  refine lv_aload_n hx hb dX0_nextGroup_29 rfl (lv_at hl 0 rfl) ?_
  refine z_get C0 zt_x0 hK hP 0 rfl rfl 10 (by decide) fl_X0_54 rfl dX0_nextGroup_30 ?_
  refine zr_callV (As := [.int (nI c0)]) (rest := [.ref (ad 0)]) (q0 := 0) (ci := 0) C0 (c_keyOfRow l D ad cs w n nr hn hnr K V O M RL G1 (nI f) sp 1 (nI c0) op 0 0 (nI c0)) zv_X0_X0_keyOfRow ⟨by decide, by decide⟩ ⟨rfl, rfl⟩ rfl hK hP hD rfl rfl rfl hl.1 rfl (Nat.le_of_ble_eq_true rfl) dX0_nextGroup_33 ⟨Nat.zero_le _, Nat.zero_le _⟩ (fun r1 er1 => ?_)
  subst er1
  refine z_eq (show (za n K (za n O (nI c0))) = K (o (c0)) from by rw [za_at (by omega) hn, hF.1 _ (by omega), za_at (by have := hF.rng (a := c0) (by omega); omega) hn]) ?_
  refine z_put (ty := .int) C0 zt_x0 tyX0 tyX0_ok nmX0 hK hP hD hS 0 rfl rfl 12 (by decide) fl_X0_87 rfl (by decide +kernel) rfl rfl (Nat.le_of_ble_eq_true rfl) dX0_nextGroup_36 (fun H locs hP hD hS => ?_)
  have hP : va_P D classes (xw ad cs w n nr K V O M RL G1 (nI f) sp 1 (nI c0) op (K (o (c0))) 0) H := hP
  have hD : va_D A (xw ad cs w n nr K V O M RL G1 (nI f) sp 1 (nI c0) op (K (o (c0))) 0) := hD
  have loop : ∀ (NN : Nat) (mm : Nat) (G2 RL2 : Nat → Int32) (op2 : Int32) (H : Heap) (locs : List Loc) (ls : Array Slot), (c0 + mm ≤ f ∧ (∀ i, i < mm → K (o (c0 + i)) = K (o c0)) ∧ (G2 0, G2 1, G2 2, G2 3) = gs_F V o c0 mm ∧ xR w r f (c0 + mm) o RL2 op2) → f - mm < NN → va_P D classes (xw ad cs w n nr K V O M RL2 G2 (nI f) sp 1 (nI (c0 + mm)) op2 (K (o (c0))) 0) H → va_D A (xw ad cs w n nr K V O M RL2 G2 (nI f) sp 1 (nI (c0 + mm)) op2 (K (o (c0))) 0) → va_S A s.heap H locs → lv_has ls 1 [(0, .ref (ad 0))] → W p l e rX_nextGroup s m args below meth c H locs 0 0 Q (F0 m 39 ls []) := by
    intro N39
    induction N39 with
    | zero => intro mm G2 RL2 op2 H locs ls hI hN; exact absurd hN (Nat.not_lt_zero _)
    | succ N39 ih39 =>
      intro mm G2 RL2 op2 H locs ls hI hN39 hP hD hS hl
      obtain ⟨i1, i2, i3, i4⟩ := hI
      refine lv_aload_n hx hb dX0_nextGroup_39 rfl (lv_at hl 0 rfl) ?_
      refine z_get C0 zt_x0 hK hP 0 rfl rfl 10 (by decide) fl_X0_54 rfl dX0_nextGroup_40 ?_
      refine lv_aload_n hx hb dX0_nextGroup_43 rfl (lv_at hl 0 rfl) ?_
      refine z_get C0 zt_x0 hK hP 0 rfl rfl 7 (by decide) fl_X0_44 rfl dX0_nextGroup_44 ?_
      refine lv_icmp_ge (tgt := 98) hx hb dX0_nextGroup_47 (by decide) (fun c2 => ?_) (fun c2 => ?_)
      · have c2 := zle c2 (by omega) (by omega)
        have hend : c0 + mm = f ∨ ¬ K (o (c0 + mm)) = K (o c0) := Or.inl (by omega)
        refine lv_iconst (v := 2) hx hb dX0_nextGroup_98 (by decide) ?_
        exact hret _ ((G2, RL2, op2, mm)) _ _ _ _ hP hD hS (⟨rfl, i1, i2, hend, i3, i4⟩) dX0_nextGroup_99
      · have c2 := znle c2 (by omega) (by omega)
        refine lv_aload_n hx hb dX0_nextGroup_50 rfl (lv_at hl 0 rfl) ?_
        refine lv_aload_n hx hb dX0_nextGroup_51 rfl (lv_at hl 0 rfl) ?_
        refine z_get C0 zt_x0 hK hP 0 rfl rfl 10 (by decide) fl_X0_54 rfl dX0_nextGroup_52 ?_
        refine zr_callV (As := [.int (nI (c0 + mm))]) (rest := []) (q0 := 0) (ci := 0) C0 (c_keyOfRow l D ad cs w n nr hn hnr K V O M RL2 G2 (nI f) sp 1 (nI (c0 + mm)) op2 (K (o (c0))) 0 (nI (c0 + mm))) zv_X0_X0_keyOfRow ⟨by decide, by decide⟩ ⟨rfl, rfl⟩ rfl hK hP hD rfl rfl rfl hl.1 rfl (Nat.le_of_ble_eq_true rfl) dX0_nextGroup_55 ⟨Nat.zero_le _, Nat.zero_le _⟩ (fun r2 er2 => ?_)
        subst er2
        refine z_eq (show (za n K (za n O (nI (c0 + mm)))) = K (o (c0 + mm)) from by rw [za_at (by omega) hn, hF.1 _ (by omega), za_at (by have := hF.rng (a := c0 + mm) (by omega); omega) hn]) ?_
        refine lv_aload_n hx hb dX0_nextGroup_58 rfl (lv_at hl 0 rfl) ?_
        refine z_get C0 zt_x0 hK hP 0 rfl rfl 12 (by decide) fl_X0_87 rfl dX0_nextGroup_59 ?_
        refine lv_icmp_ne (tgt := 98) hx hb dX0_nextGroup_62 (by decide) (fun c3 => ?_) (fun c3 => ?_)
        · have hend : c0 + mm = f ∨ ¬ K (o (c0 + mm)) = K (o c0) := Or.inr c3
          refine lv_iconst (v := 2) hx hb dX0_nextGroup_98 (by decide) ?_
          exact hret _ ((G2, RL2, op2, mm)) _ _ _ _ hP hD hS (⟨rfl, i1, i2, hend, i3, i4⟩) dX0_nextGroup_99
        · refine lv_aload_n hx hb dX0_nextGroup_65 rfl (lv_at hl 0 rfl) ?_
          refine lv_aload_n hx hb dX0_nextGroup_66 rfl (lv_at hl 0 rfl) ?_
          refine lv_aload_n hx hb dX0_nextGroup_67 rfl (lv_at hl 0 rfl) ?_
          refine z_get C0 zt_x0 hK hP 0 rfl rfl 10 (by decide) fl_X0_54 rfl dX0_nextGroup_68 ?_
          refine zr_callV (As := [.int (nI (c0 + mm))]) (rest := [.ref (ad 0)]) (q0 := 0) (ci := 0) C0 (c_valueOfRow l D ad cs w n nr hn hnr K V O M RL2 G2 (nI f) sp 1 (nI (c0 + mm)) op2 (K (o (c0))) 0 (nI (c0 + mm))) zv_X0_X0_valueOfRow ⟨by decide, by decide⟩ ⟨rfl, rfl⟩ rfl hK hP hD rfl rfl rfl hl.1 rfl (Nat.le_of_ble_eq_true rfl) dX0_nextGroup_71 ⟨Nat.zero_le _, Nat.zero_le _⟩ (fun r3 er3 => ?_)
          subst er3
          refine z_eq (show (za n V (za n O (nI (c0 + mm)))) = V (o (c0 + mm)) from by rw [za_at (by omega) hn, hF.1 _ (by omega), za_at (by have := hF.rng (a := c0 + mm) (by omega); omega) hn]) ?_
          refine zv_callV0 (As := [.int (V (o (c0 + mm)))]) (rest := []) (q0 := 0) (ci := 0) C0 (c_addToGroup l D ad cs w n nr hn hnr K V O M RL2 G2 (nI f) sp 1 (nI (c0 + mm)) op2 (K (o (c0))) 0 (V (o (c0 + mm)))) zv_X0_X0_addToGroup ⟨by decide, by decide⟩ ⟨rfl, rfl⟩ rfl hK hP hD hS hA rfl rfl rfl hl.1 rfl (Nat.le_of_ble_eq_true rfl) dX0_nextGroup_74 ⟨Nat.zero_le _, Nat.zero_le _⟩ (fun G3 H locs ha hP hD hS => ?_)
          have hP : va_P D classes (xw ad cs w n nr K V O M RL2 G3 (nI f) sp 1 (nI (c0 + mm)) op2 (K (o (c0))) 0) H := hP
          have hD : va_D A (xw ad cs w n nr K V O M RL2 G3 (nI f) sp 1 (nI (c0 + mm)) op2 (K (o (c0))) 0) := hD
          refine lv_aload_n hx hb dX0_nextGroup_77 rfl (lv_at hl 0 rfl) ?_
          refine lv_aload_n hx hb dX0_nextGroup_78 rfl (lv_at hl 0 rfl) ?_
          refine z_get C0 zt_x0 hK hP 0 rfl rfl 10 (by decide) fl_X0_54 rfl dX0_nextGroup_79 ?_
          have hoc := hF.rng (a := c0 + mm) (by omega)
          obtain ⟨t1, t2, t3⟩ := xR_take i4 hw0 (show c0 + mm < f by omega) hfr hoc (by omega)
          refine zv_callV0 (As := [.int (nI (c0 + mm))]) (rest := []) (q0 := 0) (ci := 0) C0 (c_takeFromRun l D ad cs w n nr hn hnr K V O M RL2 G3 (nI f) sp 1 (nI (c0 + mm)) op2 (K (o (c0))) 0 (c0 + mm) (o (c0 + mm)) (px_cnt (rw_P w (o (c0 + mm) / w)) o (c0 + mm + 1) (f - (c0 + mm + 1))) hw0 hw1 (by omega) (hF.1 _ (by omega)) (by omega) (by have := px_cnt_le (P := rw_P w (o (c0 + mm) / w)) (o := o) (lo := c0 + mm + 1) (f - (c0 + mm + 1)); omega) (by omega) t2) zv_X0_X0_takeFromRun ⟨by decide, by decide⟩ ⟨rfl, rfl⟩ rfl hK hP hD hS hA rfl rfl rfl hl.1 rfl (Nat.le_of_ble_eq_true rfl) dX0_nextGroup_82 ⟨Nat.zero_le _, Nat.zero_le _⟩ (fun op1 H locs ht hP hD hS => ?_)
          rw [← ht] at t3
          have hP : va_P D classes (xw ad cs w n nr K V O M (upd RL2 (o (c0 + mm) / w) (nI (px_cnt (rw_P w (o (c0 + mm) / w)) o (c0 + mm + 1) (f - (c0 + mm + 1))))) G3 (nI f) sp 1 (nI (c0 + mm)) op1 (K (o (c0))) 0) H := hP
          have hD : va_D A (xw ad cs w n nr K V O M (upd RL2 (o (c0 + mm) / w) (nI (px_cnt (rw_P w (o (c0 + mm) / w)) o (c0 + mm + 1) (f - (c0 + mm + 1))))) G3 (nI f) sp 1 (nI (c0 + mm)) op1 (K (o (c0))) 0) := hD
          refine lv_aload_n hx hb dX0_nextGroup_85 rfl (lv_at hl 0 rfl) ?_
          refine lv_dup hx hb dX0_nextGroup_86 rfl ?_
          refine z_get C0 zt_x0 hK hP 0 rfl rfl 10 (by decide) fl_X0_54 rfl dX0_nextGroup_87 ?_
          refine lv_iconst (v := 1) hx hb dX0_nextGroup_90 (by decide) ?_
          refine lv_iadd hx hb dX0_nextGroup_91 ?_
          refine z_eq (show ((nI (c0 + mm)) + 1) = nI (c0 + (mm + 1)) from nI_1 _) ?_
          refine z_put (ty := .int) C0 zt_x0 tyX0 tyX0_ok nmX0 hK hP hD hS 0 rfl rfl 10 (by decide) fl_X0_54 rfl (by decide +kernel) rfl rfl (Nat.le_of_ble_eq_true rfl) dX0_nextGroup_92 (fun H locs hP hD hS => ?_)
          have hP : va_P D classes (xw ad cs w n nr K V O M (upd RL2 (o (c0 + mm) / w) (nI (px_cnt (rw_P w (o (c0 + mm) / w)) o (c0 + mm + 1) (f - (c0 + mm + 1))))) G3 (nI f) sp 1 (nI (c0 + (mm + 1))) op1 (K (o (c0))) 0) H := hP
          have hD : va_D A (xw ad cs w n nr K V O M (upd RL2 (o (c0 + mm) / w) (nI (px_cnt (rw_P w (o (c0 + mm) / w)) o (c0 + mm + 1) (f - (c0 + mm + 1))))) G3 (nI f) sp 1 (nI (c0 + (mm + 1))) op1 (K (o (c0))) 0) := hD
          refine lv_goto (tgt := 39) hx hb dX0_nextGroup_95 (by decide) ?_
          exact ih39 (mm + 1) G3 (upd RL2 (o (c0 + mm) / w) (nI (px_cnt (rw_P w (o (c0 + mm) / w)) o (c0 + mm + 1) (f - (c0 + mm + 1))))) op1 _ _ _ (⟨by omega, fun i h => by rcases Nat.lt_or_ge i mm with q | q; (exact i2 i q); (rw [show i = mm by omega]; exact c3), by obtain ⟨a1, a2, a3, a4⟩ := ha; rw [a1, a2, a3, a4]; show _ = gs_P (gs_F V o c0 mm) (V (o (c0 + mm))); rw [← i3]; rfl, t3⟩) (by omega) hP hD hS (lv_sub hl [0] rfl)
  exact loop _ 0 G1 RL op _ _ _ (⟨by omega, fun i h => absurd h (Nat.not_lt_zero i), by rw [hg 0 (by decide), hg 1 (by decide), hg 2 (by decide), hg 3 (by decide)]; rfl, hR⟩) (Nat.lt_succ_self _) hP hD hS (lv_sub hl [0] (rfl))
set_option maxHeartbeats 4000000 in
set_option maxRecDepth 100000 in
theorem c_nextGroup_u (l : Launch) (D : va_G) (ad : Nat → Nat) (cs : Nat → ClassId) (w n nr : Nat) (hn : n < 2 ^ 31) (hnr : nr < 2 ^ 31) (K V O M RL G : Nat → Int32) (fed sp co op ck cv : Int32)   : ZI (S := Unit) l yX0_nextGroup cX0_nextGroup 1 rX_nextGroup D classes (xt cs) [.ref (ad 0)] (xw ad cs w n nr K V O M RL G fed sp 0 co op ck cv) (fun v _ => v = -4) (fun _ => xw ad cs w n nr K V O M RL G fed sp 0 co op ck cv) := by
  refine ZI.of (by decide +kernel) (Nat.le_of_ble_eq_true rfl) ?_
  intro p e s m args below meth c A Q ls C0 hK hP hD hS hA hl hret
  have hx := C0.1
  have hb := C0.2.1
  have hl : lv_has ls 1 [(0, .ref (ad 0))] := hl
  refine lv_aload_n hx hb dX0_nextGroup_0 rfl (lv_at hl 0 rfl) ?_
  refine z_get C0 zt_x0 hK hP 0 rfl rfl 9 (by decide) fl_X0_50 rfl dX0_nextGroup_1 ?_
  refine lv_if_ne (tgt := 10) hx hb dX0_nextGroup_4 (by decide) (fun hz => False.elim (hz rfl)) (fun hz => ?_)
  refine lv_bipush (v := -4) hx hb dX0_nextGroup_7 (by decide) ?_
  exact hret _ (()) _ _ _ _ hP hD hS (rfl) dX0_nextGroup_9
set_option maxHeartbeats 4000000 in
set_option maxRecDepth 100000 in
theorem c_nextGroup_e (l : Launch) (D : va_G) (ad : Nat → Nat) (cs : Nat → ClassId) (w n nr : Nat) (hn : n < 2 ^ 31) (hnr : nr < 2 ^ 31) (K V O M RL G : Nat → Int32) (sp op ck cv : Int32) (f : Nat) (hf : f ≤ n) : ZI (S := (Nat → Int32)) l yX0_nextGroup cX0_nextGroup 1 rX_nextGroup D classes (xt cs) [.ref (ad 0)] (xw ad cs w n nr K V O M RL G (nI f) sp 1 (nI f) op ck cv) (fun v G1 => v = -1 ∧ ∀ j, j < 4 → G1 j = 0) (fun G1 => xw ad cs w n nr K V O M RL G1 (nI f) sp 1 (nI f) op 0 0) := by
  refine ZI.of (by decide +kernel) (Nat.le_of_ble_eq_true rfl) ?_
  intro p e s m args below meth c A Q ls C0 hK hP hD hS hA hl hret
  have hx := C0.1
  have hb := C0.2.1
  have hl : lv_has ls 1 [(0, .ref (ad 0))] := hl
  refine lv_aload_n hx hb dX0_nextGroup_0 rfl (lv_at hl 0 rfl) ?_
  refine z_get C0 zt_x0 hK hP 0 rfl rfl 9 (by decide) fl_X0_50 rfl dX0_nextGroup_1 ?_
  refine lv_if_ne (tgt := 10) hx hb dX0_nextGroup_4 (by decide) (fun hz => ?_) (fun hz => False.elim (absurd hz (by decide)))
  refine lv_aload_n hx hb dX0_nextGroup_10 rfl (lv_at hl 0 rfl) ?_
  refine zv_callV0 (As := []) (rest := []) (q0 := 0) (ci := 0) C0 (c_clearCurrent l D ad cs w n nr hn hnr K V O M RL G (nI f) sp 1 (nI f) op ck cv) zv_X0_X0_clearCurrent ⟨by decide, by decide⟩ ⟨rfl, rfl⟩ rfl hK hP hD hS hA rfl rfl rfl hl.1 rfl (Nat.le_of_ble_eq_true rfl) dX0_nextGroup_11 ⟨Nat.zero_le _, Nat.zero_le _⟩ (fun G1 H locs hg hP hD hS => ?_)
  have hP : va_P D classes (xw ad cs w n nr K V O M RL G1 (nI f) sp 1 (nI f) op 0 0) H := hP
  have hD : va_D A (xw ad cs w n nr K V O M RL G1 (nI f) sp 1 (nI f) op 0 0) := hD
  refine lv_aload_n hx hb dX0_nextGroup_14 rfl (lv_at hl 0 rfl) ?_
  refine z_get C0 zt_x0 hK hP 0 rfl rfl 10 (by decide) fl_X0_54 rfl dX0_nextGroup_15 ?_
  refine lv_aload_n hx hb dX0_nextGroup_18 rfl (lv_at hl 0 rfl) ?_
  refine z_get C0 zt_x0 hK hP 0 rfl rfl 7 (by decide) fl_X0_44 rfl dX0_nextGroup_19 ?_
  refine lv_icmp_lt (tgt := 27) hx hb dX0_nextGroup_22 (by decide) (fun c1 => False.elim (nI_nlt (Nat.le_refl f) (by omega) c1)) (fun c1 => ?_)
  refine lv_iconst (v := -1) hx hb dX0_nextGroup_25 (by decide) ?_
  exact hret _ (G1) _ _ _ _ hP hD hS (⟨rfl, hg⟩) dX0_nextGroup_26
abbrev rX_skipTo : Room := { frames := 2, cells := 0, slots := 0, locals := 45 }
set_option maxHeartbeats 4000000 in
set_option maxRecDepth 100000 in
theorem c_skipTo (l : Launch) (D : va_G) (ad : Nat → Nat) (cs : Nat → ClassId) (w n nr : Nat) (hn : n < 2 ^ 31) (hnr : nr < 2 ^ 31) (K V O M RL G : Nat → Int32) (sp op ck cv : Int32) (r f c0 : Nat) (o : Nat → Nat) (key : Int32) (hf : f ≤ n) (hn2 : n < 2 ^ 29) (hw0 : 0 < w) (hw1 : w < 2 ^ 29) (hF : xF K O f o) (hR : xR w r f c0 o RL op) (hfr : f ≤ r * w + w) (hrn : rnn r f ≤ nr) (hc : c0 ≤ f) : ZI (S := ((Nat → Int32) × (Nat → Int32) × Int32 × Nat)) l yX0_skipTo cX0_skipTo 3 rX_skipTo D classes (xt cs) [.ref (ad 0), .int key] (xw ad cs w n nr K V O M RL G (nI f) sp 1 (nI c0) op ck cv) (fun v u => v = nI u.2.2.2 ∧ c0 + u.2.2.2 ≤ f ∧ (∀ i, i < u.2.2.2 → K (o (c0 + i)) < key) ∧ (c0 + u.2.2.2 = f ∨ ¬ K (o (c0 + u.2.2.2)) < key) ∧ (∀ j, j < 4 → u.1 j = 0) ∧ xR w r f (c0 + u.2.2.2) o u.2.1 u.2.2.1) (fun u => xw ad cs w n nr K V O M u.2.1 u.1 (nI f) sp 1 (nI (c0 + u.2.2.2)) u.2.2.1 0 0) := by
  refine ZI.of (by decide +kernel) (Nat.le_of_ble_eq_true rfl) ?_
  intro p e s m args below meth c A Q ls C0 hK hP hD hS hA hl hret
  have hx := C0.1
  have hb := C0.2.1
  have hl : lv_has ls 3 [(0, .ref (ad 0)), (1, .int key)] := hl
  refine lv_aload_n hx hb dX0_skipTo_0 rfl (lv_at hl 0 rfl) ?_
  refine z_get C0 zt_x0 hK hP 0 rfl rfl 9 (by decide) fl_X0_50 rfl dX0_skipTo_1 ?_
  refine lv_if_ne (tgt := 10) hx hb dX0_skipTo_4 (by decide) (fun hz => ?_) (fun hz => False.elim (absurd hz (by decide)))
  refine lv_aload_n hx hb dX0_skipTo_10 rfl (lv_at hl 0 rfl) ?_
  refine zv_callV0 (As := []) (rest := []) (q0 := 0) (ci := 0) C0 (c_clearCurrent l D ad cs w n nr hn hnr K V O M RL G (nI f) sp 1 (nI c0) op ck cv) zv_X0_X0_clearCurrent ⟨by decide, by decide⟩ ⟨rfl, rfl⟩ rfl hK hP hD hS hA rfl rfl rfl hl.1 rfl (Nat.le_of_ble_eq_true rfl) dX0_skipTo_11 ⟨Nat.zero_le _, Nat.zero_le _⟩ (fun G1 H locs hg hP hD hS => ?_)
  have hP : va_P D classes (xw ad cs w n nr K V O M RL G1 (nI f) sp 1 (nI c0) op 0 0) H := hP
  have hD : va_D A (xw ad cs w n nr K V O M RL G1 (nI f) sp 1 (nI c0) op 0 0) := hD
  refine lv_aload_n hx hb dX0_skipTo_14 rfl (lv_at hl 0 rfl) ?_
  refine z_get C0 zt_x0 hK hP 0 rfl rfl 10 (by decide) fl_X0_54 rfl dX0_skipTo_15 ?_
  refine lv_istore_n (lv' := [(2, .int (nI c0)), (0, .ref (ad 0)), (1, .int key)]) hx hb dX0_skipTo_18 rfl hl (by decide) rfl (fun ls hl => ?_)
  have loop : ∀ (NN : Nat) (mm : Nat) (RL2 : Nat → Int32) (op2 : Int32) (H : Heap) (locs : List Loc) (ls : Array Slot), (c0 + mm ≤ f ∧ (∀ i, i < mm → K (o (c0 + i)) < key) ∧ xR w r f (c0 + mm) o RL2 op2) → f - mm < NN → va_P D classes (xw ad cs w n nr K V O M RL2 G1 (nI f) sp 1 (nI (c0 + mm)) op2 0 0) H → va_D A (xw ad cs w n nr K V O M RL2 G1 (nI f) sp 1 (nI (c0 + mm)) op2 0 0) → va_S A s.heap H locs → lv_has ls 3 [(2, .int (nI c0)), (0, .ref (ad 0)), (1, .int key)] → W p l e rX_skipTo s m args below meth c H locs 0 0 Q (F0 m 19 ls []) := by
    intro N19
    induction N19 with
    | zero => intro mm RL2 op2 H locs ls hI hN; exact absurd hN (Nat.not_lt_zero _)
    | succ N19 ih19 =>
      intro mm RL2 op2 H locs ls hI hN19 hP hD hS hl
      obtain ⟨i1, i2, i4⟩ := hI
      refine lv_aload_n hx hb dX0_skipTo_19 rfl (lv_at hl 1 rfl) ?_
      refine z_get C0 zt_x0 hK hP 0 rfl rfl 10 (by decide) fl_X0_54 rfl dX0_skipTo_20 ?_
      refine lv_aload_n hx hb dX0_skipTo_23 rfl (lv_at hl 1 rfl) ?_
      refine z_get C0 zt_x0 hK hP 0 rfl rfl 7 (by decide) fl_X0_44 rfl dX0_skipTo_24 ?_
      refine lv_icmp_ge (tgt := 63) hx hb dX0_skipTo_27 (by decide) (fun c2 => ?_) (fun c2 => ?_)
      · have c2 := zle c2 (by omega) (by omega)
        have hend : c0 + mm = f ∨ ¬ K (o (c0 + mm)) < key := Or.inl (by omega)
        refine lv_aload_n hx hb dX0_skipTo_63 rfl (lv_at hl 1 rfl) ?_
        refine z_get C0 zt_x0 hK hP 0 rfl rfl 10 (by decide) fl_X0_54 rfl dX0_skipTo_64 ?_
        refine lv_iload_n hx hb dX0_skipTo_67 rfl (lv_at hl 0 rfl) ?_
        refine lv_isub hx hb dX0_skipTo_68 ?_
        refine z_eq (show ((nI (c0 + mm)) - (nI c0)) = nI mm from by rw [pk_sub (by omega), Nat.add_sub_cancel_left]) ?_
        exact hret _ ((G1, RL2, op2, mm)) _ _ _ _ hP hD hS (⟨rfl, i1, i2, hend, hg, i4⟩) dX0_skipTo_69
      · have c2 := znle c2 (by omega) (by omega)
        refine lv_aload_n hx hb dX0_skipTo_30 rfl (lv_at hl 1 rfl) ?_
        refine lv_aload_n hx hb dX0_skipTo_31 rfl (lv_at hl 1 rfl) ?_
        refine z_get C0 zt_x0 hK hP 0 rfl rfl 10 (by decide) fl_X0_54 rfl dX0_skipTo_32 ?_
        refine zr_callV (As := [.int (nI (c0 + mm))]) (rest := []) (q0 := 0) (ci := 0) C0 (c_keyOfRow l D ad cs w n nr hn hnr K V O M RL2 G1 (nI f) sp 1 (nI (c0 + mm)) op2 0 0 (nI (c0 + mm))) zv_X0_X0_keyOfRow ⟨by decide, by decide⟩ ⟨rfl, rfl⟩ rfl hK hP hD rfl rfl rfl hl.1 rfl (Nat.le_of_ble_eq_true rfl) dX0_skipTo_35 ⟨Nat.zero_le _, Nat.zero_le _⟩ (fun r1 er1 => ?_)
        subst er1
        refine z_eq (show (za n K (za n O (nI (c0 + mm)))) = K (o (c0 + mm)) from by rw [za_at (by omega) hn, hF.1 _ (by omega), za_at (by have := hF.rng (a := c0 + mm) (by omega); omega) hn]) ?_
        refine lv_iload_n hx hb dX0_skipTo_38 rfl (lv_at hl 2 rfl) ?_
        refine lv_icmp_ge (tgt := 63) hx hb dX0_skipTo_39 (by decide) (fun c3 => ?_) (fun c3 => ?_)
        · have hend : c0 + mm = f ∨ ¬ K (o (c0 + mm)) < key := Or.inr (Int32.not_lt.mpr c3)
          refine lv_aload_n hx hb dX0_skipTo_63 rfl (lv_at hl 1 rfl) ?_
          refine z_get C0 zt_x0 hK hP 0 rfl rfl 10 (by decide) fl_X0_54 rfl dX0_skipTo_64 ?_
          refine lv_iload_n hx hb dX0_skipTo_67 rfl (lv_at hl 0 rfl) ?_
          refine lv_isub hx hb dX0_skipTo_68 ?_
          refine z_eq (show ((nI (c0 + mm)) - (nI c0)) = nI mm from by rw [pk_sub (by omega), Nat.add_sub_cancel_left]) ?_
          exact hret _ ((G1, RL2, op2, mm)) _ _ _ _ hP hD hS (⟨rfl, i1, i2, hend, hg, i4⟩) dX0_skipTo_69
        · refine lv_aload_n hx hb dX0_skipTo_42 rfl (lv_at hl 1 rfl) ?_
          refine lv_aload_n hx hb dX0_skipTo_43 rfl (lv_at hl 1 rfl) ?_
          refine z_get C0 zt_x0 hK hP 0 rfl rfl 10 (by decide) fl_X0_54 rfl dX0_skipTo_44 ?_
          have hoc := hF.rng (a := c0 + mm) (by omega)
          obtain ⟨t1, t2, t3⟩ := xR_take i4 hw0 (show c0 + mm < f by omega) hfr hoc (by omega)
          refine zv_callV0 (As := [.int (nI (c0 + mm))]) (rest := []) (q0 := 0) (ci := 0) C0 (c_takeFromRun l D ad cs w n nr hn hnr K V O M RL2 G1 (nI f) sp 1 (nI (c0 + mm)) op2 0 0 (c0 + mm) (o (c0 + mm)) (px_cnt (rw_P w (o (c0 + mm) / w)) o (c0 + mm + 1) (f - (c0 + mm + 1))) hw0 hw1 (by omega) (hF.1 _ (by omega)) (by omega) (by have := px_cnt_le (P := rw_P w (o (c0 + mm) / w)) (o := o) (lo := c0 + mm + 1) (f - (c0 + mm + 1)); omega) (by omega) t2) zv_X0_X0_takeFromRun ⟨by decide, by decide⟩ ⟨rfl, rfl⟩ rfl hK hP hD hS hA rfl rfl rfl hl.1 rfl (Nat.le_of_ble_eq_true rfl) dX0_skipTo_47 ⟨Nat.zero_le _, Nat.zero_le _⟩ (fun op1 H locs ht hP hD hS => ?_)
          rw [← ht] at t3
          have hP : va_P D classes (xw ad cs w n nr K V O M (upd RL2 (o (c0 + mm) / w) (nI (px_cnt (rw_P w (o (c0 + mm) / w)) o (c0 + mm + 1) (f - (c0 + mm + 1))))) G1 (nI f) sp 1 (nI (c0 + mm)) op1 0 0) H := hP
          have hD : va_D A (xw ad cs w n nr K V O M (upd RL2 (o (c0 + mm) / w) (nI (px_cnt (rw_P w (o (c0 + mm) / w)) o (c0 + mm + 1) (f - (c0 + mm + 1))))) G1 (nI f) sp 1 (nI (c0 + mm)) op1 0 0) := hD
          refine lv_aload_n hx hb dX0_skipTo_50 rfl (lv_at hl 1 rfl) ?_
          refine lv_dup hx hb dX0_skipTo_51 rfl ?_
          refine z_get C0 zt_x0 hK hP 0 rfl rfl 10 (by decide) fl_X0_54 rfl dX0_skipTo_52 ?_
          refine lv_iconst (v := 1) hx hb dX0_skipTo_55 (by decide) ?_
          refine lv_iadd hx hb dX0_skipTo_56 ?_
          refine z_eq (show ((nI (c0 + mm)) + 1) = nI (c0 + (mm + 1)) from nI_1 _) ?_
          refine z_put (ty := .int) C0 zt_x0 tyX0 tyX0_ok nmX0 hK hP hD hS 0 rfl rfl 10 (by decide) fl_X0_54 rfl (by decide +kernel) rfl rfl (Nat.le_of_ble_eq_true rfl) dX0_skipTo_57 (fun H locs hP hD hS => ?_)
          have hP : va_P D classes (xw ad cs w n nr K V O M (upd RL2 (o (c0 + mm) / w) (nI (px_cnt (rw_P w (o (c0 + mm) / w)) o (c0 + mm + 1) (f - (c0 + mm + 1))))) G1 (nI f) sp 1 (nI (c0 + (mm + 1))) op1 0 0) H := hP
          have hD : va_D A (xw ad cs w n nr K V O M (upd RL2 (o (c0 + mm) / w) (nI (px_cnt (rw_P w (o (c0 + mm) / w)) o (c0 + mm + 1) (f - (c0 + mm + 1))))) G1 (nI f) sp 1 (nI (c0 + (mm + 1))) op1 0 0) := hD
          refine lv_goto (tgt := 19) hx hb dX0_skipTo_60 (by decide) ?_
          exact ih19 (mm + 1) (upd RL2 (o (c0 + mm) / w) (nI (px_cnt (rw_P w (o (c0 + mm) / w)) o (c0 + mm + 1) (f - (c0 + mm + 1))))) op1 _ _ _ (⟨by omega, fun i h => by rcases Nat.lt_or_ge i mm with q | q; (exact i2 i q); (rw [show i = mm by omega]; exact Int32.not_le.mp c3), t3⟩) (by omega) hP hD hS (lv_sub hl [0, 1, 2] rfl)
  exact loop _ 0 RL op _ _ _ (⟨by omega, fun i h => absurd h (Nat.not_lt_zero i), hR⟩) (Nat.lt_succ_self _) hP hD hS (lv_sub hl [0, 1, 2] (rfl))
set_option maxHeartbeats 4000000 in
set_option maxRecDepth 100000 in
theorem c_skipTo_u (l : Launch) (D : va_G) (ad : Nat → Nat) (cs : Nat → ClassId) (w n nr : Nat) (hn : n < 2 ^ 31) (hnr : nr < 2 ^ 31) (K V O M RL G : Nat → Int32) (fed sp co op ck cv : Int32) (key : Int32)  : ZI (S := Unit) l yX0_skipTo cX0_skipTo 3 rX_skipTo D classes (xt cs) [.ref (ad 0), .int key] (xw ad cs w n nr K V O M RL G fed sp 0 co op ck cv) (fun v _ => v = -4) (fun _ => xw ad cs w n nr K V O M RL G fed sp 0 co op ck cv) := by
  refine ZI.of (by decide +kernel) (Nat.le_of_ble_eq_true rfl) ?_
  intro p e s m args below meth c A Q ls C0 hK hP hD hS hA hl hret
  have hx := C0.1
  have hb := C0.2.1
  have hl : lv_has ls 3 [(0, .ref (ad 0)), (1, .int key)] := hl
  refine lv_aload_n hx hb dX0_skipTo_0 rfl (lv_at hl 0 rfl) ?_
  refine z_get C0 zt_x0 hK hP 0 rfl rfl 9 (by decide) fl_X0_50 rfl dX0_skipTo_1 ?_
  refine lv_if_ne (tgt := 10) hx hb dX0_skipTo_4 (by decide) (fun hz => False.elim (hz rfl)) (fun hz => ?_)
  refine lv_bipush (v := -4) hx hb dX0_skipTo_7 (by decide) ?_
  exact hret _ (()) _ _ _ _ hP hD hS (rfl) dX0_skipTo_9
end
section
/-! THROWING: what a throw wants of the start; contracts of calls that throw -/
abbrev IAE : String := "java/lang/IllegalArgumentException"
abbrev iaeN : List String := ["java/lang/RuntimeException", "java/lang/Exception"]
abbrev iaeB : List Cond := [.castable IAE IAE, .declares ⟨"java/lang/RuntimeException", "<init>", "(Ljava/lang/String;)V"⟩, .declares ⟨"java/lang/Exception", "<init>", "(Ljava/lang/String;)V"⟩, .declares ⟨"java/lang/Throwable", "<init>", "(Ljava/lang/String;)V"⟩]
theorem xt_rest : ∀ w ∈ (vx_atS RX0 71 IAE iaeN).filter (fun w => !goodWord w), w ∈ iaeB := by decide +kernel
theorem xt_ot : ∀ w ∈ Cond.classLink RX0 67 IAE :: Cond.initialized IAE :: vx_atS RX0 71 IAE iaeN, vx_ot w = true := by decide +kernel
theorem xt_in : ∀ w ∈ (vx_atS RX0 71 IAE iaeN).filter goodWord, w ∈ zt := fun w h => zt_of (List.mem_append_right _ h) (List.mem_filter.mp h).2
theorem xt_face : ∀ w ∈ iaeB, w.faceAtom = true ∧ w.onTables = true := by decide +kernel
theorem xc_moved {s U : State} {args args' : Array Value} (hal : s.vm.Alike U.vm) (h : ∀ w ∈ iaeB, w.before args s = true) : ∀ w ∈ iaeB, w.before args' U = true := fun w hw =>
  va_tabs (u := s.setVm U.vm) (A := args) (xt_face w hw).2 rfl (Cond.faceAtom_setVm hal w (xt_face w hw).1 (h w hw))
/-- what a throw wants: two statics of Throwable that lie below sz, a word, the texts -/
def xh (sz : Nat) (U : State) : Prop := vx_Zq Bundle.tN "UNASSIGNED_STACK" Bundle.steD (fun q => sz ≤ q) U U.heap ∧ vx_Zq Bundle.tN "SUPPRESSED_SENTINEL" Bundle.listD (fun q => sz ≤ q) U U.heap ∧ (∀ w ∈ iaeB, w.before #[] U = true) ∧ (∃ sa, vk_R RX0 69 "n is not in 0 .. 200" sa U) ∧ ∃ sa, vk_R RX0 103 "what is not in 0 .. 3" sa U
theorem xh_at {s U : State} {H : Heap} (h : xh s.heap.size s) (hW : s.WarmedH U.vm) (hU : U.heap = H) (hz : s.heap.size ≤ H.size) (hk : ∀ q, q < s.heap.size → H[q]? = s.heap[q]?) : xh H.size U := by
  obtain ⟨h1, h2, h3, ⟨sa, h4⟩, sb, h5⟩ := h
  have mv : ∀ {C n d : String}, vx_Zq C n d (fun q => s.heap.size ≤ q) s s.heap → vx_Zq C n d (fun q => H.size ≤ q) U U.heap := fun h => by
    rw [hU]
    exact ((h.kept (H1 := H) (fun a ha _ => hk a ha)).moved hW.alike).narrow (fun q hq => Nat.le_trans hz hq)
  exact ⟨mv h1, mv h2, xc_moved hW.alike h3, ⟨sa, vk_R.warm hW h4⟩, sb, vk_R.warm hW h5⟩
theorem xh_blind {sz : Nat} {U : State} {g : JFrame} {mk : MethodId} {a : Array Value} (h : xh sz U) : xh sz (U.calling g mk a) := by
  obtain ⟨h1, h2, h3, ⟨sa, h4⟩, sb, h5⟩ := h
  exact ⟨h1.moved (U := U.calling g mk a) (Vm.Alike.refl U.vm), h2.moved (U := U.calling g mk a) (Vm.Alike.refl U.vm), xc_moved (U := U.calling g mk a) (Vm.Alike.refl U.vm) h3, ⟨sa, vk_R.same (u := U) rfl h4⟩, sb, vk_R.same (u := U) rfl h5⟩
/-- a call that throws an IllegalArgumentException; nothing that was there is written -/
def ZX (l : Launch) (y : MethodName) (b : ByteArray) (k : Nat) (rm : Room) (av : List Value) : Prop :=
  ∀ sz : Nat, vx_Met l y (Cond.code y b k (some .int) :: zt) rm (va_Pc av (fun U => U.heap.size = sz ∧ xh sz U)) (va_Qi (S := Unit) (fun _ _ => False) (fun _ _ => True) (fun _ => False)) (vx_X (fun _ : Unit => True) (fun E _ _ => E = IAE) (fun q => sz ≤ q)) 1 6 (fun q => sz ≤ q)
theorem ZX.of {l : Launch} {y : MethodName} {b : ByteArray} {k : Nat} {rm : Room} {av : List Value} (hy : plainName y.cls = true) (hcl : y.cls = RX0) (hlen : (lg_sl av).length ≤ k) (hl : l.stackTraces = false) (hrm : 5 < rm.frames ∧ 82 ≤ rm.locals ∧ 1 ≤ rm.cells ∧ 6 ≤ rm.slots)
    (hk : Cond.classLink RX0 67 IAE ∈ zt) (hi : Cond.initialized IAE ∈ zt)
    (body : ∀ (p : Program) (e : Env) (s : State) (m : MethodId) (args : Array Value) (below : List Frame) (meth : Method) (c : Code) (Q : State → Prop) (ls : Array Slot), CallFix p m c b k s args zt RX0 → lv_has ls k (lv_args 0 av) → xh s.heap.size s →
      (∀ (is : Nat) (text : String) (sa pc : Nat) (ls : Array Slot), vk_R RX0 is text sa s → ls.size = k → decode b pc = .ok (.new 67, 3) → decode b (pc + 3) = .ok (.dup, 1) → decode b (pc + 4) = .ok (.ldc is, 2) → decode b (pc + 6) = .ok (.invokespecial 71, 3) → decode b (pc + 9) = .ok (.athrow, 1) →
        W p l e rm s m args below meth c s.heap [] 0 0 Q (F0 m pc ls [])) →
      W p l e rm s m args below meth c s.heap [] 0 0 Q (F0 m 0 ls [])) : ZX l y b k rm av := by
  intro sz
  refine vx_ofW (cc := b) (maxL := k) (ret := some .int) hy rfl ?_
  intro p e s m args below meth c s₁ B hml hno hv
  obtain ⟨rfl, hsz, hh⟩ := hv
  have hts := atoms_spec (ws := Cond.code y b k (some .int) :: zt) B.pre
  have hts : ∀ w ∈ zt, w.before av.toArray s = true := fun w hw => hts w (List.mem_cons_of_mem _ hw)
  subst hsz
  have hown : s.vm.findClass RX0 = some m.cls := by rw [← hcl]; exact findClass_of_methodNamed B.named
  rw [lg_entry_eq]
  refine body p e s m _ below meth c _ _ ⟨B.exec, B.bytes, hml, hown, hts⟩ (lv_entry av hlen) hh ?_
  intro is text sa pc ls hstr hsize d0 d3 d4 d6 d9
  refine vx_throwS (names := iaeN) (A := fun q => s.heap.size ≤ q) B.exec B.bytes hl hown (by decide +kernel) (by decide +kernel) (hts _ hk) (hts _ hi) hstr (vx_hat (fun w h => hts w (xt_in w h)) xt_rest (xc_moved (Vm.Alike.refl s.vm) hh.2.2.1)) xt_ot hh.1 hh.2.1 va_S.rf (hsize.trans hml.symm) d0 d3 d4 d6 d9 (fun x hx => (hno x hx).elim) hrm.1 (by simpa using hrm.2.1) (by have := hrm.2.2.1; simpa using this) (by have := hrm.2.2.2; simpa using this) B.notSynchronized
    (fun t _ hz hk => ⟨(), trivial, rfl, hz, fun q h1 _ => hk q h1⟩) (fun z hz => absurd hz List.not_mem_nil) (by omega) (by omega)
set_option maxRecDepth 20000 in
theorem zk_67 : Cond.classLink RX0 67 IAE ∈ zt := zt_of (List.mem_append_left _ (by decide +kernel)) (by decide +kernel)
set_option maxRecDepth 20000 in
theorem zk_ia : Cond.initialized IAE ∈ zt := zt_of (List.mem_append_left _ (by decide +kernel)) (by decide +kernel)
set_option maxRecDepth 20000 in
theorem zk_l13 : Cond.classLink RL 13 IAE ∈ zt := zt_of (List.mem_append_left _ (by decide +kernel)) (by decide +kernel)
abbrev rX_t : Room := { frames := 6, cells := 1, slots := 6, locals := 82 }
set_option maxHeartbeats 4000000 in
set_option maxRecDepth 100000 in
theorem c_feedMany_x (l : Launch) (hl9 : l.stackTraces = false) (a : Nat) (key step val n : Int32) (hbad : n < 0 ∨ ¬ n ≤ 200) : ZX l yX0_feedMany cX0_feedMany 7 rX_t [.ref a, .int key, .int step, .int val, .int n] := by
  refine ZX.of (by decide +kernel) rfl (Nat.le_of_ble_eq_true rfl) hl9 ⟨by decide, by decide, by decide, by decide⟩ zk_67 zk_ia ?_
  intro p e s m args below meth c Q ls C0 hl hh hthrow
  have hx := C0.1
  have hb := C0.2.1
  have hl : lv_has ls 7 [(0, .ref a), (1, .int key), (2, .int step), (3, .int val), (4, .int n)] := hl
  refine lv_iload hx hb dX0_feedMany_0 (lv_at hl 4 rfl) ?_
  refine lv_if_lt (tgt := 13) hx hb dX0_feedMany_2 (by decide) (fun c1 => ?_) (fun c1 => ?_)
  · exact hthrow _ _ _ _ _ hh.2.2.2.1.choose_spec hl.1 dX0_feedMany_13 dX0_feedMany_16 dX0_feedMany_17 dX0_feedMany_19 dX0_feedMany_22
  · refine lv_iload hx hb dX0_feedMany_5 (lv_at hl 4 rfl) ?_
    refine lv_sipush (v := 200) hx hb dX0_feedMany_7 (by decide) ?_
    refine lv_icmp_le (tgt := 23) hx hb dX0_feedMany_10 (by decide) (fun c2 => ?_) (fun c2 => ?_)
    · exact absurd c2 (hbad.resolve_left c1)
    · exact hthrow _ _ _ _ _ hh.2.2.2.1.choose_spec hl.1 dX0_feedMany_13 dX0_feedMany_16 dX0_feedMany_17 dX0_feedMany_19 dX0_feedMany_22
set_option maxHeartbeats 4000000 in
set_option maxRecDepth 100000 in
theorem c_group_x (l : Launch) (hl9 : l.stackTraces = false) (a : Nat) (what : Int32) (hbad : what < 0 ∨ ¬ what < 4) : ZX l yX0_group cX0_group 2 rX_t [.ref a, .int what] := by
  refine ZX.of (by decide +kernel) rfl (Nat.le_of_ble_eq_true rfl) hl9 ⟨by decide, by decide, by decide, by decide⟩ zk_67 zk_ia ?_
  intro p e s m args below meth c Q ls C0 hl hh hthrow
  have hx := C0.1
  have hb := C0.2.1
  have hl : lv_has ls 2 [(0, .ref a), (1, .int what)] := hl
  refine lv_iload_n hx hb dX0_group_0 rfl (lv_at hl 1 rfl) ?_
  refine lv_if_lt (tgt := 9) hx hb dX0_group_1 (by decide) (fun c1 => ?_) (fun c1 => ?_)
  · exact hthrow _ _ _ _ _ hh.2.2.2.2.choose_spec hl.1 dX0_group_9 dX0_group_12 dX0_group_13 dX0_group_15 dX0_group_18
  · refine lv_iload_n hx hb dX0_group_4 rfl (lv_at hl 1 rfl) ?_
    refine lv_iconst (v := 4) hx hb dX0_group_5 (by decide) ?_
    refine lv_icmp_lt (tgt := 19) hx hb dX0_group_6 (by decide) (fun c2 => ?_) (fun c2 => ?_)
    · exact absurd c2 (hbad.resolve_left c1)
    · exact hthrow _ _ _ _ _ hh.2.2.2.2.choose_spec hl.1 dX0_group_9 dX0_group_12 dX0_group_13 dX0_group_15 dX0_group_18
set_option maxHeartbeats 4000000 in
set_option maxRecDepth 100000 in
theorem c_count_x (l : Launch) (hl9 : l.stackTraces = false) (a : Nat) (what : Int32) (hbad : what < 0 ∨ ¬ what < 4) : ZX l yX0_count cX0_count 2 rX_t [.ref a, .int what] := by
  refine ZX.of (by decide +kernel) rfl (Nat.le_of_ble_eq_true rfl) hl9 ⟨by decide, by decide, by decide, by decide⟩ zk_67 zk_ia ?_
  intro p e s m args below meth c Q ls C0 hl hh hthrow
  have hx := C0.1
  have hb := C0.2.1
  have hl : lv_has ls 2 [(0, .ref a), (1, .int what)] := hl
  refine lv_iload_n hx hb dX0_count_0 rfl (lv_at hl 1 rfl) ?_
  refine lv_if_lt (tgt := 9) hx hb dX0_count_1 (by decide) (fun c1 => ?_) (fun c1 => ?_)
  · exact hthrow _ _ _ _ _ hh.2.2.2.2.choose_spec hl.1 dX0_count_9 dX0_count_12 dX0_count_13 dX0_count_15 dX0_count_18
  · refine lv_iload_n hx hb dX0_count_4 rfl (lv_at hl 1 rfl) ?_
    refine lv_iconst (v := 4) hx hb dX0_count_5 (by decide) ?_
    refine lv_icmp_lt (tgt := 19) hx hb dX0_count_6 (by decide) (fun c2 => ?_) (fun c2 => ?_)
    · exact absurd c2 (hbad.resolve_left c1)
    · exact hthrow _ _ _ _ _ hh.2.2.2.2.choose_spec hl.1 dX0_count_9 dX0_count_12 dX0_count_13 dX0_count_15 dX0_count_18
abbrev rX_group : Room := { frames := 1, cells := 0, slots := 0, locals := 21 }
set_option maxHeartbeats 4000000 in
set_option maxRecDepth 100000 in
theorem c_group (l : Launch) (D : va_G) (ad : Nat → Nat) (cs : Nat → ClassId) (w n nr : Nat) (hn : n < 2 ^ 31) (hnr : nr < 2 ^ 31) (K V O M RL G : Nat → Int32) (fed sp se co op ck cv : Int32) (what : Int32) (h1 : ¬ what < 0) (h2 : what < 4) : ZR l yX0_group cX0_group 2 rX_group D classes (xt cs) [.ref (ad 0), .int what] (xw ad cs w n nr K V O M RL G fed sp se co op ck cv) (fun r => r = za 4 G what) := by
  refine ZR.of (by decide +kernel) (Nat.le_of_ble_eq_true rfl) ?_
  intro p e s m args below meth c Q ls C0 hK hP hD hl hret
  have hx := C0.1
  have hb := C0.2.1
  have hl : lv_has ls 2 [(0, .ref (ad 0)), (1, .int what)] := hl
  refine lv_iload_n hx hb dX0_group_0 rfl (lv_at hl 1 rfl) ?_
  refine lv_if_lt (tgt := 9) hx hb dX0_group_1 (by decide) (fun hz => False.elim (h1 hz)) (fun hz => ?_)
  refine lv_iload_n hx hb dX0_group_4 rfl (lv_at hl 1 rfl) ?_
  refine lv_iconst (v := 4) hx hb dX0_group_5 (by decide) ?_
  refine lv_icmp_lt (tgt := 19) hx hb dX0_group_6 (by decide) (fun hz => ?_) (fun hz => False.elim (hz h2))
  refine lv_aload_n hx hb dX0_group_19 rfl (lv_at hl 0 rfl) ?_
  refine z_get C0 zt_x0 hK hP 0 rfl rfl 14 (by decide) fl_X0_41 rfl dX0_group_20 ?_
  refine lv_iload_n hx hb dX0_group_23 rfl (lv_at hl 1 rfl) ?_
  refine zx_at C0 (by decide) hK hP hD 6 5 rfl rfl hl.1 (Nat.le_of_ble_eq_true rfl) ⟨by decide, by decide⟩ ⟨Nat.zero_le _, Nat.zero_le _⟩ dX0_group_24 ?_
  exact hret _ _ _ (rfl) dX0_group_27
/-- pairs that come by one call -/
def fm_K (K : Nat → Int32) (f : Nat) (key step : Int32) : Nat → Nat → Int32
  | 0 => K
  | j + 1 => upd (fm_K K f key step j) (f + j) (key + nI j * step)
def fm_V (V : Nat → Int32) (f : Nat) (val : Int32) : Nat → Nat → Int32
  | 0 => V
  | j + 1 => upd (fm_V V f val j) (f + j) (val + nI j)
def fm_r (w r f : Nat) : Nat → Nat
  | 0 => r
  | j + 1 => rnx w (fm_r w r f j) (f + j)
abbrev rX_feedMany : Room := { frames := 5, cells := 0, slots := 0, locals := 111 }
set_option maxHeartbeats 4000000 in
set_option maxRecDepth 100000 in
theorem c_feedMany (l : Launch) (D : va_G) (ad : Nat → Nat) (cs : Nat → ClassId) (w n nr : Nat) (hn : n < 2 ^ 31) (hnr : nr < 2 ^ 31) (K V O M RL G : Nat → Int32) (co op ck cv : Int32) (key step val : Int32) (q r f : Nat) (hq : q ≤ 200) (hf : f ≤ n) (hn2 : n < 2 ^ 29) (hw0 : 0 < w) (hw1 : w < 2 ^ 29) (hO : xO w n K O r f) : ZI (S := ((Nat → Int32) × Nat)) l yX0_feedMany cX0_feedMany 7 rX_feedMany D classes (xt cs) [.ref (ad 0), .int key, .int step, .int val, .int (nI q)] (xw ad cs w n nr K V O M RL G (nI f) (nI r) 0 co op ck cv) (fun v u => v = nI (min q (n - f)) ∧ u.2 = fm_r w r f (min q (n - f)) ∧ xO w n (fm_K K f key step (min q (n - f))) u.1 u.2 (f + min q (n - f))) (fun u => xw ad cs w n nr (fm_K K f key step (min q (n - f))) (fm_V V f val (min q (n - f))) u.1 M RL G (nI (f + min q (n - f))) (nI u.2) 0 co op ck cv) := by
  refine ZI.of (by decide +kernel) (Nat.le_of_ble_eq_true rfl) ?_
  intro p e s m args below meth c A Q ls C0 hK hP hD hS hA hl hret
  have hx := C0.1
  have hb := C0.2.1
  have hl : lv_has ls 7 [(0, .ref (ad 0)), (1, .int key), (2, .int step), (3, .int val), (4, .int (nI q))] := hl
  refine lv_iload hx hb dX0_feedMany_0 (lv_at hl 4 rfl) ?_
  refine lv_if_lt (tgt := 13) hx hb dX0_feedMany_2 (by decide) (fun hz => False.elim (nI_pos (by omega) hz)) (fun hz => ?_)
  refine lv_iload hx hb dX0_feedMany_5 (lv_at hl 4 rfl) ?_
  refine lv_sipush (v := 200) hx hb dX0_feedMany_7 (by decide) ?_
  refine lv_icmp_le (tgt := 23) hx hb dX0_feedMany_10 (by decide) (fun hz => ?_) (fun hz => False.elim (hz (nI_le (b := 200) hq (by decide))))
  refine lv_aload_n hx hb dX0_feedMany_23 rfl (lv_at hl 0 rfl) ?_
  refine z_get C0 zt_x0 hK hP 0 rfl rfl 9 (by decide) fl_X0_50 rfl dX0_feedMany_24 ?_
  refine lv_if_eq (tgt := 33) hx hb dX0_feedMany_27 (by decide) (fun hz => ?_) (fun hz => False.elim (hz rfl))
  refine lv_iload hx hb dX0_feedMany_33 (lv_at hl 4 rfl) ?_
  refine lv_aload_n hx hb dX0_feedMany_35 rfl (lv_at hl 0 rfl) ?_
  refine z_get C0 zt_x0 hK hP 0 rfl rfl 1 (by decide) fl_X0_22 rfl dX0_feedMany_36 ?_
  refine lv_aload_n hx hb dX0_feedMany_39 rfl (lv_at hl 0 rfl) ?_
  refine z_get C0 zt_x0 hK hP 0 rfl rfl 7 (by decide) fl_X0_44 rfl dX0_feedMany_40 ?_
  refine lv_isub hx hb dX0_feedMany_43 ?_
  refine z_eq (show ((nI n) - (nI f)) = nI (n - f) from pk_sub hf) ?_
  refine z_min C0 zm_min hl.1 ⟨by decide, Nat.le_of_ble_eq_true rfl⟩ ⟨Nat.zero_le _, Nat.zero_le _⟩ dX0_feedMany_44 ?_
  refine z_eq (show (if (nI (n - f)) < (nI q) then (nI (n - f)) else (nI q)) = nI (min q (n - f)) from zmin_n rfl (by omega) (by omega)) ?_
  refine lv_istore (lv' := [(5, .int (nI (min q (n - f)))), (0, .ref (ad 0)), (1, .int key), (2, .int step), (3, .int val), (4, .int (nI q))]) hx hb dX0_feedMany_47 hl (by decide) rfl (fun ls hl => ?_)
  refine lv_iconst (v := 0) hx hb dX0_feedMany_49 (by decide) ?_
  refine lv_istore (lv' := [(6, .int 0), (5, .int (nI (min q (n - f)))), (0, .ref (ad 0)), (1, .int key), (2, .int step), (3, .int val), (4, .int (nI q))]) hx hb dX0_feedMany_50 hl (by decide) rfl (fun ls hl => ?_)
  have loop : ∀ (NN : Nat) (j r1 : Nat) (O1 : Nat → Int32) (H : Heap) (locs : List Loc) (ls : Array Slot), (j ≤ min q (n - f) ∧ r1 = fm_r w r f j ∧ xO w n (fm_K K f key step j) O1 r1 (f + j)) → min q (n - f) - j < NN → va_P D classes (xw ad cs w n nr (fm_K K f key step j) (fm_V V f val j) O1 M RL G (nI (f + j)) (nI r1) 0 co op ck cv) H → va_D A (xw ad cs w n nr (fm_K K f key step j) (fm_V V f val j) O1 M RL G (nI (f + j)) (nI r1) 0 co op ck cv) → va_S A s.heap H locs → lv_has ls 7 [(6, .int (nI j)), (5, .int (nI (min q (n - f)))), (0, .ref (ad 0)), (1, .int key), (2, .int step), (3, .int val), (4, .int (nI q))] → W p l e rX_feedMany s m args below meth c H locs 0 0 Q (F0 m 52 ls []) := by
    intro N52
    induction N52 with
    | zero => intro j r1 O1 H locs ls hI hN; exact absurd hN (Nat.not_lt_zero _)
    | succ N52 ih52 =>
      intro j r1 O1 H locs ls hI hN52 hP hD hS hl
      obtain ⟨i1, i2, i3⟩ := hI
      refine lv_iload hx hb dX0_feedMany_52 (lv_at hl 0 rfl) ?_
      refine lv_iload hx hb dX0_feedMany_54 (lv_at hl 1 rfl) ?_
      refine lv_icmp_ge (tgt := 79) hx hb dX0_feedMany_56 (by decide) (fun c2 => ?_) (fun c2 => ?_)
      · have c2 := zle c2 (by omega) (by omega)
        have ej : j = min q (n - f) := by omega
        refine lv_iload hx hb dX0_feedMany_79 (lv_at hl 1 rfl) ?_
        rw [ej] at hP hD i2 i3
        exact hret _ ((O1, r1)) _ _ _ _ hP hD hS (⟨rfl, i2, i3⟩) dX0_feedMany_81
      · have c2 := znle c2 (by omega) (by omega)
        refine lv_aload_n hx hb dX0_feedMany_59 rfl (lv_at hl 2 rfl) ?_
        refine lv_iload_n hx hb dX0_feedMany_60 rfl (lv_at hl 3 rfl) ?_
        refine lv_iload hx hb dX0_feedMany_61 (lv_at hl 0 rfl) ?_
        refine lv_iload_n hx hb dX0_feedMany_63 rfl (lv_at hl 4 rfl) ?_
        refine lv_imul hx hb dX0_feedMany_64 ?_
        refine lv_iadd hx hb dX0_feedMany_65 ?_
        refine lv_iload_n hx hb dX0_feedMany_66 rfl (lv_at hl 5 rfl) ?_
        refine lv_iload hx hb dX0_feedMany_67 (lv_at hl 0 rfl) ?_
        refine lv_iadd hx hb dX0_feedMany_69 ?_
        refine zv_callV0 (As := [.int (key + ((nI j) * step)), .int (val + (nI j))]) (rest := []) (q0 := 0) (ci := 0) C0 (c_append l D ad cs w n nr hn hnr (fm_K K f key step j) (fm_V V f val j) O1 M RL G 0 co op ck cv (key + nI j * step) (val + nI j) r1 (f + j) (by omega) hn2 hw0 hw1 i3) zv_X0_X0_append ⟨by decide, by decide⟩ ⟨rfl, rfl⟩ rfl hK hP hD hS hA rfl rfl rfl hl.1 rfl (Nat.le_of_ble_eq_true rfl) dX0_feedMany_70 ⟨Nat.zero_le _, Nat.zero_le _⟩ (fun u1 H locs hj hP hD hS => ?_)
        have hP : va_P D classes (xw ad cs w n nr (fm_K K f key step (j + 1)) (fm_V V f val (j + 1)) u1.1 M RL G (nI (f + (j + 1))) (nI u1.2) 0 co op ck cv) H := hP
        have hD : va_D A (xw ad cs w n nr (fm_K K f key step (j + 1)) (fm_V V f val (j + 1)) u1.1 M RL G (nI (f + (j + 1))) (nI u1.2) 0 co op ck cv) := hD
        refine lv_iinc (v := nI (j + 1)) (lv' := [(6, .int (nI (j + 1))), (5, .int (nI (min q (n - f)))), (0, .ref (ad 0)), (1, .int key), (2, .int step), (3, .int val), (4, .int (nI q))]) hx hb dX0_feedMany_73 hl (k := 0) rfl (show (nI j) + Int32.ofInt (1) = nI (j + 1) from (congrArg ((nI j) + ·) (by decide : Int32.ofInt (1) = 1)).trans (nI_1 j)) (by decide) rfl (fun ls hl => ?_)
        refine lv_goto (tgt := 52) hx hb dX0_feedMany_76 (by decide) ?_
        exact ih52 (j + 1) u1.2 u1.1 _ _ _ (⟨c2, by rw [hj.1, i2]; rfl, hj.2⟩) (by omega) hP hD hS (lv_sub hl [0, 1, 2, 3, 4, 5, 6] rfl)
  exact loop _ 0 r O _ _ _ (⟨Nat.zero_le _, rfl, hO⟩) (Nat.lt_succ_self _) hP hD hS (lv_sub hl [0, 1, 2, 3, 4, 5, 6] (rfl))
set_option maxHeartbeats 4000000 in
set_option maxRecDepth 100000 in
theorem c_feedMany_s (l : Launch) (D : va_G) (ad : Nat → Nat) (cs : Nat → ClassId) (w n nr : Nat) (hn : n < 2 ^ 31) (hnr : nr < 2 ^ 31) (K V O M RL G : Nat → Int32) (fed sp co op ck cv : Int32) (key step val : Int32) (q : Nat) (hq : q ≤ 200) : ZI (S := Unit) l yX0_feedMany cX0_feedMany 7 rX_feedMany D classes (xt cs) [.ref (ad 0), .int key, .int step, .int val, .int (nI q)] (xw ad cs w n nr K V O M RL G fed sp 1 co op ck cv) (fun v _ => v = -3) (fun _ => xw ad cs w n nr K V O M RL G fed sp 1 co op ck cv) := by
  refine ZI.of (by decide +kernel) (Nat.le_of_ble_eq_true rfl) ?_
  intro p e s m args below meth c A Q ls C0 hK hP hD hS hA hl hret
  have hx := C0.1
  have hb := C0.2.1
  have hl : lv_has ls 7 [(0, .ref (ad 0)), (1, .int key), (2, .int step), (3, .int val), (4, .int (nI q))] := hl
  refine lv_iload hx hb dX0_feedMany_0 (lv_at hl 4 rfl) ?_
  refine lv_if_lt (tgt := 13) hx hb dX0_feedMany_2 (by decide) (fun hz => False.elim (nI_pos (by omega) hz)) (fun hz => ?_)
  refine lv_iload hx hb dX0_feedMany_5 (lv_at hl 4 rfl) ?_
  refine lv_sipush (v := 200) hx hb dX0_feedMany_7 (by decide) ?_
  refine lv_icmp_le (tgt := 23) hx hb dX0_feedMany_10 (by decide) (fun hz => ?_) (fun hz => False.elim (hz (nI_le (b := 200) hq (by decide))))
  refine lv_aload_n hx hb dX0_feedMany_23 rfl (lv_at hl 0 rfl) ?_
  refine z_get C0 zt_x0 hK hP 0 rfl rfl 9 (by decide) fl_X0_50 rfl dX0_feedMany_24 ?_
  refine lv_if_eq (tgt := 33) hx hb dX0_feedMany_27 (by decide) (fun hz => False.elim (absurd hz (by decide))) (fun hz => ?_)
  refine lv_bipush (v := -3) hx hb dX0_feedMany_30 (by decide) ?_
  exact hret _ (()) _ _ _ _ hP hD hS (rfl) dX0_feedMany_32
end
section
/-! CONSTRUCTORS: a contract whose world grows -/
def ZN {S : Type} (l : Launch) (y : MethodName) (b : ByteArray) (k : Nat) (rm : Room) (D : va_G) (cl : List vw_C) (av : List Value) (W0 : va_W) (post : S → Prop) (Wf : S → va_W) (Tf : S → List (ClassId × FieldType)) : Prop :=
  ∀ sz : Nat, Met l y (Cond.code y b k none :: zt) rm (zPc D cl [] av W0 sz) (va_Qv post (fun u t => va_P D cl (Wf u) t.heap ∧ va_K D cl (Tf u) t ∧ va_D (va_A W0 sz) (Wf u)) (va_A W0 sz)) rm.cells rm.slots (va_A W0 sz)
theorem ZN.of {l : Launch} {y : MethodName} {b : ByteArray} {k : Nat} {rm : Room} {D : va_G} {cl : List vw_C} {av : List Value} {W0 : va_W} {S : Type} {post : S → Prop} {Wf : S → va_W} {Tf : S → List (ClassId × FieldType)} (hy : plainName y.cls = true) (hlen : (lg_sl av).length ≤ k)
    (body : ∀ (p : Program) (e : Env) (s : State) (m : MethodId) (args : Array Value) (below : List Frame) (meth : Method) (c : Code) (A : Nat → Prop) (Q : State → Prop) (ls : Array Slot), CallFix p m c b k s args zt y.cls → meth.name = y.name → va_K D cl [] s → va_P D cl W0 s.heap → va_D A W0 → va_S A s.heap s.heap [] → (∀ q, s.heap.size ≤ q → A q) → lv_has ls k (lv_args 0 av) →
      (∀ (u : S) (H : Heap) (locs : List Loc) (pc : Nat) (ls : Array Slot), va_K D cl (Tf u) s → va_P D cl (Wf u) H → va_D A (Wf u) → va_S A s.heap H locs → post u → decode b pc = .ok (.return_, 1) → W p l e rm s m args below meth c H locs rm.cells rm.slots Q (F0 m pc ls [])) →
      W p l e rm s m args below meth c s.heap [] 0 0 Q (F0 m 0 ls [])) : ZN l y b k rm D cl av W0 post Wf Tf := by
  intro sz
  refine Met.ofW (cc := b) (maxL := k) (ret := none) hy rfl ?_
  intro p e s m args below meth c s₁ B hml hv
  obtain ⟨rfl, hsz, hP, hK, hD0⟩ := hv
  have hts := atoms_spec (ws := Cond.code y b k none :: zt) B.pre
  subst hsz
  rw [lg_entry_eq]
  exact body p e s m _ below meth c _ _ _ ⟨B.exec, B.bytes, hml, findClass_of_methodNamed B.named, fun w hw => hts w (List.mem_cons_of_mem _ hw)⟩ (name_of_methodNamed B.named B.method).1 hK hP (hD0.self (sz := s.heap.size)) va_S.rf (fun q h => Or.inr h) (lv_entry av hlen)
    (fun u H locs pc ls hK hP hD hS hw hdg => W.vret B.exec B.bytes B.returns (fun t ht hW => ⟨⟨u, rfl, hw, by rw [ht]; exact hP, va_K.moved hW.alike hK, hD⟩, hS.F ht⟩) hS.2.2 hdg B.notSynchronized)
section ZC
variable {p : Program} {l : Launch} {e : Env} {R : Room} {s : State} {m : MethodId} {args : Array Value} {below : List Frame} {meth : Method} {c : Code} {H : Heap} {locs : List Loc} {cells slots : Nat} {Q : State → Prop}
variable {cc : ByteArray} {pc : Nat} {ls : Array Slot} {rest : List Value} {D : va_G} {cl : List vw_C} {A : Nat → Prop} {a : Nat} {tys : List (ClassId × FieldType)} {nL idx : Nat} {own : String}
theorem z_putF {C : String} {T : u_T} {N ci : Nat} {ws : va_W} (C0 : CallFix p m c cc nL s args zt own) (hin : ∀ w ∈ u_ws C T N, w ∈ zt) (ty0 : Nat → FieldType) (hty : ∀ k, k < N → parseFieldDescriptor (T k).2.2.1 = some (ty0 k)) (hnm : ∀ a, a < N → ∀ b, b < N → a ≠ b → (T a).2.1 ≠ (T b).2.1) (hK : va_K D cl tys s) (hP : va_P D cl ws H) (hD : va_D A ws) (hS : va_S A s.heap H locs) (hname : meth.name = "<init>") (q0 : Nat) {fs : List Value} (he : ws[q0]? = some (a, .inr (ci, fs))) (hc : cl[ci]? = some (C, T, N)) (k : Nat) (hk : k < N) (hl : Cond.fieldLink own idx (T k).1 (T k).2.1 (T k).2.2.1 ∈ zt) (hfin : (T k).2.2.2 = true) (hdecl : (T k).1 = own) {ty : FieldType} {v : Value} (hd : parseFieldDescriptor (T k).2.2.1 = some ty) (hn : narrow ty v = v) (hfit : fits ty v = true) (hlen : k < fs.length) (hdg : decode cc pc = .ok (.putfield idx, 3))
    (kk : ∀ (H1 : Heap) (locs1 : List Loc), va_P D cl (ws.set q0 (a, .inr (ci, fs.set k v))) H1 → va_D A (ws.set q0 (a, .inr (ci, fs.set k v))) → va_S A s.heap H1 locs1 → W p l e R s m args below meth c H1 locs1 cells slots Q (F0 m (pc + 3) ls rest)) : W p l e R s m args below meth c H locs cells slots Q (F0 m pc ls (v :: .ref a :: rest)) :=
  va_putF C0.1 C0.2.1 C0.2.2.2.2 hin ty0 hty hnm C0.2.2.2.1 hK hP hD hS q0 he hc k hk (C0.2.2.2.2 _ hl) (fun _ h => h) hfin hname hdecl hd hn hfit hlen hdg kk
theorem z_newi {ws : va_W} {n : Nat} (C0 : CallFix p m c cc nL s args zt own) (hw : Cond.arrayClass .int ∈ zt) (hK : va_K D cl tys s) (hP : va_P D cl ws H) (hD : va_D A ws) (hS : va_S A s.heap H locs) (hA : ∀ q, s.heap.size ≤ q → A q) (hn : n < 100000) (hcells : cells + 1 ≤ R.cells) (hslots : slots + n ≤ R.slots) (hdg : decode cc pc = .ok (.newarray .int, 2))
    (kk : ∀ (q : Nat) (cA : ClassId) (H1 : Heap), va_K D cl (tys ++ [(cA, .int)]) s → va_P D cl (ws ++ [(q, .inl (cA, n, .inl (fun _ => 0)))]) H1 → va_D A (ws ++ [(q, .inl (cA, n, .inl (fun _ => 0)))]) → va_S A s.heap H1 locs → W p l e R s m args below meth c H1 locs (cells + 1) (slots + n) Q (F0 m (pc + 2) ls (.ref q :: rest))) : W p l e R s m args below meth c H locs cells slots Q (F0 m pc ls (.int (nI n) :: rest)) :=
  va_newa (atype := .int) (ty := .int) (a0 := (n, .inl (fun _ => 0))) (N' := n) C0.1 C0.2.1 (C0.2.2.2.2 _ hw) rfl hK hP hD hS hA (fun _ => rfl) (nI_pos (by omega)) (nI_clamp (by omega)) (by show n * 4 ≤ 536870912; omega) hcells hslots hdg kk
theorem z_newz {ws : va_W} {n : Nat} (C0 : CallFix p m c cc nL s args zt own) (hw : Cond.arrayClass .boolean ∈ zt) (hK : va_K D cl tys s) (hP : va_P D cl ws H) (hD : va_D A ws) (hS : va_S A s.heap H locs) (hA : ∀ q, s.heap.size ≤ q → A q) (hn : n < 100000) (hcells : cells + 1 ≤ R.cells) (hslots : slots + n ≤ R.slots) (hdg : decode cc pc = .ok (.newarray .boolean, 2))
    (kk : ∀ (q : Nat) (cA : ClassId) (H1 : Heap), va_K D cl (tys ++ [(cA, .boolean)]) s → va_P D cl (ws ++ [(q, .inl (cA, n, .inl (fun _ => 0)))]) H1 → va_D A (ws ++ [(q, .inl (cA, n, .inl (fun _ => 0)))]) → va_S A s.heap H1 locs → W p l e R s m args below meth c H1 locs (cells + 1) (slots + n) Q (F0 m (pc + 2) ls (.ref q :: rest))) : W p l e R s m args below meth c H locs cells slots Q (F0 m pc ls (.int (nI n) :: rest)) :=
  va_newa (atype := .boolean) (ty := .boolean) (a0 := (n, .inl (fun _ => 0))) (N' := n) C0.1 C0.2.1 (C0.2.2.2.2 _ hw) rfl hK hP hD hS hA (fun _ => rfl) (nI_pos (by omega)) (nI_clamp (by omega)) (by show n * 1 ≤ 536870912; omega) hcells hslots hdg kk
end ZC
set_option maxRecDepth 20000 in
theorem zk_ai : Cond.arrayClass .int ∈ zt := zt_of (List.mem_append_left _ (by decide +kernel)) rfl
set_option maxRecDepth 20000 in
theorem zk_az : Cond.arrayClass .boolean ∈ zt := zt_of (List.mem_append_left _ (by decide +kernel)) rfl
set_option maxRecDepth 20000 in
theorem zk_al : Cond.arrayClass .long ∈ zt := zt_of (List.mem_append_left _ (by decide +kernel)) rfl
abbrev rX_count : Room := { frames := 1, cells := 0, slots := 0, locals := 20 }
set_option maxHeartbeats 4000000 in
set_option maxRecDepth 100000 in
theorem c_count_0 (l : Launch) (D : va_G) (ad : Nat → Nat) (cs : Nat → ClassId) (w n nr : Nat) (hn : n < 2 ^ 31) (hnr : nr < 2 ^ 31) (K V O M RL G : Nat → Int32) (fed sp se co op ck cv : Int32)   : ZR l yX0_count cX0_count 2 rX_count D classes (xt cs) [.ref (ad 0), .int 0] (xw ad cs w n nr K V O M RL G fed sp se co op ck cv) (fun r => r = fed) := by
  refine ZR.of (by decide +kernel) (Nat.le_of_ble_eq_true rfl) ?_
  intro p e s m args below meth c Q ls C0 hK hP hD hl hret
  have hx := C0.1
  have hb := C0.2.1
  have hl : lv_has ls 2 [(0, .ref (ad 0)), (1, .int 0)] := hl
  refine lv_iload_n hx hb dX0_count_0 rfl (lv_at hl 1 rfl) ?_
  refine lv_if_lt (tgt := 9) hx hb dX0_count_1 (by decide) (fun hz => False.elim (absurd hz (by decide))) (fun hz => ?_)
  refine lv_iload_n hx hb dX0_count_4 rfl (lv_at hl 1 rfl) ?_
  refine lv_iconst (v := 4) hx hb dX0_count_5 (by decide) ?_
  refine lv_icmp_lt (tgt := 19) hx hb dX0_count_6 (by decide) (fun hz => ?_) (fun hz => False.elim (hz (by decide)))
  refine lv_iload_n hx hb dX0_count_19 rfl (lv_at hl 1 rfl) ?_
  refine lv_tableIn (tgt := 48) hx hb dX0_count_20 (by decide) (by decide) rfl (by decide) ?_
  refine lv_aload_n hx hb dX0_count_48 rfl (lv_at hl 0 rfl) ?_
  refine z_get C0 zt_x0 hK hP 0 rfl rfl 7 (by decide) fl_X0_44 rfl dX0_count_49 ?_
  exact hret _ _ _ (rfl) dX0_count_52
set_option maxHeartbeats 4000000 in
set_option maxRecDepth 100000 in
theorem c_count_1 (l : Launch) (D : va_G) (ad : Nat → Nat) (cs : Nat → ClassId) (w n nr : Nat) (hn : n < 2 ^ 31) (hnr : nr < 2 ^ 31) (K V O M RL G : Nat → Int32) (fed sp se co op ck cv : Int32)   : ZR l yX0_count cX0_count 2 rX_count D classes (xt cs) [.ref (ad 0), .int 1] (xw ad cs w n nr K V O M RL G fed sp se co op ck cv) (fun r => r = sp * nI w) := by
  refine ZR.of (by decide +kernel) (Nat.le_of_ble_eq_true rfl) ?_
  intro p e s m args below meth c Q ls C0 hK hP hD hl hret
  have hx := C0.1
  have hb := C0.2.1
  have hl : lv_has ls 2 [(0, .ref (ad 0)), (1, .int 1)] := hl
  refine lv_iload_n hx hb dX0_count_0 rfl (lv_at hl 1 rfl) ?_
  refine lv_if_lt (tgt := 9) hx hb dX0_count_1 (by decide) (fun hz => False.elim (absurd hz (by decide))) (fun hz => ?_)
  refine lv_iload_n hx hb dX0_count_4 rfl (lv_at hl 1 rfl) ?_
  refine lv_iconst (v := 4) hx hb dX0_count_5 (by decide) ?_
  refine lv_icmp_lt (tgt := 19) hx hb dX0_count_6 (by decide) (fun hz => ?_) (fun hz => False.elim (hz (by decide)))
  refine lv_iload_n hx hb dX0_count_19 rfl (lv_at hl 1 rfl) ?_
  refine lv_tableIn (tgt := 53) hx hb dX0_count_20 (by decide) (by decide) rfl (by decide) ?_
  refine lv_aload_n hx hb dX0_count_53 rfl (lv_at hl 0 rfl) ?_
  refine zr_callV (As := []) (rest := []) (q0 := 0) (ci := 0) C0 (c_spilledPairs l D ad cs w n nr hn hnr K V O M RL G fed sp se co op ck cv) zv_X0_X0_spilledPairs ⟨by decide, by decide⟩ ⟨rfl, rfl⟩ rfl hK hP hD rfl rfl rfl hl.1 rfl (Nat.le_of_ble_eq_true rfl) dX0_count_54 ⟨Nat.zero_le _, Nat.zero_le _⟩ (fun r1 er1 => ?_)
  subst er1
  exact hret _ _ _ (rfl) dX0_count_57
set_option maxHeartbeats 4000000 in
set_option maxRecDepth 100000 in
theorem c_count_2 (l : Launch) (D : va_G) (ad : Nat → Nat) (cs : Nat → ClassId) (w n nr : Nat) (hn : n < 2 ^ 31) (hnr : nr < 2 ^ 31) (K V O M RL G : Nat → Int32) (fed sp se co op ck cv : Int32)   : ZR l yX0_count cX0_count 2 rX_count D classes (xt cs) [.ref (ad 0), .int 2] (xw ad cs w n nr K V O M RL G fed sp se co op ck cv) (fun r => r = co) := by
  refine ZR.of (by decide +kernel) (Nat.le_of_ble_eq_true rfl) ?_
  intro p e s m args below meth c Q ls C0 hK hP hD hl hret
  have hx := C0.1
  have hb := C0.2.1
  have hl : lv_has ls 2 [(0, .ref (ad 0)), (1, .int 2)] := hl
  refine lv_iload_n hx hb dX0_count_0 rfl (lv_at hl 1 rfl) ?_
  refine lv_if_lt (tgt := 9) hx hb dX0_count_1 (by decide) (fun hz => False.elim (absurd hz (by decide))) (fun hz => ?_)
  refine lv_iload_n hx hb dX0_count_4 rfl (lv_at hl 1 rfl) ?_
  refine lv_iconst (v := 4) hx hb dX0_count_5 (by decide) ?_
  refine lv_icmp_lt (tgt := 19) hx hb dX0_count_6 (by decide) (fun hz => ?_) (fun hz => False.elim (hz (by decide)))
  refine lv_iload_n hx hb dX0_count_19 rfl (lv_at hl 1 rfl) ?_
  refine lv_tableIn (tgt := 58) hx hb dX0_count_20 (by decide) (by decide) rfl (by decide) ?_
  refine lv_aload_n hx hb dX0_count_58 rfl (lv_at hl 0 rfl) ?_
  refine z_get C0 zt_x0 hK hP 0 rfl rfl 10 (by decide) fl_X0_54 rfl dX0_count_59 ?_
  exact hret _ _ _ (rfl) dX0_count_62
set_option maxHeartbeats 4000000 in
set_option maxRecDepth 100000 in
theorem c_count_3u (l : Launch) (D : va_G) (ad : Nat → Nat) (cs : Nat → ClassId) (w n nr : Nat) (hn : n < 2 ^ 31) (hnr : nr < 2 ^ 31) (K V O M RL G : Nat → Int32) (fed sp co op ck cv : Int32)   : ZR l yX0_count cX0_count 2 rX_count D classes (xt cs) [.ref (ad 0), .int 3] (xw ad cs w n nr K V O M RL G fed sp 0 co op ck cv) (fun r => r = sp) := by
  refine ZR.of (by decide +kernel) (Nat.le_of_ble_eq_true rfl) ?_
  intro p e s m args below meth c Q ls C0 hK hP hD hl hret
  have hx := C0.1
  have hb := C0.2.1
  have hl : lv_has ls 2 [(0, .ref (ad 0)), (1, .int 3)] := hl
  refine lv_iload_n hx hb dX0_count_0 rfl (lv_at hl 1 rfl) ?_
  refine lv_if_lt (tgt := 9) hx hb dX0_count_1 (by decide) (fun hz => False.elim (absurd hz (by decide))) (fun hz => ?_)
  refine lv_iload_n hx hb dX0_count_4 rfl (lv_at hl 1 rfl) ?_
  refine lv_iconst (v := 4) hx hb dX0_count_5 (by decide) ?_
  refine lv_icmp_lt (tgt := 19) hx hb dX0_count_6 (by decide) (fun hz => ?_) (fun hz => False.elim (hz (by decide)))
  refine lv_iload_n hx hb dX0_count_19 rfl (lv_at hl 1 rfl) ?_
  refine lv_tableOut (tgt := 63) hx hb dX0_count_20 (by decide) (by decide) ?_
  refine lv_aload_n hx hb dX0_count_63 rfl (lv_at hl 0 rfl) ?_
  refine z_get C0 zt_x0 hK hP 0 rfl rfl 9 (by decide) fl_X0_50 rfl dX0_count_64 ?_
  refine lv_if_eq (tgt := 77) hx hb dX0_count_67 (by decide) (fun hz => ?_) (fun hz => False.elim (hz rfl))
  refine lv_aload_n hx hb dX0_count_77 rfl (lv_at hl 0 rfl) ?_
  refine z_get C0 zt_x0 hK hP 0 rfl rfl 8 (by decide) fl_X0_47 rfl dX0_count_78 ?_
  exact hret _ _ _ (rfl) dX0_count_81
set_option maxHeartbeats 4000000 in
set_option maxRecDepth 100000 in
theorem c_count_3s (l : Launch) (D : va_G) (ad : Nat → Nat) (cs : Nat → ClassId) (w n nr : Nat) (hn : n < 2 ^ 31) (hnr : nr < 2 ^ 31) (K V O M RL G : Nat → Int32) (fed sp co op ck cv : Int32)   : ZR l yX0_count cX0_count 2 rX_count D classes (xt cs) [.ref (ad 0), .int 3] (xw ad cs w n nr K V O M RL G fed sp 1 co op ck cv) (fun r => r = op) := by
  refine ZR.of (by decide +kernel) (Nat.le_of_ble_eq_true rfl) ?_
  intro p e s m args below meth c Q ls C0 hK hP hD hl hret
  have hx := C0.1
  have hb := C0.2.1
  have hl : lv_has ls 2 [(0, .ref (ad 0)), (1, .int 3)] := hl
  refine lv_iload_n hx hb dX0_count_0 rfl (lv_at hl 1 rfl) ?_
  refine lv_if_lt (tgt := 9) hx hb dX0_count_1 (by decide) (fun hz => False.elim (absurd hz (by decide))) (fun hz => ?_)
  refine lv_iload_n hx hb dX0_count_4 rfl (lv_at hl 1 rfl) ?_
  refine lv_iconst (v := 4) hx hb dX0_count_5 (by decide) ?_
  refine lv_icmp_lt (tgt := 19) hx hb dX0_count_6 (by decide) (fun hz => ?_) (fun hz => False.elim (hz (by decide)))
  refine lv_iload_n hx hb dX0_count_19 rfl (lv_at hl 1 rfl) ?_
  refine lv_tableOut (tgt := 63) hx hb dX0_count_20 (by decide) (by decide) ?_
  refine lv_aload_n hx hb dX0_count_63 rfl (lv_at hl 0 rfl) ?_
  refine z_get C0 zt_x0 hK hP 0 rfl rfl 9 (by decide) fl_X0_50 rfl dX0_count_64 ?_
  refine lv_if_eq (tgt := 77) hx hb dX0_count_67 (by decide) (fun hz => False.elim (absurd hz (by decide))) (fun hz => ?_)
  refine lv_aload_n hx hb dX0_count_70 rfl (lv_at hl 0 rfl) ?_
  refine z_get C0 zt_x0 hK hP 0 rfl rfl 11 (by decide) fl_X0_57 rfl dX0_count_71 ?_
  refine lv_goto (tgt := 81) hx hb dX0_count_74 (by decide) ?_
  exact hret _ _ _ (rfl) dX0_count_81
set_option maxRecDepth 20000 in
theorem zk_oi : Cond.instanceMethod objectInit ∈ zt := zt_of (List.mem_of_getElem? (i := 15) (by rfl)) (by decide +kernel)
set_option maxRecDepth 20000 in
theorem zk_oc : Cond.code objectInit ⟨#[0xb1]⟩ 1 none ∈ zt := zt_of (List.mem_of_getElem? (i := 16) (by rfl)) (by decide +kernel)
set_option maxRecDepth 20000 in
theorem zk_ol0 : Cond.methodLink RX0 1 objectInit ∈ zt := zt_of (List.mem_of_getElem? (i := 14) (by rfl)) (by decide +kernel)
set_option maxRecDepth 20000 in
theorem zk_ol1 : Cond.methodLink RX1 1 objectInit ∈ zt := zt_of (List.mem_of_getElem? (i := 36) (by rfl)) (by decide +kernel)
abbrev rX_init : Room := { frames := 1, cells := 6, slots := 10261, locals := 21 }
set_option maxHeartbeats 4000000 in
set_option maxRecDepth 100000 in
theorem c_init (l : Launch) (D : va_G) (h0 : Nat) (w0 s0 : Int32) (w sp nr n : Nat) (hw : (if 1 < (if w0 < 64 then w0 else 64) then (if w0 < 64 then w0 else 64) else 1) = nI w) (hs : (if 1 < (if s0 < 2000 then s0 else 2000) then (if s0 < 2000 then s0 else 2000) else 1) = nI sp) (hw0 : 0 < w) (hw1 : w ≤ 64) (hs1 : sp ≤ 2000) (hnr : nr = sp / w + 1) (hnn : n = w * nr) (hn : n ≤ 2064) (hr : nr ≤ 2001) : ZN (S := ((Nat → Nat) × (Nat → ClassId))) l yX0_init cX0_init 5 rX_init D classes [.ref h0, .int w0, .int s0] [(h0, .inr (0, [.int 0, .int 0, .null, .null, .null, .null, .null, .int 0, .int 0, .int 0, .int 0, .int 0, .int 0, .int 0, .null]))] (fun u => u.1 0 = h0) (fun u => xw u.1 u.2 w n nr (fun _ => 0) (fun _ => 0) (fun _ => 0) (fun _ => 0) (fun _ => 0) (fun _ => 0) 0 0 0 0 0 0 0) (fun u => xt u.2) := by
  refine ZN.of (by decide +kernel) (Nat.le_of_ble_eq_true rfl) ?_
  intro p e s m args below meth c A Q ls C0 hname hK hP hD hS hA hl hret
  have hx := C0.1
  have hb := C0.2.1
  have hl : lv_has ls 5 [(0, .ref h0), (1, .int w0), (2, .int s0)] := hl
  refine lv_aload_n hx hb dX0_init_0 rfl (lv_at hl 0 rfl) ?_
  refine W.objInit hx hb C0.2.2.2.1 (C0.2.2.2.2 _ zk_ol0) (C0.2.2.2.2 _ zk_oi) (C0.2.2.2.2 _ zk_oc) rfl (hl.1.trans C0.2.2.1.symm) rfl dX0_init_1 (by decide) (Nat.le_of_ble_eq_true rfl) ?_
  refine W.eq (g2 := F0 m 4 ls []) rfl ?_
  refine lv_aload_n hx hb dX0_init_4 rfl (lv_at hl 0 rfl) ?_
  refine lv_iconst (v := 1) hx hb dX0_init_5 (by decide) ?_
  refine lv_bipush (v := 64) hx hb dX0_init_6 (by decide) ?_
  refine lv_iload_n hx hb dX0_init_8 rfl (lv_at hl 1 rfl) ?_
  refine z_min C0 zm_min hl.1 ⟨by decide, Nat.le_of_ble_eq_true rfl⟩ ⟨Nat.zero_le _, Nat.zero_le _⟩ dX0_init_9 ?_
  refine z_max C0 zm_max hl.1 ⟨by decide, Nat.le_of_ble_eq_true rfl⟩ ⟨Nat.zero_le _, Nat.zero_le _⟩ dX0_init_12 ?_
  refine z_eq (show (if 1 < (if w0 < 64 then w0 else 64) then (if w0 < 64 then w0 else 64) else 1) = nI w from hw) ?_
  refine z_putF (ty := .int) C0 zt_x0 tyX0 tyX0_ok nmX0 hK hP hD hS hname 0 rfl rfl 0 (by decide) fl_X0_18 rfl rfl (by decide +kernel) rfl rfl (Nat.le_of_ble_eq_true rfl) dX0_init_15 (fun H locs hP hD hS => ?_)
  have hP : va_P D classes [(h0, .inr (0, [.int (nI w), .int 0, .null, .null, .null, .null, .null, .int 0, .int 0, .int 0, .int 0, .int 0, .int 0, .int 0, .null]))] H := hP
  have hD : va_D A [(h0, .inr (0, [.int (nI w), .int 0, .null, .null, .null, .null, .null, .int 0, .int 0, .int 0, .int 0, .int 0, .int 0, .int 0, .null]))] := hD
  refine lv_iconst (v := 1) hx hb dX0_init_18 (by decide) ?_
  refine lv_sipush (v := 2000) hx hb dX0_init_19 (by decide) ?_
  refine lv_iload_n hx hb dX0_init_22 rfl (lv_at hl 2 rfl) ?_
  refine z_min C0 zm_min hl.1 ⟨by decide, Nat.le_of_ble_eq_true rfl⟩ ⟨Nat.zero_le _, Nat.zero_le _⟩ dX0_init_23 ?_
  refine z_max C0 zm_max hl.1 ⟨by decide, Nat.le_of_ble_eq_true rfl⟩ ⟨Nat.zero_le _, Nat.zero_le _⟩ dX0_init_26 ?_
  refine z_eq (show (if 1 < (if s0 < 2000 then s0 else 2000) then (if s0 < 2000 then s0 else 2000) else 1) = nI sp from hs) ?_
  refine lv_istore_n (lv' := [(3, .int (nI sp)), (0, .ref h0), (1, .int w0), (2, .int s0)]) hx hb dX0_init_29 rfl hl (by decide) rfl (fun ls hl => ?_)
  refine lv_iload_n hx hb dX0_init_30 rfl (lv_at hl 0 rfl) ?_
  refine lv_aload_n hx hb dX0_init_31 rfl (lv_at hl 1 rfl) ?_
  refine z_get C0 zt_x0 hK hP 0 rfl rfl 0 (by decide) fl_X0_18 rfl dX0_init_32 ?_
  refine lv_idiv hx hb dX0_init_35 (nI_ne0 hw0 (by omega)) ?_
  refine z_eq (show ((nI sp) / (nI w)) = nI (sp / w) from pk_div (by omega) hw0 (by omega)) ?_
  refine lv_iconst (v := 1) hx hb dX0_init_36 (by decide) ?_
  refine lv_iadd hx hb dX0_init_37 ?_
  refine z_eq (show ((nI (sp / w)) + 1) = nI nr from by rw [hnr]; exact nI_1 _) ?_
  refine lv_istore (lv' := [(4, .int (nI nr)), (3, .int (nI sp)), (0, .ref h0), (1, .int w0), (2, .int s0)]) hx hb dX0_init_38 hl (by decide) rfl (fun ls hl => ?_)
  refine lv_aload_n hx hb dX0_init_40 rfl (lv_at hl 2 rfl) ?_
  refine lv_aload_n hx hb dX0_init_41 rfl (lv_at hl 2 rfl) ?_
  refine z_get C0 zt_x0 hK hP 0 rfl rfl 0 (by decide) fl_X0_18 rfl dX0_init_42 ?_
  refine lv_iload hx hb dX0_init_45 (lv_at hl 0 rfl) ?_
  refine lv_imul hx hb dX0_init_47 ?_
  refine z_eq (show ((nI w) * (nI nr)) = nI n from by rw [hnn]; exact pk_mul _ _) ?_
  refine z_putF (ty := .int) C0 zt_x0 tyX0 tyX0_ok nmX0 hK hP hD hS hname 0 rfl rfl 1 (by decide) fl_X0_22 rfl rfl (by decide +kernel) rfl rfl (Nat.le_of_ble_eq_true rfl) dX0_init_48 (fun H locs hP hD hS => ?_)
  have hP : va_P D classes [(h0, .inr (0, [.int (nI w), .int (nI n), .null, .null, .null, .null, .null, .int 0, .int 0, .int 0, .int 0, .int 0, .int 0, .int 0, .null]))] H := hP
  have hD : va_D A [(h0, .inr (0, [.int (nI w), .int (nI n), .null, .null, .null, .null, .null, .int 0, .int 0, .int 0, .int 0, .int 0, .int 0, .int 0, .null]))] := hD
  refine lv_aload_n hx hb dX0_init_51 rfl (lv_at hl 2 rfl) ?_
  refine lv_aload_n hx hb dX0_init_52 rfl (lv_at hl 2 rfl) ?_
  refine z_get C0 zt_x0 hK hP 0 rfl rfl 1 (by decide) fl_X0_22 rfl dX0_init_53 ?_
  refine z_newi (n := n) C0 zk_ai hK hP hD hS hA (by omega) (show 0 + 1 ≤ 6 by decide) (show 0 + n ≤ 10261 by omega) dX0_init_56 (fun q1 e1 H hK hP hD hS => ?_)
  have hP : va_P D classes [(h0, .inr (0, [.int (nI w), .int (nI n), .null, .null, .null, .null, .null, .int 0, .int 0, .int 0, .int 0, .int 0, .int 0, .int 0, .null])), (q1, .inl (e1, n, .inl (fun _ => 0)))] H := hP
  have hD : va_D A [(h0, .inr (0, [.int (nI w), .int (nI n), .null, .null, .null, .null, .null, .int 0, .int 0, .int 0, .int 0, .int 0, .int 0, .int 0, .null])), (q1, .inl (e1, n, .inl (fun _ => 0)))] := hD
  have hK : va_K D classes [(e1, .int)] s := hK
  refine W.widen (k := 1) (n := 2064) (by omega) (by omega) ?_
  refine z_putF (ty := .array .int) C0 zt_x0 tyX0 tyX0_ok nmX0 hK hP hD hS hname 0 rfl rfl 2 (by decide) fl_X0_25 rfl rfl (by decide +kernel) rfl rfl (Nat.le_of_ble_eq_true rfl) dX0_init_58 (fun H locs hP hD hS => ?_)
  have hP : va_P D classes [(h0, .inr (0, [.int (nI w), .int (nI n), .ref q1, .null, .null, .null, .null, .int 0, .int 0, .int 0, .int 0, .int 0, .int 0, .int 0, .null])), (q1, .inl (e1, n, .inl (fun _ => 0)))] H := hP
  have hD : va_D A [(h0, .inr (0, [.int (nI w), .int (nI n), .ref q1, .null, .null, .null, .null, .int 0, .int 0, .int 0, .int 0, .int 0, .int 0, .int 0, .null])), (q1, .inl (e1, n, .inl (fun _ => 0)))] := hD
  refine lv_aload_n hx hb dX0_init_61 rfl (lv_at hl 2 rfl) ?_
  refine lv_aload_n hx hb dX0_init_62 rfl (lv_at hl 2 rfl) ?_
  refine z_get C0 zt_x0 hK hP 0 rfl rfl 1 (by decide) fl_X0_22 rfl dX0_init_63 ?_
  refine z_newi (n := n) C0 zk_ai hK hP hD hS hA (by omega) (show 1 + 1 ≤ 6 by decide) (show 2064 + n ≤ 10261 by omega) dX0_init_66 (fun q2 e2 H hK hP hD hS => ?_)
  have hP : va_P D classes [(h0, .inr (0, [.int (nI w), .int (nI n), .ref q1, .null, .null, .null, .null, .int 0, .int 0, .int 0, .int 0, .int 0, .int 0, .int 0, .null])), (q1, .inl (e1, n, .inl (fun _ => 0))), (q2, .inl (e2, n, .inl (fun _ => 0)))] H := hP
  have hD : va_D A [(h0, .inr (0, [.int (nI w), .int (nI n), .ref q1, .null, .null, .null, .null, .int 0, .int 0, .int 0, .int 0, .int 0, .int 0, .int 0, .null])), (q1, .inl (e1, n, .inl (fun _ => 0))), (q2, .inl (e2, n, .inl (fun _ => 0)))] := hD
  have hK : va_K D classes [(e1, .int), (e2, .int)] s := hK
  refine W.widen (k := 2) (n := 4128) (by omega) (by omega) ?_
  refine z_putF (ty := .array .int) C0 zt_x0 tyX0 tyX0_ok nmX0 hK hP hD hS hname 0 rfl rfl 3 (by decide) fl_X0_29 rfl rfl (by decide +kernel) rfl rfl (Nat.le_of_ble_eq_true rfl) dX0_init_68 (fun H locs hP hD hS => ?_)
  have hP : va_P D classes [(h0, .inr (0, [.int (nI w), .int (nI n), .ref q1, .ref q2, .null, .null, .null, .int 0, .int 0, .int 0, .int 0, .int 0, .int 0, .int 0, .null])), (q1, .inl (e1, n, .inl (fun _ => 0))), (q2, .inl (e2, n, .inl (fun _ => 0)))] H := hP
  have hD : va_D A [(h0, .inr (0, [.int (nI w), .int (nI n), .ref q1, .ref q2, .null, .null, .null, .int 0, .int 0, .int 0, .int 0, .int 0, .int 0, .int 0, .null])), (q1, .inl (e1, n, .inl (fun _ => 0))), (q2, .inl (e2, n, .inl (fun _ => 0)))] := hD
  refine lv_aload_n hx hb dX0_init_71 rfl (lv_at hl 2 rfl) ?_
  refine lv_aload_n hx hb dX0_init_72 rfl (lv_at hl 2 rfl) ?_
  refine z_get C0 zt_x0 hK hP 0 rfl rfl 1 (by decide) fl_X0_22 rfl dX0_init_73 ?_
  refine z_newi (n := n) C0 zk_ai hK hP hD hS hA (by omega) (show 2 + 1 ≤ 6 by decide) (show 4128 + n ≤ 10261 by omega) dX0_init_76 (fun q3 e3 H hK hP hD hS => ?_)
  have hP : va_P D classes [(h0, .inr (0, [.int (nI w), .int (nI n), .ref q1, .ref q2, .null, .null, .null, .int 0, .int 0, .int 0, .int 0, .int 0, .int 0, .int 0, .null])), (q1, .inl (e1, n, .inl (fun _ => 0))), (q2, .inl (e2, n, .inl (fun _ => 0))), (q3, .inl (e3, n, .inl (fun _ => 0)))] H := hP
  have hD : va_D A [(h0, .inr (0, [.int (nI w), .int (nI n), .ref q1, .ref q2, .null, .null, .null, .int 0, .int 0, .int 0, .int 0, .int 0, .int 0, .int 0, .null])), (q1, .inl (e1, n, .inl (fun _ => 0))), (q2, .inl (e2, n, .inl (fun _ => 0))), (q3, .inl (e3, n, .inl (fun _ => 0)))] := hD
  have hK : va_K D classes [(e1, .int), (e2, .int), (e3, .int)] s := hK
  refine W.widen (k := 3) (n := 6192) (by omega) (by omega) ?_
  refine z_putF (ty := .array .int) C0 zt_x0 tyX0 tyX0_ok nmX0 hK hP hD hS hname 0 rfl rfl 4 (by decide) fl_X0_32 rfl rfl (by decide +kernel) rfl rfl (Nat.le_of_ble_eq_true rfl) dX0_init_78 (fun H locs hP hD hS => ?_)
  have hP : va_P D classes [(h0, .inr (0, [.int (nI w), .int (nI n), .ref q1, .ref q2, .ref q3, .null, .null, .int 0, .int 0, .int 0, .int 0, .int 0, .int 0, .int 0, .null])), (q1, .inl (e1, n, .inl (fun _ => 0))), (q2, .inl (e2, n, .inl (fun _ => 0))), (q3, .inl (e3, n, .inl (fun _ => 0)))] H := hP
  have hD : va_D A [(h0, .inr (0, [.int (nI w), .int (nI n), .ref q1, .ref q2, .ref q3, .null, .null, .int 0, .int 0, .int 0, .int 0, .int 0, .int 0, .int 0, .null])), (q1, .inl (e1, n, .inl (fun _ => 0))), (q2, .inl (e2, n, .inl (fun _ => 0))), (q3, .inl (e3, n, .inl (fun _ => 0)))] := hD
  refine lv_aload_n hx hb dX0_init_81 rfl (lv_at hl 2 rfl) ?_
  refine lv_aload_n hx hb dX0_init_82 rfl (lv_at hl 2 rfl) ?_
  refine z_get C0 zt_x0 hK hP 0 rfl rfl 1 (by decide) fl_X0_22 rfl dX0_init_83 ?_
  refine z_newi (n := n) C0 zk_ai hK hP hD hS hA (by omega) (show 3 + 1 ≤ 6 by decide) (show 6192 + n ≤ 10261 by omega) dX0_init_86 (fun q4 e4 H hK hP hD hS => ?_)
  have hP : va_P D classes [(h0, .inr (0, [.int (nI w), .int (nI n), .ref q1, .ref q2, .ref q3, .null, .null, .int 0, .int 0, .int 0, .int 0, .int 0, .int 0, .int 0, .null])), (q1, .inl (e1, n, .inl (fun _ => 0))), (q2, .inl (e2, n, .inl (fun _ => 0))), (q3, .inl (e3, n, .inl (fun _ => 0))), (q4, .inl (e4, n, .inl (fun _ => 0)))] H := hP
  have hD : va_D A [(h0, .inr (0, [.int (nI w), .int (nI n), .ref q1, .ref q2, .ref q3, .null, .null, .int 0, .int 0, .int 0, .int 0, .int 0, .int 0, .int 0, .null])), (q1, .inl (e1, n, .inl (fun _ => 0))), (q2, .inl (e2, n, .inl (fun _ => 0))), (q3, .inl (e3, n, .inl (fun _ => 0))), (q4, .inl (e4, n, .inl (fun _ => 0)))] := hD
  have hK : va_K D classes [(e1, .int), (e2, .int), (e3, .int), (e4, .int)] s := hK
  refine W.widen (k := 4) (n := 8256) (by omega) (by omega) ?_
  refine z_putF (ty := .array .int) C0 zt_x0 tyX0 tyX0_ok nmX0 hK hP hD hS hname 0 rfl rfl 5 (by decide) fl_X0_35 rfl rfl (by decide +kernel) rfl rfl (Nat.le_of_ble_eq_true rfl) dX0_init_88 (fun H locs hP hD hS => ?_)
  have hP : va_P D classes [(h0, .inr (0, [.int (nI w), .int (nI n), .ref q1, .ref q2, .ref q3, .ref q4, .null, .int 0, .int 0, .int 0, .int 0, .int 0, .int 0, .int 0, .null])), (q1, .inl (e1, n, .inl (fun _ => 0))), (q2, .inl (e2, n, .inl (fun _ => 0))), (q3, .inl (e3, n, .inl (fun _ => 0))), (q4, .inl (e4, n, .inl (fun _ => 0)))] H := hP
  have hD : va_D A [(h0, .inr (0, [.int (nI w), .int (nI n), .ref q1, .ref q2, .ref q3, .ref q4, .null, .int 0, .int 0, .int 0, .int 0, .int 0, .int 0, .int 0, .null])), (q1, .inl (e1, n, .inl (fun _ => 0))), (q2, .inl (e2, n, .inl (fun _ => 0))), (q3, .inl (e3, n, .inl (fun _ => 0))), (q4, .inl (e4, n, .inl (fun _ => 0)))] := hD
  refine lv_aload_n hx hb dX0_init_91 rfl (lv_at hl 2 rfl) ?_
  refine lv_iload hx hb dX0_init_92 (lv_at hl 0 rfl) ?_
  refine z_newi (n := nr) C0 zk_ai hK hP hD hS hA (by omega) (show 4 + 1 ≤ 6 by decide) (show 8256 + nr ≤ 10261 by omega) dX0_init_94 (fun q5 e5 H hK hP hD hS => ?_)
  have hP : va_P D classes [(h0, .inr (0, [.int (nI w), .int (nI n), .ref q1, .ref q2, .ref q3, .ref q4, .null, .int 0, .int 0, .int 0, .int 0, .int 0, .int 0, .int 0, .null])), (q1, .inl (e1, n, .inl (fun _ => 0))), (q2, .inl (e2, n, .inl (fun _ => 0))), (q3, .inl (e3, n, .inl (fun _ => 0))), (q4, .inl (e4, n, .inl (fun _ => 0))), (q5, .inl (e5, nr, .inl (fun _ => 0)))] H := hP
  have hD : va_D A [(h0, .inr (0, [.int (nI w), .int (nI n), .ref q1, .ref q2, .ref q3, .ref q4, .null, .int 0, .int 0, .int 0, .int 0, .int 0, .int 0, .int 0, .null])), (q1, .inl (e1, n, .inl (fun _ => 0))), (q2, .inl (e2, n, .inl (fun _ => 0))), (q3, .inl (e3, n, .inl (fun _ => 0))), (q4, .inl (e4, n, .inl (fun _ => 0))), (q5, .inl (e5, nr, .inl (fun _ => 0)))] := hD
  have hK : va_K D classes [(e1, .int), (e2, .int), (e3, .int), (e4, .int), (e5, .int)] s := hK
  refine W.widen (k := 5) (n := 10257) (by omega) (by omega) ?_
  refine z_putF (ty := .array .int) C0 zt_x0 tyX0 tyX0_ok nmX0 hK hP hD hS hname 0 rfl rfl 6 (by decide) fl_X0_38 rfl rfl (by decide +kernel) rfl rfl (Nat.le_of_ble_eq_true rfl) dX0_init_96 (fun H locs hP hD hS => ?_)
  have hP : va_P D classes [(h0, .inr (0, [.int (nI w), .int (nI n), .ref q1, .ref q2, .ref q3, .ref q4, .ref q5, .int 0, .int 0, .int 0, .int 0, .int 0, .int 0, .int 0, .null])), (q1, .inl (e1, n, .inl (fun _ => 0))), (q2, .inl (e2, n, .inl (fun _ => 0))), (q3, .inl (e3, n, .inl (fun _ => 0))), (q4, .inl (e4, n, .inl (fun _ => 0))), (q5, .inl (e5, nr, .inl (fun _ => 0)))] H := hP
  have hD : va_D A [(h0, .inr (0, [.int (nI w), .int (nI n), .ref q1, .ref q2, .ref q3, .ref q4, .ref q5, .int 0, .int 0, .int 0, .int 0, .int 0, .int 0, .int 0, .null])), (q1, .inl (e1, n, .inl (fun _ => 0))), (q2, .inl (e2, n, .inl (fun _ => 0))), (q3, .inl (e3, n, .inl (fun _ => 0))), (q4, .inl (e4, n, .inl (fun _ => 0))), (q5, .inl (e5, nr, .inl (fun _ => 0)))] := hD
  refine lv_aload_n hx hb dX0_init_99 rfl (lv_at hl 2 rfl) ?_
  refine lv_iconst (v := 4) hx hb dX0_init_100 (by decide) ?_
  refine z_eq (show (4) = nI 4 from rfl) ?_
  refine z_newi (n := 4) C0 zk_ai hK hP hD hS hA (by omega) (show 5 + 1 ≤ 6 by decide) (show 10257 + 4 ≤ 10261 by omega) dX0_init_101 (fun q6 e6 H hK hP hD hS => ?_)
  have hP : va_P D classes [(h0, .inr (0, [.int (nI w), .int (nI n), .ref q1, .ref q2, .ref q3, .ref q4, .ref q5, .int 0, .int 0, .int 0, .int 0, .int 0, .int 0, .int 0, .null])), (q1, .inl (e1, n, .inl (fun _ => 0))), (q2, .inl (e2, n, .inl (fun _ => 0))), (q3, .inl (e3, n, .inl (fun _ => 0))), (q4, .inl (e4, n, .inl (fun _ => 0))), (q5, .inl (e5, nr, .inl (fun _ => 0))), (q6, .inl (e6, 4, .inl (fun _ => 0)))] H := hP
  have hD : va_D A [(h0, .inr (0, [.int (nI w), .int (nI n), .ref q1, .ref q2, .ref q3, .ref q4, .ref q5, .int 0, .int 0, .int 0, .int 0, .int 0, .int 0, .int 0, .null])), (q1, .inl (e1, n, .inl (fun _ => 0))), (q2, .inl (e2, n, .inl (fun _ => 0))), (q3, .inl (e3, n, .inl (fun _ => 0))), (q4, .inl (e4, n, .inl (fun _ => 0))), (q5, .inl (e5, nr, .inl (fun _ => 0))), (q6, .inl (e6, 4, .inl (fun _ => 0)))] := hD
  have hK : va_K D classes [(e1, .int), (e2, .int), (e3, .int), (e4, .int), (e5, .int), (e6, .int)] s := hK
  refine W.widen (k := 6) (n := 10261) (by omega) (by omega) ?_
  refine z_putF (ty := .array .int) C0 zt_x0 tyX0 tyX0_ok nmX0 hK hP hD hS hname 0 rfl rfl 14 (by decide) fl_X0_41 rfl rfl (by decide +kernel) rfl rfl (Nat.le_of_ble_eq_true rfl) dX0_init_103 (fun H locs hP hD hS => ?_)
  have hP : va_P D classes [(h0, .inr (0, [.int (nI w), .int (nI n), .ref q1, .ref q2, .ref q3, .ref q4, .ref q5, .int 0, .int 0, .int 0, .int 0, .int 0, .int 0, .int 0, .ref q6])), (q1, .inl (e1, n, .inl (fun _ => 0))), (q2, .inl (e2, n, .inl (fun _ => 0))), (q3, .inl (e3, n, .inl (fun _ => 0))), (q4, .inl (e4, n, .inl (fun _ => 0))), (q5, .inl (e5, nr, .inl (fun _ => 0))), (q6, .inl (e6, 4, .inl (fun _ => 0)))] H := hP
  have hD : va_D A [(h0, .inr (0, [.int (nI w), .int (nI n), .ref q1, .ref q2, .ref q3, .ref q4, .ref q5, .int 0, .int 0, .int 0, .int 0, .int 0, .int 0, .int 0, .ref q6])), (q1, .inl (e1, n, .inl (fun _ => 0))), (q2, .inl (e2, n, .inl (fun _ => 0))), (q3, .inl (e3, n, .inl (fun _ => 0))), (q4, .inl (e4, n, .inl (fun _ => 0))), (q5, .inl (e5, nr, .inl (fun _ => 0))), (q6, .inl (e6, 4, .inl (fun _ => 0)))] := hD
  exact hret ((fun k => match k with | 0 => h0 | 1 => q1 | 2 => q2 | 3 => q3 | 4 => q4 | 5 => q5 | _ => q6, fun k => match k with | 1 => e1 | 2 => e2 | 3 => e3 | 4 => e4 | 5 => e5 | _ => e6)) _ _ _ _ hK hP hD hS (rfl) dX0_init_106
end
section
/-! X1: the reference's cells; rows on arrays by natural places -/
section ZM
variable {p : Program} {l : Launch} {e : Env} {R : Room} {s : State} {m : MethodId} {args : Array Value} {below : List Frame} {meth : Method} {c : Code} {H : Heap} {locs : List Loc} {cells slots : Nat} {Q : State → Prop}
variable {cc : ByteArray} {pc : Nat} {ls : Array Slot} {rest : List Value} {D : va_G} {cl : List vw_C} {A : Nat → Prop} {a : Nat} {tys : List (ClassId × FieldType)} {ws : va_W} {nL : Nat} {own : String}
theorem z_ild {cA : ClassId} {n j : Nat} {f : Nat → Int32} (C0 : CallFix p m c cc nL s args zt own) (hK : va_K D cl tys s) (hP : va_P D cl ws H) (q0 t0 : Nat) (ha : ws[q0]? = some (a, .inl (cA, n, .inl f))) (ht : tys[t0]? = some (cA, .int)) (hj : j < n) (hn : n < 2 ^ 31) (hdg : decode cc pc = .ok (.iaload, 1))
    (kk : W p l e R s m args below meth c H locs cells slots Q (F0 m (pc + 1) ls (.int (f j) :: rest))) : W p l e R s m args below meth c H locs cells slots Q (F0 m pc ls (.int (nI j) :: .ref a :: rest)) :=
  va_iald C0.1 C0.2.1 hK hP q0 t0 ha ht (vp_in_nI hj hn) hdg (by rw [nI_clamp (by omega)]; exact kk)
theorem z_ist {cA : ClassId} {n j : Nat} {f : Nat → Int32} {x : Int32} (C0 : CallFix p m c cc nL s args zt own) (hK : va_K D cl tys s) (hP : va_P D cl ws H) (hD : va_D A ws) (hS : va_S A s.heap H locs) (q0 t0 : Nat) (ha : ws[q0]? = some (a, .inl (cA, n, .inl f))) (ht : tys[t0]? = some (cA, .int)) (hj : j < n) (hn : n < 2 ^ 31) (hdg : decode cc pc = .ok (.iastore, 1))
    (kk : ∀ (H1 : Heap) (locs1 : List Loc), va_P D cl (ws.set q0 (a, .inl (cA, n, .inl (upd f j x)))) H1 → va_D A (ws.set q0 (a, .inl (cA, n, .inl (upd f j x)))) → va_S A s.heap H1 locs1 → W p l e R s m args below meth c H1 locs1 cells slots Q (F0 m (pc + 1) ls rest)) : W p l e R s m args below meth c H locs cells slots Q (F0 m pc ls (.int x :: .int (nI j) :: .ref a :: rest)) :=
  va_iast C0.1 C0.2.1 hK hP hD hS q0 t0 ha ht (vp_in_nI hj hn) hdg (by rw [nI_clamp (by omega)]; exact kk)
theorem z_bld {cA : ClassId} {n j : Nat} {f : Nat → Int32} (C0 : CallFix p m c cc nL s args zt own) (hK : va_K D cl tys s) (hP : va_P D cl ws H) (q0 t0 : Nat) (ha : ws[q0]? = some (a, .inl (cA, n, .inl f))) (ht : tys[t0]? = some (cA, .boolean)) (hj : j < n) (hn : n < 2 ^ 31) (hdg : decode cc pc = .ok (.baload, 1))
    (kk : W p l e R s m args below meth c H locs cells slots Q (F0 m (pc + 1) ls (.int (f j) :: rest))) : W p l e R s m args below meth c H locs cells slots Q (F0 m pc ls (.int (nI j) :: .ref a :: rest)) :=
  va_zald C0.1 C0.2.1 hK hP q0 t0 ha ht (vp_in_nI hj hn) hdg (by rw [nI_clamp (by omega)]; exact kk)
theorem z_bst {cA : ClassId} {n j : Nat} {f : Nat → Int32} {x : Int32} (C0 : CallFix p m c cc nL s args zt own) (hK : va_K D cl tys s) (hP : va_P D cl ws H) (hD : va_D A ws) (hS : va_S A s.heap H locs) (q0 t0 : Nat) (ha : ws[q0]? = some (a, .inl (cA, n, .inl f))) (ht : tys[t0]? = some (cA, .boolean)) (hj : j < n) (hn : n < 2 ^ 31) (hx : vp_nar .boolean x = x) (hdg : decode cc pc = .ok (.bastore, 1))
    (kk : ∀ (H1 : Heap) (locs1 : List Loc), va_P D cl (ws.set q0 (a, .inl (cA, n, .inl (upd f j x)))) H1 → va_D A (ws.set q0 (a, .inl (cA, n, .inl (upd f j x)))) → va_S A s.heap H1 locs1 → W p l e R s m args below meth c H1 locs1 cells slots Q (F0 m (pc + 1) ls rest)) : W p l e R s m args below meth c H locs cells slots Q (F0 m pc ls (.int x :: .int (nI j) :: .ref a :: rest)) :=
  va_zast C0.1 C0.2.1 hK hP hD hS q0 t0 ha ht (vp_in_nI hj hn) hdg (by rw [nI_clamp (by omega), hx]; exact kk)
end ZM
abbrev mw (ad : Nat → Nat) (cs : Nat → ClassId) (w n : Nat) (K V O LF : Nat → Int32) (th fed spl held rd gone cur nk nv gc gu gl gm : Int32) : va_W := [(ad 0, .inr (1, [.int th, .int (nI w), .int (nI n), .int fed, .int spl, .int held, .int rd, .int gone, .int cur, .int nk, .int nv, .int gc, .int gu, .int gl, .int gm, .ref (ad 1), .ref (ad 2), .ref (ad 3), .ref (ad 4)])), (ad 1, .inl (cs 1, 2064, .inl K)), (ad 2, .inl (cs 2, 2064, .inl V)), (ad 3, .inl (cs 3, 2064, .inl O)), (ad 4, .inl (cs 4, 2064, .inl LF))]
abbrev mt (cs : Nat → ClassId) : List (ClassId × FieldType) := [(cs 1, .int), (cs 2, .int), (cs 3, .int), (cs 4, .boolean)]
def xW (w r f : Nat) : Prop := r * w ≤ f ∧ f ≤ r * w + w
theorem xW_nx {w r f : Nat} (h : xW w r f) (hw : 0 < w) : xW w (rnx w r f) (f + 1) := by
  obtain ⟨h1, h2⟩ := h
  unfold rnx
  by_cases q : f < r * w + w
  · rw [if_pos q]
    exact ⟨by omega, by omega⟩
  · rw [if_neg q]
    have e : (r + 1) * w = r * w + w := Nat.succ_mul r w
    exact ⟨by omega, by omega⟩
theorem xW_fm {w r f : Nat} (h : xW w r f) (hw : 0 < w) : ∀ j, xW w (fm_r w r f j) (f + j)
  | 0 => h
  | j + 1 => xW_nx (xW_fm h hw j) hw
/-- insertion with a hole at t -/
theorem px_sh_stepH {o : Nat → Nat} {OC : Nat → Int32} {t row : Nat} (ht : 0 < t) (htr : t ≤ row) (h : ∀ a, a ≤ row → a ≠ t → OC a = nI (px_sh o t row a)) : ∀ a, a ≤ row → a ≠ t - 1 → upd OC t (nI (o (t - 1))) a = nI (px_sh o (t - 1) row a) := by
  intro a h2 h3
  by_cases e : a = t
  · subst e
    rw [upd_eq]
    unfold px_sh
    rw [if_pos (by omega)]
  · rw [upd_ne e, h a h2 e]
    unfold px_sh
    by_cases q : t < a ∧ a ≤ row
    · rw [if_pos q, if_pos (by omega)]
    · rw [if_neg q, if_neg (by omega)]
theorem px_sh_endH {o : Nat → Nat} {OC : Nat → Int32} {t row : Nat} (h : ∀ a, a ≤ row → a ≠ t → OC a = nI (px_sh o t row a)) : ∀ a, a ≤ row → upd OC t (nI (o row)) a = nI (px_ins o t row a) := by
  intro a h2
  by_cases e : a = t
  · subst e
    rw [upd_eq, px_ins_eq]
  · rw [upd_ne e, h a h2 e]
    unfold px_sh px_ins
    rw [if_neg e]
abbrev rM_thrown : Room := { frames := 0, cells := 0, slots := 0, locals := 0 }
set_option maxHeartbeats 4000000 in
set_option maxRecDepth 100000 in
theorem m_thrown (l : Launch) (D : va_G) (bd : Nat → Nat) (cr : Nat → ClassId) (w n : Nat) (K V O LF : Nat → Int32) (th fed spl held rd gone cur nk nv gc gu gl gm : Int32)   : ZR l yX1_thrown cX1_thrown 1 rM_thrown D classes (mt cr) [.ref (bd 0)] (mw bd cr w n K V O LF th fed spl held rd gone cur nk nv gc gu gl gm) (fun r => r = th) := by
  refine ZR.of (by decide +kernel) (Nat.le_of_ble_eq_true rfl) ?_
  intro p e s m args below meth c Q ls C0 hK hP hD hl hret
  have hx := C0.1
  have hb := C0.2.1
  have hl : lv_has ls 1 [(0, .ref (bd 0))] := hl
  refine lv_aload_n hx hb dX1_thrown_0 rfl (lv_at hl 0 rfl) ?_
  refine z_get C0 zt_x1 hK hP 0 rfl rfl 0 (by decide) fl_X1_30 rfl dX1_thrown_1 ?_
  exact hret _ _ _ (rfl) dX1_thrown_4
abbrev rM_reset : Room := { frames := 0, cells := 0, slots := 0, locals := 0 }
set_option maxHeartbeats 4000000 in
set_option maxRecDepth 100000 in
theorem m_reset (l : Launch) (D : va_G) (bd : Nat → Nat) (cr : Nat → ClassId) (w n : Nat) (K V O LF : Nat → Int32) (th fed spl held rd gone cur nk nv gc gu gl gm : Int32)   : ZV (S := Unit) l yX1_reset cX1_reset 1 rM_reset D classes (mt cr) [.ref (bd 0)] (mw bd cr w n K V O LF th fed spl held rd gone cur nk nv gc gu gl gm) (fun _ => True) (fun _ => (mw bd cr w n K V O LF 0 0 0 0 0 0 0 nk nv gc gu gl gm)) := by
  refine ZV.of (by decide +kernel) (Nat.le_of_ble_eq_true rfl) ?_
  intro p e s m args below meth c A Q ls C0 hname hK hP hD hS hA hl hret
  have hx := C0.1
  have hb := C0.2.1
  have hl : lv_has ls 1 [(0, .ref (bd 0))] := hl
  refine lv_aload_n hx hb dX1_reset_0 rfl (lv_at hl 0 rfl) ?_
  refine lv_iconst (v := 0) hx hb dX1_reset_1 (by decide) ?_
  refine z_put (ty := .int) C0 zt_x1 tyX1 tyX1_ok nmX1 hK hP hD hS 0 rfl rfl 0 (by decide) fl_X1_30 rfl (by decide +kernel) rfl rfl (Nat.le_of_ble_eq_true rfl) dX1_reset_2 (fun H locs hP hD hS => ?_)
  have hP : va_P D classes (mw bd cr w n K V O LF 0 fed spl held rd gone cur nk nv gc gu gl gm) H := hP
  have hD : va_D A (mw bd cr w n K V O LF 0 fed spl held rd gone cur nk nv gc gu gl gm) := hD
  refine lv_aload_n hx hb dX1_reset_5 rfl (lv_at hl 0 rfl) ?_
  refine lv_iconst (v := 0) hx hb dX1_reset_6 (by decide) ?_
  refine z_put (ty := .int) C0 zt_x1 tyX1 tyX1_ok nmX1 hK hP hD hS 0 rfl rfl 3 (by decide) fl_X1_33 rfl (by decide +kernel) rfl rfl (Nat.le_of_ble_eq_true rfl) dX1_reset_7 (fun H locs hP hD hS => ?_)
  have hP : va_P D classes (mw bd cr w n K V O LF 0 0 spl held rd gone cur nk nv gc gu gl gm) H := hP
  have hD : va_D A (mw bd cr w n K V O LF 0 0 spl held rd gone cur nk nv gc gu gl gm) := hD
  refine lv_aload_n hx hb dX1_reset_10 rfl (lv_at hl 0 rfl) ?_
  refine lv_iconst (v := 0) hx hb dX1_reset_11 (by decide) ?_
  refine z_put (ty := .int) C0 zt_x1 tyX1 tyX1_ok nmX1 hK hP hD hS 0 rfl rfl 4 (by decide) fl_X1_36 rfl (by decide +kernel) rfl rfl (Nat.le_of_ble_eq_true rfl) dX1_reset_12 (fun H locs hP hD hS => ?_)
  have hP : va_P D classes (mw bd cr w n K V O LF 0 0 0 held rd gone cur nk nv gc gu gl gm) H := hP
  have hD : va_D A (mw bd cr w n K V O LF 0 0 0 held rd gone cur nk nv gc gu gl gm) := hD
  refine lv_aload_n hx hb dX1_reset_15 rfl (lv_at hl 0 rfl) ?_
  refine lv_iconst (v := 0) hx hb dX1_reset_16 (by decide) ?_
  refine z_put (ty := .int) C0 zt_x1 tyX1 tyX1_ok nmX1 hK hP hD hS 0 rfl rfl 5 (by decide) fl_X1_39 rfl (by decide +kernel) rfl rfl (Nat.le_of_ble_eq_true rfl) dX1_reset_17 (fun H locs hP hD hS => ?_)
  have hP : va_P D classes (mw bd cr w n K V O LF 0 0 0 0 rd gone cur nk nv gc gu gl gm) H := hP
  have hD : va_D A (mw bd cr w n K V O LF 0 0 0 0 rd gone cur nk nv gc gu gl gm) := hD
  refine lv_aload_n hx hb dX1_reset_20 rfl (lv_at hl 0 rfl) ?_
  refine lv_iconst (v := 0) hx hb dX1_reset_21 (by decide) ?_
  refine z_put (ty := .boolean) C0 zt_x1 tyX1 tyX1_ok nmX1 hK hP hD hS 0 rfl rfl 6 (by decide) fl_X1_42 rfl (by decide +kernel) rfl rfl (Nat.le_of_ble_eq_true rfl) dX1_reset_22 (fun H locs hP hD hS => ?_)
  have hP : va_P D classes (mw bd cr w n K V O LF 0 0 0 0 0 gone cur nk nv gc gu gl gm) H := hP
  have hD : va_D A (mw bd cr w n K V O LF 0 0 0 0 0 gone cur nk nv gc gu gl gm) := hD
  refine lv_aload_n hx hb dX1_reset_25 rfl (lv_at hl 0 rfl) ?_
  refine lv_iconst (v := 0) hx hb dX1_reset_26 (by decide) ?_
  refine z_put (ty := .int) C0 zt_x1 tyX1 tyX1_ok nmX1 hK hP hD hS 0 rfl rfl 7 (by decide) fl_X1_46 rfl (by decide +kernel) rfl rfl (Nat.le_of_ble_eq_true rfl) dX1_reset_27 (fun H locs hP hD hS => ?_)
  have hP : va_P D classes (mw bd cr w n K V O LF 0 0 0 0 0 0 cur nk nv gc gu gl gm) H := hP
  have hD : va_D A (mw bd cr w n K V O LF 0 0 0 0 0 0 cur nk nv gc gu gl gm) := hD
  refine lv_aload_n hx hb dX1_reset_30 rfl (lv_at hl 0 rfl) ?_
  refine lv_iconst (v := 0) hx hb dX1_reset_31 (by decide) ?_
  refine z_put (ty := .int) C0 zt_x1 tyX1 tyX1_ok nmX1 hK hP hD hS 0 rfl rfl 8 (by decide) fl_X1_49 rfl (by decide +kernel) rfl rfl (Nat.le_of_ble_eq_true rfl) dX1_reset_32 (fun H locs hP hD hS => ?_)
  have hP : va_P D classes (mw bd cr w n K V O LF 0 0 0 0 0 0 0 nk nv gc gu gl gm) H := hP
  have hD : va_D A (mw bd cr w n K V O LF 0 0 0 0 0 0 0 nk nv gc gu gl gm) := hD
  exact hret (()) _ _ _ _ hP hD hS (trivial) dX1_reset_35
abbrev rM_take : Room := { frames := 0, cells := 0, slots := 0, locals := 0 }
set_option maxHeartbeats 4000000 in
set_option maxRecDepth 100000 in
theorem m_take (l : Launch) (D : va_G) (bd : Nat → Nat) (cr : Nat → ClassId) (w n : Nat) (K V O LF : Nat → Int32) (th rd gone cur nk nv gc gu gl gm : Int32) (key val : Int32) (r f : Nat) (hf : f < 2064) (hw1 : w < 2 ^ 29) (hW : xW w r f) : ZV (S := Nat) l yX1_take cX1_take 3 rM_take D classes (mt cr) [.ref (bd 0), .int key, .int val] (mw bd cr w n K V O LF th (nI f) (nI r) (nI (f - r * w)) rd gone cur nk nv gc gu gl gm) (fun r1 => r1 = rnx w r f) (fun r1 => (mw bd cr w n (upd K f key) (upd V f val) O LF th (nI (f + 1)) (nI r1) (nI (f + 1 - r1 * w)) rd gone cur nk nv gc gu gl gm)) := by
  refine ZV.of (by decide +kernel) (Nat.le_of_ble_eq_true rfl) ?_
  intro p e s m args below meth c A Q ls C0 hname hK hP hD hS hA hl hret
  have hx := C0.1
  have hb := C0.2.1
  have hl : lv_has ls 3 [(0, .ref (bd 0)), (1, .int key), (2, .int val)] := hl
  obtain ⟨hw8, hw9⟩ := hW
  refine lv_aload_n hx hb dX1_take_0 rfl (lv_at hl 0 rfl) ?_
  refine z_get C0 zt_x1 hK hP 0 rfl rfl 5 (by decide) fl_X1_39 rfl dX1_take_1 ?_
  refine lv_aload_n hx hb dX1_take_4 rfl (lv_at hl 0 rfl) ?_
  refine z_get C0 zt_x1 hK hP 0 rfl rfl 1 (by decide) fl_X1_23 rfl dX1_take_5 ?_
  refine lv_icmp_ne (tgt := 26) hx hb dX1_take_8 (by decide) (fun c1 => ?_) (fun c1 => ?_)
  · have c1 := zne c1
    have hrn : rnx w r f = r := by unfold rnx; rw [if_pos (by omega)]
    refine lv_aload_n hx hb dX1_take_26 rfl (lv_at hl 0 rfl) ?_
    refine z_get C0 zt_x1 hK hP 0 rfl rfl 15 (by decide) fl_X1_7 rfl dX1_take_27 ?_
    refine lv_aload_n hx hb dX1_take_30 rfl (lv_at hl 0 rfl) ?_
    refine z_get C0 zt_x1 hK hP 0 rfl rfl 3 (by decide) fl_X1_33 rfl dX1_take_31 ?_
    refine lv_iload_n hx hb dX1_take_34 rfl (lv_at hl 1 rfl) ?_
    refine z_ist C0 hK hP hD hS 1 0 rfl rfl (j := f) (hf) (by decide) dX1_take_35 (fun H locs hP hD hS => ?_)
    have hP : va_P D classes (mw bd cr w n (upd K f key) V O LF th (nI f) (nI r) (nI (f - r * w)) rd gone cur nk nv gc gu gl gm) H := hP
    have hD : va_D A (mw bd cr w n (upd K f key) V O LF th (nI f) (nI r) (nI (f - r * w)) rd gone cur nk nv gc gu gl gm) := hD
    refine lv_aload_n hx hb dX1_take_36 rfl (lv_at hl 0 rfl) ?_
    refine z_get C0 zt_x1 hK hP 0 rfl rfl 16 (by decide) fl_X1_13 rfl dX1_take_37 ?_
    refine lv_aload_n hx hb dX1_take_40 rfl (lv_at hl 0 rfl) ?_
    refine z_get C0 zt_x1 hK hP 0 rfl rfl 3 (by decide) fl_X1_33 rfl dX1_take_41 ?_
    refine lv_iload_n hx hb dX1_take_44 rfl (lv_at hl 2 rfl) ?_
    refine z_ist C0 hK hP hD hS 2 1 rfl rfl (j := f) (hf) (by decide) dX1_take_45 (fun H locs hP hD hS => ?_)
    have hP : va_P D classes (mw bd cr w n (upd K f key) (upd V f val) O LF th (nI f) (nI r) (nI (f - r * w)) rd gone cur nk nv gc gu gl gm) H := hP
    have hD : va_D A (mw bd cr w n (upd K f key) (upd V f val) O LF th (nI f) (nI r) (nI (f - r * w)) rd gone cur nk nv gc gu gl gm) := hD
    refine lv_aload_n hx hb dX1_take_46 rfl (lv_at hl 0 rfl) ?_
    refine lv_dup hx hb dX1_take_47 rfl ?_
    refine z_get C0 zt_x1 hK hP 0 rfl rfl 3 (by decide) fl_X1_33 rfl dX1_take_48 ?_
    refine lv_iconst (v := 1) hx hb dX1_take_51 (by decide) ?_
    refine lv_iadd hx hb dX1_take_52 ?_
    refine z_eq (show ((nI f) + 1) = nI (f + 1) from nI_1 f) ?_
    refine z_put (ty := .int) C0 zt_x1 tyX1 tyX1_ok nmX1 hK hP hD hS 0 rfl rfl 3 (by decide) fl_X1_33 rfl (by decide +kernel) rfl rfl (Nat.le_of_ble_eq_true rfl) dX1_take_53 (fun H locs hP hD hS => ?_)
    have hP : va_P D classes (mw bd cr w n (upd K f key) (upd V f val) O LF th (nI (f + 1)) (nI r) (nI (f - r * w)) rd gone cur nk nv gc gu gl gm) H := hP
    have hD : va_D A (mw bd cr w n (upd K f key) (upd V f val) O LF th (nI (f + 1)) (nI r) (nI (f - r * w)) rd gone cur nk nv gc gu gl gm) := hD
    refine lv_aload_n hx hb dX1_take_56 rfl (lv_at hl 0 rfl) ?_
    refine lv_dup hx hb dX1_take_57 rfl ?_
    refine z_get C0 zt_x1 hK hP 0 rfl rfl 5 (by decide) fl_X1_39 rfl dX1_take_58 ?_
    refine lv_iconst (v := 1) hx hb dX1_take_61 (by decide) ?_
    refine lv_iadd hx hb dX1_take_62 ?_
    refine z_eq (show ((nI (f - r * w)) + 1) = nI (f + 1 - r * w) from by rw [nI_1, show f - r * w + 1 = f + 1 - r * w by omega]) ?_
    refine z_put (ty := .int) C0 zt_x1 tyX1 tyX1_ok nmX1 hK hP hD hS 0 rfl rfl 5 (by decide) fl_X1_39 rfl (by decide +kernel) rfl rfl (Nat.le_of_ble_eq_true rfl) dX1_take_63 (fun H locs hP hD hS => ?_)
    have hP : va_P D classes (mw bd cr w n (upd K f key) (upd V f val) O LF th (nI (f + 1)) (nI r) (nI (f + 1 - r * w)) rd gone cur nk nv gc gu gl gm) H := hP
    have hD : va_D A (mw bd cr w n (upd K f key) (upd V f val) O LF th (nI (f + 1)) (nI r) (nI (f + 1 - r * w)) rd gone cur nk nv gc gu gl gm) := hD
    exact hret (r) _ _ _ _ hP hD hS (hrn.symm) dX1_take_66
  · have c1 := zeq c1 (by omega) (by omega)
    have hrn : rnx w r f = r + 1 := by unfold rnx; rw [if_neg (by omega)]
    refine lv_aload_n hx hb dX1_take_11 rfl (lv_at hl 0 rfl) ?_
    refine lv_dup hx hb dX1_take_12 rfl ?_
    refine z_get C0 zt_x1 hK hP 0 rfl rfl 4 (by decide) fl_X1_36 rfl dX1_take_13 ?_
    refine lv_iconst (v := 1) hx hb dX1_take_16 (by decide) ?_
    refine lv_iadd hx hb dX1_take_17 ?_
    refine z_eq (show ((nI r) + 1) = nI (r + 1) from nI_1 r) ?_
    refine z_put (ty := .int) C0 zt_x1 tyX1 tyX1_ok nmX1 hK hP hD hS 0 rfl rfl 4 (by decide) fl_X1_36 rfl (by decide +kernel) rfl rfl (Nat.le_of_ble_eq_true rfl) dX1_take_18 (fun H locs hP hD hS => ?_)
    have hP : va_P D classes (mw bd cr w n K V O LF th (nI f) (nI (r + 1)) (nI (f - r * w)) rd gone cur nk nv gc gu gl gm) H := hP
    have hD : va_D A (mw bd cr w n K V O LF th (nI f) (nI (r + 1)) (nI (f - r * w)) rd gone cur nk nv gc gu gl gm) := hD
    refine lv_aload_n hx hb dX1_take_21 rfl (lv_at hl 0 rfl) ?_
    refine lv_iconst (v := 0) hx hb dX1_take_22 (by decide) ?_
    refine z_put (ty := .int) C0 zt_x1 tyX1 tyX1_ok nmX1 hK hP hD hS 0 rfl rfl 5 (by decide) fl_X1_39 rfl (by decide +kernel) rfl rfl (Nat.le_of_ble_eq_true rfl) dX1_take_23 (fun H locs hP hD hS => ?_)
    have hP : va_P D classes (mw bd cr w n K V O LF th (nI f) (nI (r + 1)) 0 rd gone cur nk nv gc gu gl gm) H := hP
    have hD : va_D A (mw bd cr w n K V O LF th (nI f) (nI (r + 1)) 0 rd gone cur nk nv gc gu gl gm) := hD
    refine lv_aload_n hx hb dX1_take_26 rfl (lv_at hl 0 rfl) ?_
    refine z_get C0 zt_x1 hK hP 0 rfl rfl 15 (by decide) fl_X1_7 rfl dX1_take_27 ?_
    refine lv_aload_n hx hb dX1_take_30 rfl (lv_at hl 0 rfl) ?_
    refine z_get C0 zt_x1 hK hP 0 rfl rfl 3 (by decide) fl_X1_33 rfl dX1_take_31 ?_
    refine lv_iload_n hx hb dX1_take_34 rfl (lv_at hl 1 rfl) ?_
    refine z_ist C0 hK hP hD hS 1 0 rfl rfl (j := f) (hf) (by decide) dX1_take_35 (fun H locs hP hD hS => ?_)
    have hP : va_P D classes (mw bd cr w n (upd K f key) V O LF th (nI f) (nI (r + 1)) 0 rd gone cur nk nv gc gu gl gm) H := hP
    have hD : va_D A (mw bd cr w n (upd K f key) V O LF th (nI f) (nI (r + 1)) 0 rd gone cur nk nv gc gu gl gm) := hD
    refine lv_aload_n hx hb dX1_take_36 rfl (lv_at hl 0 rfl) ?_
    refine z_get C0 zt_x1 hK hP 0 rfl rfl 16 (by decide) fl_X1_13 rfl dX1_take_37 ?_
    refine lv_aload_n hx hb dX1_take_40 rfl (lv_at hl 0 rfl) ?_
    refine z_get C0 zt_x1 hK hP 0 rfl rfl 3 (by decide) fl_X1_33 rfl dX1_take_41 ?_
    refine lv_iload_n hx hb dX1_take_44 rfl (lv_at hl 2 rfl) ?_
    refine z_ist C0 hK hP hD hS 2 1 rfl rfl (j := f) (hf) (by decide) dX1_take_45 (fun H locs hP hD hS => ?_)
    have hP : va_P D classes (mw bd cr w n (upd K f key) (upd V f val) O LF th (nI f) (nI (r + 1)) 0 rd gone cur nk nv gc gu gl gm) H := hP
    have hD : va_D A (mw bd cr w n (upd K f key) (upd V f val) O LF th (nI f) (nI (r + 1)) 0 rd gone cur nk nv gc gu gl gm) := hD
    refine lv_aload_n hx hb dX1_take_46 rfl (lv_at hl 0 rfl) ?_
    refine lv_dup hx hb dX1_take_47 rfl ?_
    refine z_get C0 zt_x1 hK hP 0 rfl rfl 3 (by decide) fl_X1_33 rfl dX1_take_48 ?_
    refine lv_iconst (v := 1) hx hb dX1_take_51 (by decide) ?_
    refine lv_iadd hx hb dX1_take_52 ?_
    refine z_eq (show ((nI f) + 1) = nI (f + 1) from nI_1 f) ?_
    refine z_put (ty := .int) C0 zt_x1 tyX1 tyX1_ok nmX1 hK hP hD hS 0 rfl rfl 3 (by decide) fl_X1_33 rfl (by decide +kernel) rfl rfl (Nat.le_of_ble_eq_true rfl) dX1_take_53 (fun H locs hP hD hS => ?_)
    have hP : va_P D classes (mw bd cr w n (upd K f key) (upd V f val) O LF th (nI (f + 1)) (nI (r + 1)) 0 rd gone cur nk nv gc gu gl gm) H := hP
    have hD : va_D A (mw bd cr w n (upd K f key) (upd V f val) O LF th (nI (f + 1)) (nI (r + 1)) 0 rd gone cur nk nv gc gu gl gm) := hD
    refine lv_aload_n hx hb dX1_take_56 rfl (lv_at hl 0 rfl) ?_
    refine lv_dup hx hb dX1_take_57 rfl ?_
    refine z_get C0 zt_x1 hK hP 0 rfl rfl 5 (by decide) fl_X1_39 rfl dX1_take_58 ?_
    refine lv_iconst (v := 1) hx hb dX1_take_61 (by decide) ?_
    refine lv_iadd hx hb dX1_take_62 ?_
    refine z_eq (show (0 + 1) = nI (f + 1 - (r + 1) * w) from by rw [show f + 1 - (r + 1) * w = 1 by rw [Nat.succ_mul]; omega]; rfl) ?_
    refine z_put (ty := .int) C0 zt_x1 tyX1 tyX1_ok nmX1 hK hP hD hS 0 rfl rfl 5 (by decide) fl_X1_39 rfl (by decide +kernel) rfl rfl (Nat.le_of_ble_eq_true rfl) dX1_take_63 (fun H locs hP hD hS => ?_)
    have hP : va_P D classes (mw bd cr w n (upd K f key) (upd V f val) O LF th (nI (f + 1)) (nI (r + 1)) (nI (f + 1 - (r + 1) * w)) rd gone cur nk nv gc gu gl gm) H := hP
    have hD : va_D A (mw bd cr w n (upd K f key) (upd V f val) O LF th (nI (f + 1)) (nI (r + 1)) (nI (f + 1 - (r + 1) * w)) rd gone cur nk nv gc gu gl gm) := hD
    exact hret (r + 1) _ _ _ _ hP hD hS (hrn.symm) dX1_take_66
abbrev rM_feed : Room := { frames := 1, cells := 0, slots := 0, locals := 22 }
set_option maxHeartbeats 4000000 in
set_option maxRecDepth 100000 in
theorem m_feed (l : Launch) (D : va_G) (bd : Nat → Nat) (cr : Nat → ClassId) (w n : Nat) (K V O LF : Nat → Int32) (th gone cur nk nv gc gu gl gm : Int32) (key val : Int32) (r f : Nat) (hf : f < n) (hn : n ≤ 2064) (hw1 : w < 2 ^ 29) (hW : xW w r f) : ZI (S := Nat) l yX1_feed cX1_feed 3 rM_feed D classes (mt cr) [.ref (bd 0), .int key, .int val] (mw bd cr w n K V O LF th (nI f) (nI r) (nI (f - r * w)) 0 gone cur nk nv gc gu gl gm) (fun v r1 => v = 0 ∧ r1 = rnx w r f) (fun r1 => (mw bd cr w n (upd K f key) (upd V f val) O LF 0 (nI (f + 1)) (nI r1) (nI (f + 1 - r1 * w)) 0 gone cur nk nv gc gu gl gm)) := by
  refine ZI.of (by decide +kernel) (Nat.le_of_ble_eq_true rfl) ?_
  intro p e s m args below meth c A Q ls C0 hK hP hD hS hA hl hret
  have hx := C0.1
  have hb := C0.2.1
  have hl : lv_has ls 3 [(0, .ref (bd 0)), (1, .int key), (2, .int val)] := hl
  refine lv_aload_n hx hb dX1_feed_0 rfl (lv_at hl 0 rfl) ?_
  refine lv_iconst (v := 0) hx hb dX1_feed_1 (by decide) ?_
  refine z_put (ty := .int) C0 zt_x1 tyX1 tyX1_ok nmX1 hK hP hD hS 0 rfl rfl 0 (by decide) fl_X1_30 rfl (by decide +kernel) rfl rfl (Nat.le_of_ble_eq_true rfl) dX1_feed_2 (fun H locs hP hD hS => ?_)
  have hP : va_P D classes (mw bd cr w n K V O LF 0 (nI f) (nI r) (nI (f - r * w)) 0 gone cur nk nv gc gu gl gm) H := hP
  have hD : va_D A (mw bd cr w n K V O LF 0 (nI f) (nI r) (nI (f - r * w)) 0 gone cur nk nv gc gu gl gm) := hD
  refine lv_aload_n hx hb dX1_feed_5 rfl (lv_at hl 0 rfl) ?_
  refine z_get C0 zt_x1 hK hP 0 rfl rfl 6 (by decide) fl_X1_42 rfl dX1_feed_6 ?_
  refine lv_if_eq (tgt := 15) hx hb dX1_feed_9 (by decide) (fun hz => ?_) (fun hz => False.elim (hz rfl))
  refine lv_aload_n hx hb dX1_feed_15 rfl (lv_at hl 0 rfl) ?_
  refine z_get C0 zt_x1 hK hP 0 rfl rfl 3 (by decide) fl_X1_33 rfl dX1_feed_16 ?_
  refine lv_aload_n hx hb dX1_feed_19 rfl (lv_at hl 0 rfl) ?_
  refine z_get C0 zt_x1 hK hP 0 rfl rfl 2 (by decide) fl_X1_27 rfl dX1_feed_20 ?_
  refine lv_icmp_ne (tgt := 29) hx hb dX1_feed_23 (by decide) (fun hz => ?_) (fun hz => False.elim ((by have := zeq hz (by omega) (by omega); omega)))
  refine lv_aload_n hx hb dX1_feed_29 rfl (lv_at hl 0 rfl) ?_
  refine lv_iload_n hx hb dX1_feed_30 rfl (lv_at hl 1 rfl) ?_
  refine lv_iload_n hx hb dX1_feed_31 rfl (lv_at hl 2 rfl) ?_
  refine zv_callV0 (As := [.int key, .int val]) (rest := []) (q0 := 0) (ci := 1) C0 (m_take l D bd cr w n K V O LF 0 0 gone cur nk nv gc gu gl gm key val r f (by omega) hw1 hW) zv_X1_X1_take ⟨by decide, by decide⟩ ⟨rfl, rfl⟩ rfl hK hP hD hS hA rfl rfl rfl hl.1 rfl (Nat.le_of_ble_eq_true rfl) dX1_feed_32 ⟨Nat.zero_le _, Nat.zero_le _⟩ (fun r1 H locs hj hP hD hS => ?_)
  have hP : va_P D classes (mw bd cr w n (upd K f key) (upd V f val) O LF 0 (nI (f + 1)) (nI r1) (nI (f + 1 - r1 * w)) 0 gone cur nk nv gc gu gl gm) H := hP
  have hD : va_D A (mw bd cr w n (upd K f key) (upd V f val) O LF 0 (nI (f + 1)) (nI r1) (nI (f + 1 - r1 * w)) 0 gone cur nk nv gc gu gl gm) := hD
  refine lv_iconst (v := 0) hx hb dX1_feed_35 (by decide) ?_
  exact hret _ (r1) _ _ _ _ hP hD hS (⟨rfl, hj⟩) dX1_feed_36
set_option maxHeartbeats 4000000 in
set_option maxRecDepth 100000 in
theorem m_feed_s (l : Launch) (D : va_G) (bd : Nat → Nat) (cr : Nat → ClassId) (w n : Nat) (K V O LF : Nat → Int32) (th fed spl held gone cur nk nv gc gu gl gm : Int32) (key val : Int32)  : ZI (S := Unit) l yX1_feed cX1_feed 3 rM_feed D classes (mt cr) [.ref (bd 0), .int key, .int val] (mw bd cr w n K V O LF th fed spl held 1 gone cur nk nv gc gu gl gm) (fun v _ => v = -3) (fun _ => (mw bd cr w n K V O LF 0 fed spl held 1 gone cur nk nv gc gu gl gm)) := by
  refine ZI.of (by decide +kernel) (Nat.le_of_ble_eq_true rfl) ?_
  intro p e s m args below meth c A Q ls C0 hK hP hD hS hA hl hret
  have hx := C0.1
  have hb := C0.2.1
  have hl : lv_has ls 3 [(0, .ref (bd 0)), (1, .int key), (2, .int val)] := hl
  refine lv_aload_n hx hb dX1_feed_0 rfl (lv_at hl 0 rfl) ?_
  refine lv_iconst (v := 0) hx hb dX1_feed_1 (by decide) ?_
  refine z_put (ty := .int) C0 zt_x1 tyX1 tyX1_ok nmX1 hK hP hD hS 0 rfl rfl 0 (by decide) fl_X1_30 rfl (by decide +kernel) rfl rfl (Nat.le_of_ble_eq_true rfl) dX1_feed_2 (fun H locs hP hD hS => ?_)
  have hP : va_P D classes (mw bd cr w n K V O LF 0 fed spl held 1 gone cur nk nv gc gu gl gm) H := hP
  have hD : va_D A (mw bd cr w n K V O LF 0 fed spl held 1 gone cur nk nv gc gu gl gm) := hD
  refine lv_aload_n hx hb dX1_feed_5 rfl (lv_at hl 0 rfl) ?_
  refine z_get C0 zt_x1 hK hP 0 rfl rfl 6 (by decide) fl_X1_42 rfl dX1_feed_6 ?_
  refine lv_if_eq (tgt := 15) hx hb dX1_feed_9 (by decide) (fun hz => False.elim (absurd hz (by decide))) (fun hz => ?_)
  refine lv_bipush (v := -3) hx hb dX1_feed_12 (by decide) ?_
  exact hret _ (()) _ _ _ _ hP hD hS (rfl) dX1_feed_14
set_option maxHeartbeats 4000000 in
set_option maxRecDepth 100000 in
theorem m_feed_f (l : Launch) (D : va_G) (bd : Nat → Nat) (cr : Nat → ClassId) (w n : Nat) (K V O LF : Nat → Int32) (th spl held gone cur nk nv gc gu gl gm : Int32) (key val : Int32)  : ZI (S := Unit) l yX1_feed cX1_feed 3 rM_feed D classes (mt cr) [.ref (bd 0), .int key, .int val] (mw bd cr w n K V O LF th (nI n) spl held 0 gone cur nk nv gc gu gl gm) (fun v _ => v = -2) (fun _ => (mw bd cr w n K V O LF 0 (nI n) spl held 0 gone cur nk nv gc gu gl gm)) := by
  refine ZI.of (by decide +kernel) (Nat.le_of_ble_eq_true rfl) ?_
  intro p e s m args below meth c A Q ls C0 hK hP hD hS hA hl hret
  have hx := C0.1
  have hb := C0.2.1
  have hl : lv_has ls 3 [(0, .ref (bd 0)), (1, .int key), (2, .int val)] := hl
  refine lv_aload_n hx hb dX1_feed_0 rfl (lv_at hl 0 rfl) ?_
  refine lv_iconst (v := 0) hx hb dX1_feed_1 (by decide) ?_
  refine z_put (ty := .int) C0 zt_x1 tyX1 tyX1_ok nmX1 hK hP hD hS 0 rfl rfl 0 (by decide) fl_X1_30 rfl (by decide +kernel) rfl rfl (Nat.le_of_ble_eq_true rfl) dX1_feed_2 (fun H locs hP hD hS => ?_)
  have hP : va_P D classes (mw bd cr w n K V O LF 0 (nI n) spl held 0 gone cur nk nv gc gu gl gm) H := hP
  have hD : va_D A (mw bd cr w n K V O LF 0 (nI n) spl held 0 gone cur nk nv gc gu gl gm) := hD
  refine lv_aload_n hx hb dX1_feed_5 rfl (lv_at hl 0 rfl) ?_
  refine z_get C0 zt_x1 hK hP 0 rfl rfl 6 (by decide) fl_X1_42 rfl dX1_feed_6 ?_
  refine lv_if_eq (tgt := 15) hx hb dX1_feed_9 (by decide) (fun hz => ?_) (fun hz => False.elim (hz rfl))
  refine lv_aload_n hx hb dX1_feed_15 rfl (lv_at hl 0 rfl) ?_
  refine z_get C0 zt_x1 hK hP 0 rfl rfl 3 (by decide) fl_X1_33 rfl dX1_feed_16 ?_
  refine lv_aload_n hx hb dX1_feed_19 rfl (lv_at hl 0 rfl) ?_
  refine z_get C0 zt_x1 hK hP 0 rfl rfl 2 (by decide) fl_X1_27 rfl dX1_feed_20 ?_
  refine lv_icmp_ne (tgt := 29) hx hb dX1_feed_23 (by decide) (fun hz => False.elim (hz rfl)) (fun hz => ?_)
  refine lv_bipush (v := -2) hx hb dX1_feed_26 (by decide) ?_
  exact hret _ (()) _ _ _ _ hP hD hS (rfl) dX1_feed_28
abbrev rM_feedMany : Room := { frames := 1, cells := 0, slots := 0, locals := 22 }
set_option maxHeartbeats 4000000 in
set_option maxRecDepth 100000 in
theorem m_feedMany (l : Launch) (D : va_G) (bd : Nat → Nat) (cr : Nat → ClassId) (w n : Nat) (K V O LF : Nat → Int32) (th gone cur nk nv gc gu gl gm : Int32) (key step val : Int32) (q r f : Nat) (hq : q ≤ 200) (hf : f ≤ n) (hn : n ≤ 2064) (hw0 : 0 < w) (hw1 : w < 2 ^ 29) (hW : xW w r f) : ZI (S := Nat) l yX1_feedMany cX1_feedMany 6 rM_feedMany D classes (mt cr) [.ref (bd 0), .int key, .int step, .int val, .int (nI q)] (mw bd cr w n K V O LF th (nI f) (nI r) (nI (f - r * w)) 0 gone cur nk nv gc gu gl gm) (fun v r1 => v = nI (min q (n - f)) ∧ r1 = fm_r w r f (min q (n - f))) (fun r1 => (mw bd cr w n (fm_K K f key step (min q (n - f))) (fm_V V f val (min q (n - f))) O LF 0 (nI (f + min q (n - f))) (nI r1) (nI (f + min q (n - f) - r1 * w)) 0 gone cur nk nv gc gu gl gm)) := by
  refine ZI.of (by decide +kernel) (Nat.le_of_ble_eq_true rfl) ?_
  intro p e s m args below meth c A Q ls C0 hK hP hD hS hA hl hret
  have hx := C0.1
  have hb := C0.2.1
  have hl : lv_has ls 6 [(0, .ref (bd 0)), (1, .int key), (2, .int step), (3, .int val), (4, .int (nI q))] := hl
  refine lv_aload_n hx hb dX1_feedMany_0 rfl (lv_at hl 0 rfl) ?_
  refine lv_iload hx hb dX1_feedMany_1 (lv_at hl 4 rfl) ?_
  refine lv_if_lt (tgt := 14) hx hb dX1_feedMany_3 (by decide) (fun hz => False.elim (nI_pos (by omega) hz)) (fun hz => ?_)
  refine lv_iload hx hb dX1_feedMany_6 (lv_at hl 4 rfl) ?_
  refine lv_sipush (v := 200) hx hb dX1_feedMany_8 (by decide) ?_
  refine lv_icmp_le (tgt := 18) hx hb dX1_feedMany_11 (by decide) (fun hz => ?_) (fun hz => False.elim (hz (nI_le (b := 200) hq (by decide))))
  refine lv_iconst (v := 0) hx hb dX1_feedMany_18 (by decide) ?_
  refine z_put (ty := .int) C0 zt_x1 tyX1 tyX1_ok nmX1 hK hP hD hS 0 rfl rfl 0 (by decide) fl_X1_30 rfl (by decide +kernel) rfl rfl (Nat.le_of_ble_eq_true rfl) dX1_feedMany_19 (fun H locs hP hD hS => ?_)
  have hP : va_P D classes (mw bd cr w n K V O LF 0 (nI f) (nI r) (nI (f - r * w)) 0 gone cur nk nv gc gu gl gm) H := hP
  have hD : va_D A (mw bd cr w n K V O LF 0 (nI f) (nI r) (nI (f - r * w)) 0 gone cur nk nv gc gu gl gm) := hD
  refine lv_aload_n hx hb dX1_feedMany_22 rfl (lv_at hl 0 rfl) ?_
  refine z_get C0 zt_x1 hK hP 0 rfl rfl 0 (by decide) fl_X1_30 rfl dX1_feedMany_23 ?_
  refine lv_if_le (tgt := 31) hx hb dX1_feedMany_26 (by decide) (fun hz => ?_) (fun hz => False.elim (hz (by decide)))
  refine lv_aload_n hx hb dX1_feedMany_31 rfl (lv_at hl 0 rfl) ?_
  refine z_get C0 zt_x1 hK hP 0 rfl rfl 6 (by decide) fl_X1_42 rfl dX1_feedMany_32 ?_
  refine lv_if_eq (tgt := 41) hx hb dX1_feedMany_35 (by decide) (fun hz => ?_) (fun hz => False.elim (hz rfl))
  refine lv_iconst (v := 0) hx hb dX1_feedMany_41 (by decide) ?_
  refine lv_istore (lv' := [(5, .int 0), (0, .ref (bd 0)), (1, .int key), (2, .int step), (3, .int val), (4, .int (nI q))]) hx hb dX1_feedMany_42 hl (by decide) rfl (fun ls hl => ?_)
  have loop : ∀ (NN : Nat) (j r1 : Nat) (H : Heap) (locs : List Loc) (ls : Array Slot), (j ≤ min q (n - f) ∧ r1 = fm_r w r f j) → min q (n - f) - j < NN → va_P D classes (mw bd cr w n (fm_K K f key step j) (fm_V V f val j) O LF 0 (nI (f + j)) (nI r1) (nI (f + j - r1 * w)) 0 gone cur nk nv gc gu gl gm) H → va_D A (mw bd cr w n (fm_K K f key step j) (fm_V V f val j) O LF 0 (nI (f + j)) (nI r1) (nI (f + j - r1 * w)) 0 gone cur nk nv gc gu gl gm) → va_S A s.heap H locs → lv_has ls 6 [(5, .int (nI j)), (0, .ref (bd 0)), (1, .int key), (2, .int step), (3, .int val), (4, .int (nI q))] → W p l e rM_feedMany s m args below meth c H locs 0 0 Q (F0 m 44 ls []) := by
    intro N44
    induction N44 with
    | zero => intro j r1 H locs ls hI hN; exact absurd hN (Nat.not_lt_zero _)
    | succ N44 ih44 =>
      intro j r1 H locs ls hI hN44 hP hD hS hl
      obtain ⟨i1, i2⟩ := hI
      have hWj : xW w r1 (f + j) := by rw [i2]; exact xW_fm hW hw0 j
      refine lv_iload hx hb dX1_feedMany_44 (lv_at hl 0 rfl) ?_
      refine lv_iload hx hb dX1_feedMany_46 (lv_at hl 5 rfl) ?_
      refine lv_icmp_ge (tgt := 82) hx hb dX1_feedMany_48 (by decide) (fun c1 => ?_) (fun c1 => ?_)
      · have c1 := zle c1 (by omega) (by omega)
        have ej : j = min q (n - f) := by omega
        refine lv_iload hx hb dX1_feedMany_82 (lv_at hl 0 rfl) ?_
        rw [ej] at hP hD i2 ⊢
        exact hret _ (r1) _ _ _ _ hP hD hS (⟨rfl, i2⟩) dX1_feedMany_84
      · have c1 := znle c1 (by omega) (by omega)
        refine lv_aload_n hx hb dX1_feedMany_51 rfl (lv_at hl 1 rfl) ?_
        refine z_get C0 zt_x1 hK hP 0 rfl rfl 3 (by decide) fl_X1_33 rfl dX1_feedMany_52 ?_
        refine lv_aload_n hx hb dX1_feedMany_55 rfl (lv_at hl 1 rfl) ?_
        refine z_get C0 zt_x1 hK hP 0 rfl rfl 2 (by decide) fl_X1_27 rfl dX1_feedMany_56 ?_
        refine lv_icmp_ge (tgt := 82) hx hb dX1_feedMany_59 (by decide) (fun c2 => ?_) (fun c2 => ?_)
        · have c2 := zle c2 (by omega) (by omega)
          have ej : j = min q (n - f) := by omega
          refine lv_iload hx hb dX1_feedMany_82 (lv_at hl 0 rfl) ?_
          rw [ej] at hP hD i2 ⊢
          exact hret _ (r1) _ _ _ _ hP hD hS (⟨rfl, i2⟩) dX1_feedMany_84
        · have c2 := znle c2 (by omega) (by omega)
          refine lv_aload_n hx hb dX1_feedMany_62 rfl (lv_at hl 1 rfl) ?_
          refine lv_iload_n hx hb dX1_feedMany_63 rfl (lv_at hl 2 rfl) ?_
          refine lv_iload hx hb dX1_feedMany_64 (lv_at hl 0 rfl) ?_
          refine lv_iload_n hx hb dX1_feedMany_66 rfl (lv_at hl 3 rfl) ?_
          refine lv_imul hx hb dX1_feedMany_67 ?_
          refine lv_iadd hx hb dX1_feedMany_68 ?_
          refine lv_iload_n hx hb dX1_feedMany_69 rfl (lv_at hl 4 rfl) ?_
          refine lv_iload hx hb dX1_feedMany_70 (lv_at hl 0 rfl) ?_
          refine lv_iadd hx hb dX1_feedMany_72 ?_
          refine zv_callV0 (As := [.int (key + ((nI j) * step)), .int (val + (nI j))]) (rest := []) (q0 := 0) (ci := 1) C0 (m_take l D bd cr w n (fm_K K f key step j) (fm_V V f val j) O LF 0 0 gone cur nk nv gc gu gl gm (key + nI j * step) (val + nI j) r1 (f + j) (by omega) hw1 hWj) zv_X1_X1_take ⟨by decide, by decide⟩ ⟨rfl, rfl⟩ rfl hK hP hD hS hA rfl rfl rfl hl.1 rfl (Nat.le_of_ble_eq_true rfl) dX1_feedMany_73 ⟨Nat.zero_le _, Nat.zero_le _⟩ (fun r2 H locs hj hP hD hS => ?_)
          have hP : va_P D classes (mw bd cr w n (fm_K K f key step (j + 1)) (fm_V V f val (j + 1)) O LF 0 (nI (f + (j + 1))) (nI r2) (nI (f + (j + 1) - r2 * w)) 0 gone cur nk nv gc gu gl gm) H := hP
          have hD : va_D A (mw bd cr w n (fm_K K f key step (j + 1)) (fm_V V f val (j + 1)) O LF 0 (nI (f + (j + 1))) (nI r2) (nI (f + (j + 1) - r2 * w)) 0 gone cur nk nv gc gu gl gm) := hD
          refine lv_iinc (v := nI (j + 1)) (lv' := [(5, .int (nI (j + 1))), (0, .ref (bd 0)), (1, .int key), (2, .int step), (3, .int val), (4, .int (nI q))]) hx hb dX1_feedMany_76 hl (k := 0) rfl (show (nI j) + Int32.ofInt (1) = nI (j + 1) from (congrArg ((nI j) + ·) (by decide : Int32.ofInt (1) = 1)).trans (nI_1 j)) (by decide) rfl (fun ls hl => ?_)
          refine lv_goto (tgt := 44) hx hb dX1_feedMany_79 (by decide) ?_
          exact ih44 (j + 1) r2 _ _ _ (⟨by omega, by rw [hj, i2]; rfl⟩) (by omega) hP hD hS (lv_sub hl [0, 1, 2, 3, 4, 5] rfl)
  exact loop _ 0 r _ _ _ (⟨Nat.zero_le _, rfl⟩) (Nat.lt_succ_self _) hP hD hS (lv_sub hl [0, 1, 2, 3, 4, 5] (rfl))
set_option maxHeartbeats 4000000 in
set_option maxRecDepth 100000 in
theorem m_feedMany_s (l : Launch) (D : va_G) (bd : Nat → Nat) (cr : Nat → ClassId) (w n : Nat) (K V O LF : Nat → Int32) (th fed spl held gone cur nk nv gc gu gl gm : Int32) (key step val : Int32) (q : Nat) (hq : q ≤ 200) : ZI (S := Unit) l yX1_feedMany cX1_feedMany 6 rM_feedMany D classes (mt cr) [.ref (bd 0), .int key, .int step, .int val, .int (nI q)] (mw bd cr w n K V O LF th fed spl held 1 gone cur nk nv gc gu gl gm) (fun v _ => v = -3) (fun _ => (mw bd cr w n K V O LF 0 fed spl held 1 gone cur nk nv gc gu gl gm)) := by
  refine ZI.of (by decide +kernel) (Nat.le_of_ble_eq_true rfl) ?_
  intro p e s m args below meth c A Q ls C0 hK hP hD hS hA hl hret
  have hx := C0.1
  have hb := C0.2.1
  have hl : lv_has ls 6 [(0, .ref (bd 0)), (1, .int key), (2, .int step), (3, .int val), (4, .int (nI q))] := hl
  refine lv_aload_n hx hb dX1_feedMany_0 rfl (lv_at hl 0 rfl) ?_
  refine lv_iload hx hb dX1_feedMany_1 (lv_at hl 4 rfl) ?_
  refine lv_if_lt (tgt := 14) hx hb dX1_feedMany_3 (by decide) (fun hz => False.elim (nI_pos (by omega) hz)) (fun hz => ?_)
  refine lv_iload hx hb dX1_feedMany_6 (lv_at hl 4 rfl) ?_
  refine lv_sipush (v := 200) hx hb dX1_feedMany_8 (by decide) ?_
  refine lv_icmp_le (tgt := 18) hx hb dX1_feedMany_11 (by decide) (fun hz => ?_) (fun hz => False.elim (hz (nI_le (b := 200) hq (by decide))))
  refine lv_iconst (v := 0) hx hb dX1_feedMany_18 (by decide) ?_
  refine z_put (ty := .int) C0 zt_x1 tyX1 tyX1_ok nmX1 hK hP hD hS 0 rfl rfl 0 (by decide) fl_X1_30 rfl (by decide +kernel) rfl rfl (Nat.le_of_ble_eq_true rfl) dX1_feedMany_19 (fun H locs hP hD hS => ?_)
  have hP : va_P D classes (mw bd cr w n K V O LF 0 fed spl held 1 gone cur nk nv gc gu gl gm) H := hP
  have hD : va_D A (mw bd cr w n K V O LF 0 fed spl held 1 gone cur nk nv gc gu gl gm) := hD
  refine lv_aload_n hx hb dX1_feedMany_22 rfl (lv_at hl 0 rfl) ?_
  refine z_get C0 zt_x1 hK hP 0 rfl rfl 0 (by decide) fl_X1_30 rfl dX1_feedMany_23 ?_
  refine lv_if_le (tgt := 31) hx hb dX1_feedMany_26 (by decide) (fun hz => ?_) (fun hz => False.elim (hz (by decide)))
  refine lv_aload_n hx hb dX1_feedMany_31 rfl (lv_at hl 0 rfl) ?_
  refine z_get C0 zt_x1 hK hP 0 rfl rfl 6 (by decide) fl_X1_42 rfl dX1_feedMany_32 ?_
  refine lv_if_eq (tgt := 41) hx hb dX1_feedMany_35 (by decide) (fun hz => False.elim (absurd hz (by decide))) (fun hz => ?_)
  refine lv_bipush (v := -3) hx hb dX1_feedMany_38 (by decide) ?_
  exact hret _ (()) _ _ _ _ hP hD hS (rfl) dX1_feedMany_40
set_option maxHeartbeats 4000000 in
set_option maxRecDepth 100000 in
theorem m_feedMany_x (l : Launch) (D : va_G) (bd : Nat → Nat) (cr : Nat → ClassId) (w n : Nat) (K V O LF : Nat → Int32) (th fed spl held rd gone cur nk nv gc gu gl gm : Int32) (key step val q : Int32) (hbad : q < 0 ∨ ¬ q ≤ 200) : ZI (S := Unit) l yX1_feedMany cX1_feedMany 6 rM_feedMany D classes (mt cr) [.ref (bd 0), .int key, .int step, .int val, .int q] (mw bd cr w n K V O LF th fed spl held rd gone cur nk nv gc gu gl gm) (fun v _ => v = 0) (fun _ => (mw bd cr w n K V O LF 1 fed spl held rd gone cur nk nv gc gu gl gm)) := by
  refine ZI.of (by decide +kernel) (Nat.le_of_ble_eq_true rfl) ?_
  intro p e s m args below meth c A Q ls C0 hK hP hD hS hA hl hret
  have hx := C0.1
  have hb := C0.2.1
  have hl : lv_has ls 6 [(0, .ref (bd 0)), (1, .int key), (2, .int step), (3, .int val), (4, .int q)] := hl
  refine lv_aload_n hx hb dX1_feedMany_0 rfl (lv_at hl 0 rfl) ?_
  refine lv_iload hx hb dX1_feedMany_1 (lv_at hl 4 rfl) ?_
  refine lv_if_lt (tgt := 14) hx hb dX1_feedMany_3 (by decide) (fun c1 => ?_) (fun c1 => ?_)
  · refine lv_iconst (v := 1) hx hb dX1_feedMany_14 (by decide) ?_
    refine lv_goto (tgt := 19) hx hb dX1_feedMany_15 (by decide) ?_
    refine z_put (ty := .int) C0 zt_x1 tyX1 tyX1_ok nmX1 hK hP hD hS 0 rfl rfl 0 (by decide) fl_X1_30 rfl (by decide +kernel) rfl rfl (Nat.le_of_ble_eq_true rfl) dX1_feedMany_19 (fun H locs hP hD hS => ?_)
    have hP : va_P D classes (mw bd cr w n K V O LF 1 fed spl held rd gone cur nk nv gc gu gl gm) H := hP
    have hD : va_D A (mw bd cr w n K V O LF 1 fed spl held rd gone cur nk nv gc gu gl gm) := hD
    refine lv_aload_n hx hb dX1_feedMany_22 rfl (lv_at hl 0 rfl) ?_
    refine z_get C0 zt_x1 hK hP 0 rfl rfl 0 (by decide) fl_X1_30 rfl dX1_feedMany_23 ?_
    refine lv_if_le (tgt := 31) hx hb dX1_feedMany_26 (by decide) (fun hz => False.elim (absurd hz (by decide))) (fun hz => ?_)
    refine lv_iconst (v := 0) hx hb dX1_feedMany_29 (by decide) ?_
    exact hret _ (()) _ _ _ _ hP hD hS (rfl) dX1_feedMany_30
  · refine lv_iload hx hb dX1_feedMany_6 (lv_at hl 4 rfl) ?_
    refine lv_sipush (v := 200) hx hb dX1_feedMany_8 (by decide) ?_
    refine lv_icmp_le (tgt := 18) hx hb dX1_feedMany_11 (by decide) (fun c2 => ?_) (fun c2 => ?_)
    · exact absurd c2 (hbad.resolve_left c1)
    · refine lv_iconst (v := 1) hx hb dX1_feedMany_14 (by decide) ?_
      refine lv_goto (tgt := 19) hx hb dX1_feedMany_15 (by decide) ?_
      refine z_put (ty := .int) C0 zt_x1 tyX1 tyX1_ok nmX1 hK hP hD hS 0 rfl rfl 0 (by decide) fl_X1_30 rfl (by decide +kernel) rfl rfl (Nat.le_of_ble_eq_true rfl) dX1_feedMany_19 (fun H locs hP hD hS => ?_)
      have hP : va_P D classes (mw bd cr w n K V O LF 1 fed spl held rd gone cur nk nv gc gu gl gm) H := hP
      have hD : va_D A (mw bd cr w n K V O LF 1 fed spl held rd gone cur nk nv gc gu gl gm) := hD
      refine lv_aload_n hx hb dX1_feedMany_22 rfl (lv_at hl 0 rfl) ?_
      refine z_get C0 zt_x1 hK hP 0 rfl rfl 0 (by decide) fl_X1_30 rfl dX1_feedMany_23 ?_
      refine lv_if_le (tgt := 31) hx hb dX1_feedMany_26 (by decide) (fun hz => False.elim (absurd hz (by decide))) (fun hz => ?_)
      refine lv_iconst (v := 0) hx hb dX1_feedMany_29 (by decide) ?_
      exact hret _ (()) _ _ _ _ hP hD hS (rfl) dX1_feedMany_30
abbrev rM_seal : Room := { frames := 0, cells := 0, slots := 0, locals := 0 }
set_option maxHeartbeats 4000000 in
set_option maxRecDepth 100000 in
theorem m_seal (l : Launch) (D : va_G) (bd : Nat → Nat) (cr : Nat → ClassId) (w n : Nat) (K V O LF : Nat → Int32) (th spl held gone cur nk nv gc gu gl gm : Int32) (f : Nat) (hf : f ≤ 2064) : ZI (S := (Nat → Int32)) l yX1_seal cX1_seal 3 rM_seal D classes (mt cr) [.ref (bd 0)] (mw bd cr w n K V O LF th (nI f) spl held 0 gone cur nk nv gc gu gl gm) (fun v O1 => v = 0 ∧ ∃ o, xF K O1 f o) (fun O1 => (mw bd cr w n K V O1 LF 0 (nI f) spl held 1 0 0 nk nv gc gu gl gm)) := by
  refine ZI.of (by decide +kernel) (Nat.le_of_ble_eq_true rfl) ?_
  intro p e s m args below meth c A Q ls C0 hK hP hD hS hA hl hret
  have hx := C0.1
  have hb := C0.2.1
  have hl : lv_has ls 3 [(0, .ref (bd 0))] := hl
  refine lv_aload_n hx hb dX1_seal_0 rfl (lv_at hl 0 rfl) ?_
  refine lv_iconst (v := 0) hx hb dX1_seal_1 (by decide) ?_
  refine z_put (ty := .int) C0 zt_x1 tyX1 tyX1_ok nmX1 hK hP hD hS 0 rfl rfl 0 (by decide) fl_X1_30 rfl (by decide +kernel) rfl rfl (Nat.le_of_ble_eq_true rfl) dX1_seal_2 (fun H locs hP hD hS => ?_)
  have hP : va_P D classes (mw bd cr w n K V O LF 0 (nI f) spl held 0 gone cur nk nv gc gu gl gm) H := hP
  have hD : va_D A (mw bd cr w n K V O LF 0 (nI f) spl held 0 gone cur nk nv gc gu gl gm) := hD
  refine lv_aload_n hx hb dX1_seal_5 rfl (lv_at hl 0 rfl) ?_
  refine z_get C0 zt_x1 hK hP 0 rfl rfl 6 (by decide) fl_X1_42 rfl dX1_seal_6 ?_
  refine lv_if_eq (tgt := 15) hx hb dX1_seal_9 (by decide) (fun hz => ?_) (fun hz => False.elim (hz rfl))
  refine lv_aload_n hx hb dX1_seal_15 rfl (lv_at hl 0 rfl) ?_
  refine lv_iconst (v := 1) hx hb dX1_seal_16 (by decide) ?_
  refine z_put (ty := .boolean) C0 zt_x1 tyX1 tyX1_ok nmX1 hK hP hD hS 0 rfl rfl 6 (by decide) fl_X1_42 rfl (by decide +kernel) rfl rfl (Nat.le_of_ble_eq_true rfl) dX1_seal_17 (fun H locs hP hD hS => ?_)
  have hP : va_P D classes (mw bd cr w n K V O LF 0 (nI f) spl held 1 gone cur nk nv gc gu gl gm) H := hP
  have hD : va_D A (mw bd cr w n K V O LF 0 (nI f) spl held 1 gone cur nk nv gc gu gl gm) := hD
  refine lv_aload_n hx hb dX1_seal_20 rfl (lv_at hl 0 rfl) ?_
  refine lv_iconst (v := 0) hx hb dX1_seal_21 (by decide) ?_
  refine z_put (ty := .int) C0 zt_x1 tyX1 tyX1_ok nmX1 hK hP hD hS 0 rfl rfl 7 (by decide) fl_X1_46 rfl (by decide +kernel) rfl rfl (Nat.le_of_ble_eq_true rfl) dX1_seal_22 (fun H locs hP hD hS => ?_)
  have hP : va_P D classes (mw bd cr w n K V O LF 0 (nI f) spl held 1 0 cur nk nv gc gu gl gm) H := hP
  have hD : va_D A (mw bd cr w n K V O LF 0 (nI f) spl held 1 0 cur nk nv gc gu gl gm) := hD
  refine lv_aload_n hx hb dX1_seal_25 rfl (lv_at hl 0 rfl) ?_
  refine lv_iconst (v := 0) hx hb dX1_seal_26 (by decide) ?_
  refine z_put (ty := .int) C0 zt_x1 tyX1 tyX1_ok nmX1 hK hP hD hS 0 rfl rfl 8 (by decide) fl_X1_49 rfl (by decide +kernel) rfl rfl (Nat.le_of_ble_eq_true rfl) dX1_seal_27 (fun H locs hP hD hS => ?_)
  have hP : va_P D classes (mw bd cr w n K V O LF 0 (nI f) spl held 1 0 0 nk nv gc gu gl gm) H := hP
  have hD : va_D A (mw bd cr w n K V O LF 0 (nI f) spl held 1 0 0 nk nv gc gu gl gm) := hD
  refine lv_iconst (v := 0) hx hb dX1_seal_30 (by decide) ?_
  refine lv_istore_n (lv' := [(1, .int 0), (0, .ref (bd 0))]) hx hb dX1_seal_31 rfl hl (by decide) rfl (fun ls hl => ?_)
  have loop : ∀ (NN : Nat) (kk : Nat) (O1 : Nat → Int32) (o : Nat → Nat) (H : Heap) (locs : List Loc) (ls : Array Slot), (kk ≤ f ∧ (∀ a, a < kk → O1 a = nI (o a)) ∧ px_srt (kz K) o 0 kk ∧ px_prm o 0 kk ∧ ∀ a, kk ≤ a → o a = a) → f - kk < NN → va_P D classes (mw bd cr w n K V O1 LF 0 (nI f) spl held 1 0 0 nk nv gc gu gl gm) H → va_D A (mw bd cr w n K V O1 LF 0 (nI f) spl held 1 0 0 nk nv gc gu gl gm) → va_S A s.heap H locs → lv_has ls 3 [(1, .int (nI kk)), (0, .ref (bd 0))] → W p l e rM_seal s m args below meth c H locs 0 0 Q (F0 m 32 ls []) := by
    intro N32
    induction N32 with
    | zero => intro kk O1 o H locs ls hI hN; exact absurd hN (Nat.not_lt_zero _)
    | succ N32 ih32 =>
      intro kk O1 o H locs ls hI hN32 hP hD hS hl
      obtain ⟨i1, i2, i3, i4, i5⟩ := hI
      refine lv_iload_n hx hb dX1_seal_32 rfl (lv_at hl 0 rfl) ?_
      refine lv_aload_n hx hb dX1_seal_33 rfl (lv_at hl 1 rfl) ?_
      refine z_get C0 zt_x1 hK hP 0 rfl rfl 3 (by decide) fl_X1_33 rfl dX1_seal_34 ?_
      refine lv_icmp_ge (tgt := 101) hx hb dX1_seal_37 (by decide) (fun c1 => ?_) (fun c1 => ?_)
      · have c1 := zle c1 (by omega) (by omega)
        have ek : kk = f := by omega
        rw [ek] at i2 i3 i4
        refine lv_iconst (v := 0) hx hb dX1_seal_101 (by decide) ?_
        exact hret _ (O1) _ _ _ _ hP hD hS (⟨rfl, o, i2, i3, i4⟩) dX1_seal_102
      · have c1 := znle c1 (by omega) (by omega)
        refine lv_iload_n hx hb dX1_seal_40 rfl (lv_at hl 0 rfl) ?_
        refine lv_istore_n (lv' := [(2, .int (nI kk)), (1, .int (nI kk)), (0, .ref (bd 0))]) hx hb dX1_seal_41 rfl hl (by decide) rfl (fun ls hl => ?_)
        have loop : ∀ (NN : Nat) (t : Nat) (O2 : Nat → Int32) (H : Heap) (locs : List Loc) (ls : Array Slot), (t ≤ kk ∧ (∀ a, a ≤ kk → a ≠ t → O2 a = nI (px_sh o t kk a)) ∧ ∀ a, t ≤ a → a < kk → kz K kk < kz K (o a)) → t < NN → va_P D classes (mw bd cr w n K V O2 LF 0 (nI f) spl held 1 0 0 nk nv gc gu gl gm) H → va_D A (mw bd cr w n K V O2 LF 0 (nI f) spl held 1 0 0 nk nv gc gu gl gm) → va_S A s.heap H locs → lv_has ls 3 [(2, .int (nI t)), (1, .int (nI kk)), (0, .ref (bd 0))] → W p l e rM_seal s m args below meth c H locs 0 0 Q (F0 m 42 ls []) := by
          intro N42
          induction N42 with
          | zero => intro t O2 H locs ls hI hN; exact absurd hN (Nat.not_lt_zero _)
          | succ N42 ih42 =>
            intro t O2 H locs ls hI hN42 hP hD hS hl
            obtain ⟨j2, j3, j4⟩ := hI
            refine lv_iload_n hx hb dX1_seal_42 rfl (lv_at hl 0 rfl) ?_
            refine lv_if_le (tgt := 88) hx hb dX1_seal_43 (by decide) (fun c2 => ?_) (fun c2 => ?_)
            · have c2 : t = 0 := by
                have := zle (b := 0) c2 (by omega) (by omega)
                omega
              have hend : t = 0 ∨ kz K (o (t - 1)) ≤ kz K kk := Or.inl c2
              refine lv_aload_n hx hb dX1_seal_88 rfl (lv_at hl 2 rfl) ?_
              refine z_get C0 zt_x1 hK hP 0 rfl rfl 17 (by decide) fl_X1_16 rfl dX1_seal_89 ?_
              refine lv_iload_n hx hb dX1_seal_92 rfl (lv_at hl 0 rfl) ?_
              refine lv_iload_n hx hb dX1_seal_93 rfl (lv_at hl 1 rfl) ?_
              refine z_ist C0 hK hP hD hS 3 2 rfl rfl (j := t) (by omega) (by decide) dX1_seal_94 (fun H locs hP hD hS => ?_)
              have hP : va_P D classes (mw bd cr w n K V (upd O2 t (nI kk)) LF 0 (nI f) spl held 1 0 0 nk nv gc gu gl gm) H := hP
              have hD : va_D A (mw bd cr w n K V (upd O2 t (nI kk)) LF 0 (nI f) spl held 1 0 0 nk nv gc gu gl gm) := hD
              refine lv_iinc (v := nI (kk + 1)) (lv' := [(1, .int (nI (kk + 1))), (2, .int (nI t)), (0, .ref (bd 0))]) hx hb dX1_seal_95 hl (k := 1) rfl (show (nI kk) + Int32.ofInt (1) = nI (kk + 1) from (congrArg ((nI kk) + ·) (by decide : Int32.ofInt (1) = 1)).trans (nI_1 kk)) (by decide) rfl (fun ls hl => ?_)
              refine lv_goto (tgt := 32) hx hb dX1_seal_98 (by decide) ?_
              exact ih32 (kk + 1) (upd O2 t (nI kk)) (px_ins o t kk) _ _ _ (⟨by omega, fun a h => by have z := px_sh_endH j3 a (by omega); rw [i5 kk (Nat.le_refl _)] at z; exact z, px_ins_srt (Nat.zero_le _) j2 i3 (by rw [Nat.sub_zero]; exact i4) (i5 kk (Nat.le_refl _)) (fun a h1 h2 => by rw [i5 kk (Nat.le_refl _)]; exact j4 a h1 h2) (by rw [i5 kk (Nat.le_refl _)]; exact hend), px_ins_prm (Nat.zero_le _) j2 (by rw [Nat.sub_zero]; exact i4) (i5 kk (Nat.le_refl _)), fun a h => by rw [px_ins_hi j2 (by omega)]; exact i5 a (by omega)⟩) (by omega) hP hD hS (lv_sub hl [0, 2] rfl)
            · have c2 : 0 < t := znle (b := 0) c2 (by omega) (by omega)
              have hot : O2 (t - 1) = nI (o (t - 1)) := by rw [j3 (t - 1) (by omega) (by omega), px_sh_lo (by omega)]
              have hon : o (t - 1) < kk := by have := (i4.rng (a := t - 1) (Nat.zero_le _) (by omega)).2; omega
              refine lv_aload_n hx hb dX1_seal_46 rfl (lv_at hl 2 rfl) ?_
              refine z_get C0 zt_x1 hK hP 0 rfl rfl 15 (by decide) fl_X1_7 rfl dX1_seal_47 ?_
              refine lv_aload_n hx hb dX1_seal_50 rfl (lv_at hl 2 rfl) ?_
              refine z_get C0 zt_x1 hK hP 0 rfl rfl 17 (by decide) fl_X1_16 rfl dX1_seal_51 ?_
              refine lv_iload_n hx hb dX1_seal_54 rfl (lv_at hl 0 rfl) ?_
              refine lv_iconst (v := 1) hx hb dX1_seal_55 (by decide) ?_
              refine lv_isub hx hb dX1_seal_56 ?_
              refine z_eq (show ((nI t) - 1) = nI (t - 1) from pk_sub (b := 1) (by omega)) ?_
              refine z_ild C0 hK hP 3 2 rfl rfl (j := (t - 1)) (by omega) (by decide) dX1_seal_57 ?_
              refine z_eq (show (O2 (t - 1)) = nI (o (t - 1)) from hot) ?_
              refine z_ild C0 hK hP 1 0 rfl rfl (j := (o (t - 1))) (by omega) (by decide) dX1_seal_58 ?_
              refine lv_aload_n hx hb dX1_seal_59 rfl (lv_at hl 2 rfl) ?_
              refine z_get C0 zt_x1 hK hP 0 rfl rfl 15 (by decide) fl_X1_7 rfl dX1_seal_60 ?_
              refine lv_iload_n hx hb dX1_seal_63 rfl (lv_at hl 1 rfl) ?_
              refine z_ild C0 hK hP 1 0 rfl rfl (j := kk) (by omega) (by decide) dX1_seal_64 ?_
              refine lv_icmp_le (tgt := 88) hx hb dX1_seal_65 (by decide) (fun c3 => ?_) (fun c3 => ?_)
              · have hend : t = 0 ∨ kz K (o (t - 1)) ≤ kz K kk := Or.inr (kz_le c3)
                refine lv_aload_n hx hb dX1_seal_88 rfl (lv_at hl 2 rfl) ?_
                refine z_get C0 zt_x1 hK hP 0 rfl rfl 17 (by decide) fl_X1_16 rfl dX1_seal_89 ?_
                refine lv_iload_n hx hb dX1_seal_92 rfl (lv_at hl 0 rfl) ?_
                refine lv_iload_n hx hb dX1_seal_93 rfl (lv_at hl 1 rfl) ?_
                refine z_ist C0 hK hP hD hS 3 2 rfl rfl (j := t) (by omega) (by decide) dX1_seal_94 (fun H locs hP hD hS => ?_)
                have hP : va_P D classes (mw bd cr w n K V (upd O2 t (nI kk)) LF 0 (nI f) spl held 1 0 0 nk nv gc gu gl gm) H := hP
                have hD : va_D A (mw bd cr w n K V (upd O2 t (nI kk)) LF 0 (nI f) spl held 1 0 0 nk nv gc gu gl gm) := hD
                refine lv_iinc (v := nI (kk + 1)) (lv' := [(1, .int (nI (kk + 1))), (2, .int (nI t)), (0, .ref (bd 0))]) hx hb dX1_seal_95 hl (k := 1) rfl (show (nI kk) + Int32.ofInt (1) = nI (kk + 1) from (congrArg ((nI kk) + ·) (by decide : Int32.ofInt (1) = 1)).trans (nI_1 kk)) (by decide) rfl (fun ls hl => ?_)
                refine lv_goto (tgt := 32) hx hb dX1_seal_98 (by decide) ?_
                exact ih32 (kk + 1) (upd O2 t (nI kk)) (px_ins o t kk) _ _ _ (⟨by omega, fun a h => by have z := px_sh_endH j3 a (by omega); rw [i5 kk (Nat.le_refl _)] at z; exact z, px_ins_srt (Nat.zero_le _) j2 i3 (by rw [Nat.sub_zero]; exact i4) (i5 kk (Nat.le_refl _)) (fun a h1 h2 => by rw [i5 kk (Nat.le_refl _)]; exact j4 a h1 h2) (by rw [i5 kk (Nat.le_refl _)]; exact hend), px_ins_prm (Nat.zero_le _) j2 (by rw [Nat.sub_zero]; exact i4) (i5 kk (Nat.le_refl _)), fun a h => by rw [px_ins_hi j2 (by omega)]; exact i5 a (by omega)⟩) (by omega) hP hD hS (lv_sub hl [0, 2] rfl)
              · refine lv_aload_n hx hb dX1_seal_68 rfl (lv_at hl 2 rfl) ?_
                refine z_get C0 zt_x1 hK hP 0 rfl rfl 17 (by decide) fl_X1_16 rfl dX1_seal_69 ?_
                refine lv_iload_n hx hb dX1_seal_72 rfl (lv_at hl 0 rfl) ?_
                refine lv_aload_n hx hb dX1_seal_73 rfl (lv_at hl 2 rfl) ?_
                refine z_get C0 zt_x1 hK hP 0 rfl rfl 17 (by decide) fl_X1_16 rfl dX1_seal_74 ?_
                refine lv_iload_n hx hb dX1_seal_77 rfl (lv_at hl 0 rfl) ?_
                refine lv_iconst (v := 1) hx hb dX1_seal_78 (by decide) ?_
                refine lv_isub hx hb dX1_seal_79 ?_
                refine z_eq (show ((nI t) - 1) = nI (t - 1) from pk_sub (b := 1) (by omega)) ?_
                refine z_ild C0 hK hP 3 2 rfl rfl (j := (t - 1)) (by omega) (by decide) dX1_seal_80 ?_
                refine z_eq (show (O2 (t - 1)) = nI (o (t - 1)) from hot) ?_
                refine z_ist C0 hK hP hD hS 3 2 rfl rfl (j := t) (by omega) (by decide) dX1_seal_81 (fun H locs hP hD hS => ?_)
                have hP : va_P D classes (mw bd cr w n K V (upd O2 t (nI (o (t - 1)))) LF 0 (nI f) spl held 1 0 0 nk nv gc gu gl gm) H := hP
                have hD : va_D A (mw bd cr w n K V (upd O2 t (nI (o (t - 1)))) LF 0 (nI f) spl held 1 0 0 nk nv gc gu gl gm) := hD
                refine lv_iinc (v := nI (t - 1)) (lv' := [(2, .int (nI (t - 1))), (1, .int (nI kk)), (0, .ref (bd 0))]) hx hb dX1_seal_82 hl (k := 0) rfl (show (nI t) + Int32.ofInt (-1) = nI (t - 1) from (congrArg ((nI t) + ·) (by decide : Int32.ofInt (-1) = -1)).trans (sb_m1 (by omega))) (by decide) rfl (fun ls hl => ?_)
                refine lv_goto (tgt := 42) hx hb dX1_seal_85 (by decide) ?_
                exact ih42 (t - 1) (upd O2 t (nI (o (t - 1)))) _ _ _ (⟨by omega, px_sh_stepH c2 j2 j3, fun a h1 h2 => by rcases Nat.lt_or_ge a t with q | q; (rw [show a = t - 1 by omega]; exact kz_nle c3); (exact j4 a q h2)⟩) (by omega) hP hD hS (lv_sub hl [0, 1, 2] rfl)
        exact loop _ kk O1 _ _ _ (⟨Nat.le_refl _, fun a h1 h2 => by rw [px_sh_0]; exact i2 a (by omega), fun a h1 h2 => by omega⟩) (Nat.lt_succ_self _) hP hD hS (lv_sub hl [0, 1, 2] (rfl))
  exact loop _ 0 O (fun a => a) _ _ _ (⟨Nat.zero_le _, fun a h => absurd h (Nat.not_lt_zero a), fun a b _ _ h => absurd h (Nat.not_lt_zero b), fun P => rfl, fun a _ => rfl⟩) (Nat.lt_succ_self _) hP hD hS (lv_sub hl [0, 1] (rfl))
set_option maxHeartbeats 4000000 in
set_option maxRecDepth 100000 in
theorem m_seal_s (l : Launch) (D : va_G) (bd : Nat → Nat) (cr : Nat → ClassId) (w n : Nat) (K V O LF : Nat → Int32) (th fed spl held gone cur nk nv gc gu gl gm : Int32)   : ZI (S := Unit) l yX1_seal cX1_seal 3 rM_seal D classes (mt cr) [.ref (bd 0)] (mw bd cr w n K V O LF th fed spl held 1 gone cur nk nv gc gu gl gm) (fun v _ => v = -3) (fun _ => (mw bd cr w n K V O LF 0 fed spl held 1 gone cur nk nv gc gu gl gm)) := by
  refine ZI.of (by decide +kernel) (Nat.le_of_ble_eq_true rfl) ?_
  intro p e s m args below meth c A Q ls C0 hK hP hD hS hA hl hret
  have hx := C0.1
  have hb := C0.2.1
  have hl : lv_has ls 3 [(0, .ref (bd 0))] := hl
  refine lv_aload_n hx hb dX1_seal_0 rfl (lv_at hl 0 rfl) ?_
  refine lv_iconst (v := 0) hx hb dX1_seal_1 (by decide) ?_
  refine z_put (ty := .int) C0 zt_x1 tyX1 tyX1_ok nmX1 hK hP hD hS 0 rfl rfl 0 (by decide) fl_X1_30 rfl (by decide +kernel) rfl rfl (Nat.le_of_ble_eq_true rfl) dX1_seal_2 (fun H locs hP hD hS => ?_)
  have hP : va_P D classes (mw bd cr w n K V O LF 0 fed spl held 1 gone cur nk nv gc gu gl gm) H := hP
  have hD : va_D A (mw bd cr w n K V O LF 0 fed spl held 1 gone cur nk nv gc gu gl gm) := hD
  refine lv_aload_n hx hb dX1_seal_5 rfl (lv_at hl 0 rfl) ?_
  refine z_get C0 zt_x1 hK hP 0 rfl rfl 6 (by decide) fl_X1_42 rfl dX1_seal_6 ?_
  refine lv_if_eq (tgt := 15) hx hb dX1_seal_9 (by decide) (fun hz => False.elim (absurd hz (by decide))) (fun hz => ?_)
  refine lv_bipush (v := -3) hx hb dX1_seal_12 (by decide) ?_
  exact hret _ (()) _ _ _ _ hP hD hS (rfl) dX1_seal_14
end
section
theorem rw_open_0 {w rn c : Nat} {o : Nat → Nat} : rw_open w rn o c 0 = 0 := by
  unfold rw_open
  exact px_cnt_0 rn (fun k _ => rfl)
theorem gs_nx {V : Nat → Int32} {o : Nat → Nat} {c0 mm : Nat} {gc gu gl gm : Int32} (h0 : mm = 0 → gc = 0 ∧ gu = 0) (h1 : 0 < mm → (gc, gu, gl, gm) = gs_F V o c0 mm) : (gc + 1, gu + V (o (c0 + mm)), (if gc = 0 then V (o (c0 + mm)) else if V (o (c0 + mm)) < gl then V (o (c0 + mm)) else gl), (if gc = 0 then V (o (c0 + mm)) else if gm < V (o (c0 + mm)) then V (o (c0 + mm)) else gm)) = gs_F V o c0 (mm + 1) := by
  show _ = gs_P (gs_F V o c0 mm) (V (o (c0 + mm)))
  rcases Nat.eq_zero_or_pos mm with q | q
  · obtain ⟨e1, e2⟩ := h0 q
    rw [e1, e2, q]
    rfl
  · rw [← h1 q]
    rfl
abbrev rM_nextRow : Room := { frames := 0, cells := 0, slots := 0, locals := 0 }
set_option maxHeartbeats 4000000 in
set_option maxRecDepth 100000 in
theorem m_nextRow_u (l : Launch) (D : va_G) (bd : Nat → Nat) (cr : Nat → ClassId) (w n : Nat) (K V O LF : Nat → Int32) (th fed spl held gone cur nk nv gc gu gl gm : Int32)   : ZI (S := Unit) l yX1_nextRow cX1_nextRow 1 rM_nextRow D classes (mt cr) [.ref (bd 0)] (mw bd cr w n K V O LF th fed spl held 0 gone cur nk nv gc gu gl gm) (fun v _ => v = -4) (fun _ => (mw bd cr w n K V O LF 0 fed spl held 0 gone cur nk nv gc gu gl gm)) := by
  refine ZI.of (by decide +kernel) (Nat.le_of_ble_eq_true rfl) ?_
  intro p e s m args below meth c A Q ls C0 hK hP hD hS hA hl hret
  have hx := C0.1
  have hb := C0.2.1
  have hl : lv_has ls 1 [(0, .ref (bd 0))] := hl
  refine lv_aload_n hx hb dX1_nextRow_0 rfl (lv_at hl 0 rfl) ?_
  refine lv_iconst (v := 0) hx hb dX1_nextRow_1 (by decide) ?_
  refine z_put (ty := .int) C0 zt_x1 tyX1 tyX1_ok nmX1 hK hP hD hS 0 rfl rfl 0 (by decide) fl_X1_30 rfl (by decide +kernel) rfl rfl (Nat.le_of_ble_eq_true rfl) dX1_nextRow_2 (fun H locs hP hD hS => ?_)
  have hP : va_P D classes (mw bd cr w n K V O LF 0 fed spl held 0 gone cur nk nv gc gu gl gm) H := hP
  have hD : va_D A (mw bd cr w n K V O LF 0 fed spl held 0 gone cur nk nv gc gu gl gm) := hD
  refine lv_aload_n hx hb dX1_nextRow_5 rfl (lv_at hl 0 rfl) ?_
  refine z_get C0 zt_x1 hK hP 0 rfl rfl 6 (by decide) fl_X1_42 rfl dX1_nextRow_6 ?_
  refine lv_if_ne (tgt := 15) hx hb dX1_nextRow_9 (by decide) (fun hz => False.elim (hz rfl)) (fun hz => ?_)
  refine lv_bipush (v := -4) hx hb dX1_nextRow_12 (by decide) ?_
  exact hret _ (()) _ _ _ _ hP hD hS (rfl) dX1_nextRow_14
set_option maxHeartbeats 4000000 in
set_option maxRecDepth 100000 in
theorem m_nextRow_e (l : Launch) (D : va_G) (bd : Nat → Nat) (cr : Nat → ClassId) (w n : Nat) (K V O LF : Nat → Int32) (th spl held cur nk nv gc gu gl gm : Int32) (f : Nat)  : ZI (S := Unit) l yX1_nextRow cX1_nextRow 1 rM_nextRow D classes (mt cr) [.ref (bd 0)] (mw bd cr w n K V O LF th (nI f) spl held 1 (nI f) cur nk nv gc gu gl gm) (fun v _ => v = -1) (fun _ => (mw bd cr w n K V O LF 0 (nI f) spl held 1 (nI f) 0 nk nv gc gu gl gm)) := by
  refine ZI.of (by decide +kernel) (Nat.le_of_ble_eq_true rfl) ?_
  intro p e s m args below meth c A Q ls C0 hK hP hD hS hA hl hret
  have hx := C0.1
  have hb := C0.2.1
  have hl : lv_has ls 1 [(0, .ref (bd 0))] := hl
  refine lv_aload_n hx hb dX1_nextRow_0 rfl (lv_at hl 0 rfl) ?_
  refine lv_iconst (v := 0) hx hb dX1_nextRow_1 (by decide) ?_
  refine z_put (ty := .int) C0 zt_x1 tyX1 tyX1_ok nmX1 hK hP hD hS 0 rfl rfl 0 (by decide) fl_X1_30 rfl (by decide +kernel) rfl rfl (Nat.le_of_ble_eq_true rfl) dX1_nextRow_2 (fun H locs hP hD hS => ?_)
  have hP : va_P D classes (mw bd cr w n K V O LF 0 (nI f) spl held 1 (nI f) cur nk nv gc gu gl gm) H := hP
  have hD : va_D A (mw bd cr w n K V O LF 0 (nI f) spl held 1 (nI f) cur nk nv gc gu gl gm) := hD
  refine lv_aload_n hx hb dX1_nextRow_5 rfl (lv_at hl 0 rfl) ?_
  refine z_get C0 zt_x1 hK hP 0 rfl rfl 6 (by decide) fl_X1_42 rfl dX1_nextRow_6 ?_
  refine lv_if_ne (tgt := 15) hx hb dX1_nextRow_9 (by decide) (fun hz => ?_) (fun hz => False.elim (absurd hz (by decide)))
  refine lv_aload_n hx hb dX1_nextRow_15 rfl (lv_at hl 0 rfl) ?_
  refine z_get C0 zt_x1 hK hP 0 rfl rfl 7 (by decide) fl_X1_46 rfl dX1_nextRow_16 ?_
  refine lv_aload_n hx hb dX1_nextRow_19 rfl (lv_at hl 0 rfl) ?_
  refine z_get C0 zt_x1 hK hP 0 rfl rfl 3 (by decide) fl_X1_33 rfl dX1_nextRow_20 ?_
  refine lv_icmp_ne (tgt := 33) hx hb dX1_nextRow_23 (by decide) (fun hz => False.elim (hz rfl)) (fun hz => ?_)
  refine lv_aload_n hx hb dX1_nextRow_26 rfl (lv_at hl 0 rfl) ?_
  refine lv_iconst (v := 0) hx hb dX1_nextRow_27 (by decide) ?_
  refine z_put (ty := .int) C0 zt_x1 tyX1 tyX1_ok nmX1 hK hP hD hS 0 rfl rfl 8 (by decide) fl_X1_49 rfl (by decide +kernel) rfl rfl (Nat.le_of_ble_eq_true rfl) dX1_nextRow_28 (fun H locs hP hD hS => ?_)
  have hP : va_P D classes (mw bd cr w n K V O LF 0 (nI f) spl held 1 (nI f) 0 nk nv gc gu gl gm) H := hP
  have hD : va_D A (mw bd cr w n K V O LF 0 (nI f) spl held 1 (nI f) 0 nk nv gc gu gl gm) := hD
  refine lv_iconst (v := -1) hx hb dX1_nextRow_31 (by decide) ?_
  exact hret _ (()) _ _ _ _ hP hD hS (rfl) dX1_nextRow_32
abbrev rM_nextGroup : Room := { frames := 0, cells := 0, slots := 0, locals := 0 }
set_option maxHeartbeats 4000000 in
set_option maxRecDepth 100000 in
theorem m_nextGroup_u (l : Launch) (D : va_G) (bd : Nat → Nat) (cr : Nat → ClassId) (w n : Nat) (K V O LF : Nat → Int32) (th fed spl held gone cur nk nv gc gu gl gm : Int32)   : ZI (S := Unit) l yX1_nextGroup cX1_nextGroup 2 rM_nextGroup D classes (mt cr) [.ref (bd 0)] (mw bd cr w n K V O LF th fed spl held 0 gone cur nk nv gc gu gl gm) (fun v _ => v = -4) (fun _ => (mw bd cr w n K V O LF 0 fed spl held 0 gone cur nk nv gc gu gl gm)) := by
  refine ZI.of (by decide +kernel) (Nat.le_of_ble_eq_true rfl) ?_
  intro p e s m args below meth c A Q ls C0 hK hP hD hS hA hl hret
  have hx := C0.1
  have hb := C0.2.1
  have hl : lv_has ls 2 [(0, .ref (bd 0))] := hl
  refine lv_aload_n hx hb dX1_nextGroup_0 rfl (lv_at hl 0 rfl) ?_
  refine lv_iconst (v := 0) hx hb dX1_nextGroup_1 (by decide) ?_
  refine z_put (ty := .int) C0 zt_x1 tyX1 tyX1_ok nmX1 hK hP hD hS 0 rfl rfl 0 (by decide) fl_X1_30 rfl (by decide +kernel) rfl rfl (Nat.le_of_ble_eq_true rfl) dX1_nextGroup_2 (fun H locs hP hD hS => ?_)
  have hP : va_P D classes (mw bd cr w n K V O LF 0 fed spl held 0 gone cur nk nv gc gu gl gm) H := hP
  have hD : va_D A (mw bd cr w n K V O LF 0 fed spl held 0 gone cur nk nv gc gu gl gm) := hD
  refine lv_aload_n hx hb dX1_nextGroup_5 rfl (lv_at hl 0 rfl) ?_
  refine z_get C0 zt_x1 hK hP 0 rfl rfl 6 (by decide) fl_X1_42 rfl dX1_nextGroup_6 ?_
  refine lv_if_ne (tgt := 15) hx hb dX1_nextGroup_9 (by decide) (fun hz => False.elim (hz rfl)) (fun hz => ?_)
  refine lv_bipush (v := -4) hx hb dX1_nextGroup_12 (by decide) ?_
  exact hret _ (()) _ _ _ _ hP hD hS (rfl) dX1_nextGroup_14
set_option maxHeartbeats 4000000 in
set_option maxRecDepth 100000 in
theorem m_nextGroup_e (l : Launch) (D : va_G) (bd : Nat → Nat) (cr : Nat → ClassId) (w n : Nat) (K V O LF : Nat → Int32) (th spl held cur nk nv gc gu gl gm : Int32) (f : Nat)  : ZI (S := Unit) l yX1_nextGroup cX1_nextGroup 2 rM_nextGroup D classes (mt cr) [.ref (bd 0)] (mw bd cr w n K V O LF th (nI f) spl held 1 (nI f) cur nk nv gc gu gl gm) (fun v _ => v = -1) (fun _ => (mw bd cr w n K V O LF 0 (nI f) spl held 1 (nI f) 0 nk nv gc gu gl gm)) := by
  refine ZI.of (by decide +kernel) (Nat.le_of_ble_eq_true rfl) ?_
  intro p e s m args below meth c A Q ls C0 hK hP hD hS hA hl hret
  have hx := C0.1
  have hb := C0.2.1
  have hl : lv_has ls 2 [(0, .ref (bd 0))] := hl
  refine lv_aload_n hx hb dX1_nextGroup_0 rfl (lv_at hl 0 rfl) ?_
  refine lv_iconst (v := 0) hx hb dX1_nextGroup_1 (by decide) ?_
  refine z_put (ty := .int) C0 zt_x1 tyX1 tyX1_ok nmX1 hK hP hD hS 0 rfl rfl 0 (by decide) fl_X1_30 rfl (by decide +kernel) rfl rfl (Nat.le_of_ble_eq_true rfl) dX1_nextGroup_2 (fun H locs hP hD hS => ?_)
  have hP : va_P D classes (mw bd cr w n K V O LF 0 (nI f) spl held 1 (nI f) cur nk nv gc gu gl gm) H := hP
  have hD : va_D A (mw bd cr w n K V O LF 0 (nI f) spl held 1 (nI f) cur nk nv gc gu gl gm) := hD
  refine lv_aload_n hx hb dX1_nextGroup_5 rfl (lv_at hl 0 rfl) ?_
  refine z_get C0 zt_x1 hK hP 0 rfl rfl 6 (by decide) fl_X1_42 rfl dX1_nextGroup_6 ?_
  refine lv_if_ne (tgt := 15) hx hb dX1_nextGroup_9 (by decide) (fun hz => ?_) (fun hz => False.elim (absurd hz (by decide)))
  refine lv_aload_n hx hb dX1_nextGroup_15 rfl (lv_at hl 0 rfl) ?_
  refine z_get C0 zt_x1 hK hP 0 rfl rfl 7 (by decide) fl_X1_46 rfl dX1_nextGroup_16 ?_
  refine lv_aload_n hx hb dX1_nextGroup_19 rfl (lv_at hl 0 rfl) ?_
  refine z_get C0 zt_x1 hK hP 0 rfl rfl 3 (by decide) fl_X1_33 rfl dX1_nextGroup_20 ?_
  refine lv_icmp_ne (tgt := 33) hx hb dX1_nextGroup_23 (by decide) (fun hz => False.elim (hz rfl)) (fun hz => ?_)
  refine lv_aload_n hx hb dX1_nextGroup_26 rfl (lv_at hl 0 rfl) ?_
  refine lv_iconst (v := 0) hx hb dX1_nextGroup_27 (by decide) ?_
  refine z_put (ty := .int) C0 zt_x1 tyX1 tyX1_ok nmX1 hK hP hD hS 0 rfl rfl 8 (by decide) fl_X1_49 rfl (by decide +kernel) rfl rfl (Nat.le_of_ble_eq_true rfl) dX1_nextGroup_28 (fun H locs hP hD hS => ?_)
  have hP : va_P D classes (mw bd cr w n K V O LF 0 (nI f) spl held 1 (nI f) 0 nk nv gc gu gl gm) H := hP
  have hD : va_D A (mw bd cr w n K V O LF 0 (nI f) spl held 1 (nI f) 0 nk nv gc gu gl gm) := hD
  refine lv_iconst (v := -1) hx hb dX1_nextGroup_31 (by decide) ?_
  exact hret _ (()) _ _ _ _ hP hD hS (rfl) dX1_nextGroup_32
set_option maxHeartbeats 4000000 in
set_option maxRecDepth 100000 in
theorem m_nextRow (l : Launch) (D : va_G) (bd : Nat → Nat) (cr : Nat → ClassId) (w n : Nat) (K V O LF : Nat → Int32) (th spl held cur nk nv gc gu gl gm : Int32) (f c0 : Nat) (o : Nat → Nat) (hf : f ≤ 2064) (hF : xF K O f o) (hc : c0 < f) : ZI (S := Unit) l yX1_nextRow cX1_nextRow 1 rM_nextRow D classes (mt cr) [.ref (bd 0)] (mw bd cr w n K V O LF th (nI f) spl held 1 (nI c0) cur nk nv gc gu gl gm) (fun v _ => v = 1) (fun _ => (mw bd cr w n K V O LF 0 (nI f) spl held 1 (nI (c0 + 1)) 1 (K (o c0)) (V (o c0)) gc gu gl gm)) := by
  refine ZI.of (by decide +kernel) (Nat.le_of_ble_eq_true rfl) ?_
  intro p e s m args below meth c A Q ls C0 hK hP hD hS hA hl hret
  have hx := C0.1
  have hb := C0.2.1
  have hl : lv_has ls 1 [(0, .ref (bd 0))] := hl
  refine lv_aload_n hx hb dX1_nextRow_0 rfl (lv_at hl 0 rfl) ?_
  refine lv_iconst (v := 0) hx hb dX1_nextRow_1 (by decide) ?_
  refine z_put (ty := .int) C0 zt_x1 tyX1 tyX1_ok nmX1 hK hP hD hS 0 rfl rfl 0 (by decide) fl_X1_30 rfl (by decide +kernel) rfl rfl (Nat.le_of_ble_eq_true rfl) dX1_nextRow_2 (fun H locs hP hD hS => ?_)
  have hP : va_P D classes (mw bd cr w n K V O LF 0 (nI f) spl held 1 (nI c0) cur nk nv gc gu gl gm) H := hP
  have hD : va_D A (mw bd cr w n K V O LF 0 (nI f) spl held 1 (nI c0) cur nk nv gc gu gl gm) := hD
  refine lv_aload_n hx hb dX1_nextRow_5 rfl (lv_at hl 0 rfl) ?_
  refine z_get C0 zt_x1 hK hP 0 rfl rfl 6 (by decide) fl_X1_42 rfl dX1_nextRow_6 ?_
  refine lv_if_ne (tgt := 15) hx hb dX1_nextRow_9 (by decide) (fun hz => ?_) (fun hz => False.elim (absurd hz (by decide)))
  refine lv_aload_n hx hb dX1_nextRow_15 rfl (lv_at hl 0 rfl) ?_
  refine z_get C0 zt_x1 hK hP 0 rfl rfl 7 (by decide) fl_X1_46 rfl dX1_nextRow_16 ?_
  refine lv_aload_n hx hb dX1_nextRow_19 rfl (lv_at hl 0 rfl) ?_
  refine z_get C0 zt_x1 hK hP 0 rfl rfl 3 (by decide) fl_X1_33 rfl dX1_nextRow_20 ?_
  refine lv_icmp_ne (tgt := 33) hx hb dX1_nextRow_23 (by decide) (fun hz => ?_) (fun hz => False.elim ((by have := zeq hz (by omega) (by omega); omega)))
  refine lv_aload_n hx hb dX1_nextRow_33 rfl (lv_at hl 0 rfl) ?_
  refine lv_iconst (v := 1) hx hb dX1_nextRow_34 (by decide) ?_
  refine z_put (ty := .int) C0 zt_x1 tyX1 tyX1_ok nmX1 hK hP hD hS 0 rfl rfl 8 (by decide) fl_X1_49 rfl (by decide +kernel) rfl rfl (Nat.le_of_ble_eq_true rfl) dX1_nextRow_35 (fun H locs hP hD hS => ?_)
  have hP : va_P D classes (mw bd cr w n K V O LF 0 (nI f) spl held 1 (nI c0) 1 nk nv gc gu gl gm) H := hP
  have hD : va_D A (mw bd cr w n K V O LF 0 (nI f) spl held 1 (nI c0) 1 nk nv gc gu gl gm) := hD
  refine lv_aload_n hx hb dX1_nextRow_38 rfl (lv_at hl 0 rfl) ?_
  refine lv_aload_n hx hb dX1_nextRow_39 rfl (lv_at hl 0 rfl) ?_
  refine z_get C0 zt_x1 hK hP 0 rfl rfl 15 (by decide) fl_X1_7 rfl dX1_nextRow_40 ?_
  refine lv_aload_n hx hb dX1_nextRow_43 rfl (lv_at hl 0 rfl) ?_
  refine z_get C0 zt_x1 hK hP 0 rfl rfl 17 (by decide) fl_X1_16 rfl dX1_nextRow_44 ?_
  refine lv_aload_n hx hb dX1_nextRow_47 rfl (lv_at hl 0 rfl) ?_
  refine z_get C0 zt_x1 hK hP 0 rfl rfl 7 (by decide) fl_X1_46 rfl dX1_nextRow_48 ?_
  refine z_ild C0 hK hP 3 2 rfl rfl (j := c0) (by omega) (by decide) dX1_nextRow_51 ?_
  refine z_eq (show (O c0) = nI (o (c0)) from hF.1 _ (by omega)) ?_
  refine z_ild C0 hK hP 1 0 rfl rfl (j := (o (c0))) (by have := hF.rng (a := c0) (by omega); omega) (by decide) dX1_nextRow_52 ?_
  refine z_put (ty := .int) C0 zt_x1 tyX1 tyX1_ok nmX1 hK hP hD hS 0 rfl rfl 9 (by decide) fl_X1_56 rfl (by decide +kernel) rfl rfl (Nat.le_of_ble_eq_true rfl) dX1_nextRow_53 (fun H locs hP hD hS => ?_)
  have hP : va_P D classes (mw bd cr w n K V O LF 0 (nI f) spl held 1 (nI c0) 1 (K (o (c0))) nv gc gu gl gm) H := hP
  have hD : va_D A (mw bd cr w n K V O LF 0 (nI f) spl held 1 (nI c0) 1 (K (o (c0))) nv gc gu gl gm) := hD
  refine lv_aload_n hx hb dX1_nextRow_56 rfl (lv_at hl 0 rfl) ?_
  refine lv_aload_n hx hb dX1_nextRow_57 rfl (lv_at hl 0 rfl) ?_
  refine z_get C0 zt_x1 hK hP 0 rfl rfl 16 (by decide) fl_X1_13 rfl dX1_nextRow_58 ?_
  refine lv_aload_n hx hb dX1_nextRow_61 rfl (lv_at hl 0 rfl) ?_
  refine z_get C0 zt_x1 hK hP 0 rfl rfl 17 (by decide) fl_X1_16 rfl dX1_nextRow_62 ?_
  refine lv_aload_n hx hb dX1_nextRow_65 rfl (lv_at hl 0 rfl) ?_
  refine z_get C0 zt_x1 hK hP 0 rfl rfl 7 (by decide) fl_X1_46 rfl dX1_nextRow_66 ?_
  refine z_ild C0 hK hP 3 2 rfl rfl (j := c0) (by omega) (by decide) dX1_nextRow_69 ?_
  refine z_eq (show (O c0) = nI (o (c0)) from hF.1 _ (by omega)) ?_
  refine z_ild C0 hK hP 2 1 rfl rfl (j := (o (c0))) (by have := hF.rng (a := c0) (by omega); omega) (by decide) dX1_nextRow_70 ?_
  refine z_put (ty := .int) C0 zt_x1 tyX1 tyX1_ok nmX1 hK hP hD hS 0 rfl rfl 10 (by decide) fl_X1_59 rfl (by decide +kernel) rfl rfl (Nat.le_of_ble_eq_true rfl) dX1_nextRow_71 (fun H locs hP hD hS => ?_)
  have hP : va_P D classes (mw bd cr w n K V O LF 0 (nI f) spl held 1 (nI c0) 1 (K (o (c0))) (V (o (c0))) gc gu gl gm) H := hP
  have hD : va_D A (mw bd cr w n K V O LF 0 (nI f) spl held 1 (nI c0) 1 (K (o (c0))) (V (o (c0))) gc gu gl gm) := hD
  refine lv_aload_n hx hb dX1_nextRow_74 rfl (lv_at hl 0 rfl) ?_
  refine lv_dup hx hb dX1_nextRow_75 rfl ?_
  refine z_get C0 zt_x1 hK hP 0 rfl rfl 7 (by decide) fl_X1_46 rfl dX1_nextRow_76 ?_
  refine lv_iconst (v := 1) hx hb dX1_nextRow_79 (by decide) ?_
  refine lv_iadd hx hb dX1_nextRow_80 ?_
  refine z_eq (show ((nI c0) + 1) = nI (c0 + 1) from nI_1 c0) ?_
  refine z_put (ty := .int) C0 zt_x1 tyX1 tyX1_ok nmX1 hK hP hD hS 0 rfl rfl 7 (by decide) fl_X1_46 rfl (by decide +kernel) rfl rfl (Nat.le_of_ble_eq_true rfl) dX1_nextRow_81 (fun H locs hP hD hS => ?_)
  have hP : va_P D classes (mw bd cr w n K V O LF 0 (nI f) spl held 1 (nI (c0 + 1)) 1 (K (o (c0))) (V (o (c0))) gc gu gl gm) H := hP
  have hD : va_D A (mw bd cr w n K V O LF 0 (nI f) spl held 1 (nI (c0 + 1)) 1 (K (o (c0))) (V (o (c0))) gc gu gl gm) := hD
  refine lv_iconst (v := 1) hx hb dX1_nextRow_84 (by decide) ?_
  exact hret _ (()) _ _ _ _ hP hD hS (rfl) dX1_nextRow_85
set_option maxHeartbeats 4000000 in
set_option maxRecDepth 100000 in
theorem m_nextGroup (l : Launch) (D : va_G) (bd : Nat → Nat) (cr : Nat → ClassId) (w n : Nat) (K V O LF : Nat → Int32) (th spl held cur nk nv gc gu gl gm : Int32) (f c0 : Nat) (o : Nat → Nat) (hf : f ≤ 2064) (hF : xF K O f o) (hc : c0 < f) : ZI (S := (Nat × Int32 × Int32 × Int32 × Int32)) l yX1_nextGroup cX1_nextGroup 2 rM_nextGroup D classes (mt cr) [.ref (bd 0)] (mw bd cr w n K V O LF th (nI f) spl held 1 (nI c0) cur nk nv gc gu gl gm) (fun v u => v = 2 ∧ c0 + u.1 ≤ f ∧ (∀ i, i < u.1 → K (o (c0 + i)) = K (o c0)) ∧ (c0 + u.1 = f ∨ ¬ K (o (c0 + u.1)) = K (o c0)) ∧ (0 < u.1 → (u.2.1, u.2.2.1, u.2.2.2.1, u.2.2.2.2) = gs_F V o c0 u.1)) (fun u => (mw bd cr w n K V O LF 0 (nI f) spl held 1 (nI (c0 + u.1)) 2 (K (o c0)) nv u.2.1 u.2.2.1 u.2.2.2.1 u.2.2.2.2)) := by
  refine ZI.of (by decide +kernel) (Nat.le_of_ble_eq_true rfl) ?_
  intro p e s m args below meth c A Q ls C0 hK hP hD hS hA hl hret
  have hx := C0.1
  have hb := C0.2.1
  have hl : lv_has ls 2 [(0, .ref (bd 0))] := hl
  refine lv_aload_n hx hb dX1_nextGroup_0 rfl (lv_at hl 0 rfl) ?_
  refine lv_iconst (v := 0) hx hb dX1_nextGroup_1 (by decide) ?_
  refine z_put (ty := .int) C0 zt_x1 tyX1 tyX1_ok nmX1 hK hP hD hS 0 rfl rfl 0 (by decide) fl_X1_30 rfl (by decide +kernel) rfl rfl (Nat.le_of_ble_eq_true rfl) dX1_nextGroup_2 (fun H locs hP hD hS => ?_)
  have hP : va_P D classes (mw bd cr w n K V O LF 0 (nI f) spl held 1 (nI c0) cur nk nv gc gu gl gm) H := hP
  have hD : va_D A (mw bd cr w n K V O LF 0 (nI f) spl held 1 (nI c0) cur nk nv gc gu gl gm) := hD
  refine lv_aload_n hx hb dX1_nextGroup_5 rfl (lv_at hl 0 rfl) ?_
  refine z_get C0 zt_x1 hK hP 0 rfl rfl 6 (by decide) fl_X1_42 rfl dX1_nextGroup_6 ?_
  refine lv_if_ne (tgt := 15) hx hb dX1_nextGroup_9 (by decide) (fun hz => ?_) (fun hz => False.elim (absurd hz (by decide)))
  refine lv_aload_n hx hb dX1_nextGroup_15 rfl (lv_at hl 0 rfl) ?_
  refine z_get C0 zt_x1 hK hP 0 rfl rfl 7 (by decide) fl_X1_46 rfl dX1_nextGroup_16 ?_
  refine lv_aload_n hx hb dX1_nextGroup_19 rfl (lv_at hl 0 rfl) ?_
  refine z_get C0 zt_x1 hK hP 0 rfl rfl 3 (by decide) fl_X1_33 rfl dX1_nextGroup_20 ?_
  refine lv_icmp_ne (tgt := 33) hx hb dX1_nextGroup_23 (by decide) (fun hz => ?_) (fun hz => False.elim ((by have := zeq hz (by omega) (by omega); omega)))
  refine lv_aload_n hx hb dX1_nextGroup_33 rfl (lv_at hl 0 rfl) ?_
  refine lv_iconst (v := 2) hx hb dX1_nextGroup_34 (by decide) ?_
  refine z_put (ty := .int) C0 zt_x1 tyX1 tyX1_ok nmX1 hK hP hD hS 0 rfl rfl 8 (by decide) fl_X1_49 rfl (by decide +kernel) rfl rfl (Nat.le_of_ble_eq_true rfl) dX1_nextGroup_35 (fun H locs hP hD hS => ?_)
  have hP : va_P D classes (mw bd cr w n K V O LF 0 (nI f) spl held 1 (nI c0) 2 nk nv gc gu gl gm) H := hP
  have hD : va_D A (mw bd cr w n K V O LF 0 (nI f) spl held 1 (nI c0) 2 nk nv gc gu gl gm) := hD
  refine lv_aload_n hx hb dX1_nextGroup_38 rfl (lv_at hl 0 rfl) ?_
  refine lv_aload_n hx hb dX1_nextGroup_39 rfl (lv_at hl 0 rfl) ?_
  refine z_get C0 zt_x1 hK hP 0 rfl rfl 15 (by decide) fl_X1_7 rfl dX1_nextGroup_40 ?_
  refine lv_aload_n hx hb dX1_nextGroup_43 rfl (lv_at hl 0 rfl) ?_
  refine z_get C0 zt_x1 hK hP 0 rfl rfl 17 (by decide) fl_X1_16 rfl dX1_nextGroup_44 ?_
  refine lv_aload_n hx hb dX1_nextGroup_47 rfl (lv_at hl 0 rfl) ?_
  refine z_get C0 zt_x1 hK hP 0 rfl rfl 7 (by decide) fl_X1_46 rfl dX1_nextGroup_48 ?_
  refine z_ild C0 hK hP 3 2 rfl rfl (j := c0) (by omega) (by decide) dX1_nextGroup_51 ?_
  refine z_eq (show (O c0) = nI (o (c0)) from hF.1 _ (by omega)) ?_
  refine z_ild C0 hK hP 1 0 rfl rfl (j := (o (c0))) (by have := hF.rng (a := c0) (by omega); omega) (by decide) dX1_nextGroup_52 ?_
  refine z_put (ty := .int) C0 zt_x1 tyX1 tyX1_ok nmX1 hK hP hD hS 0 rfl rfl 9 (by decide) fl_X1_56 rfl (by decide +kernel) rfl rfl (Nat.le_of_ble_eq_true rfl) dX1_nextGroup_53 (fun H locs hP hD hS => ?_)
  have hP : va_P D classes (mw bd cr w n K V O LF 0 (nI f) spl held 1 (nI c0) 2 (K (o (c0))) nv gc gu gl gm) H := hP
  have hD : va_D A (mw bd cr w n K V O LF 0 (nI f) spl held 1 (nI c0) 2 (K (o (c0))) nv gc gu gl gm) := hD
  refine lv_aload_n hx hb dX1_nextGroup_56 rfl (lv_at hl 0 rfl) ?_
  refine lv_iconst (v := 0) hx hb dX1_nextGroup_57 (by decide) ?_
  refine z_put (ty := .int) C0 zt_x1 tyX1 tyX1_ok nmX1 hK hP hD hS 0 rfl rfl 11 (by decide) fl_X1_62 rfl (by decide +kernel) rfl rfl (Nat.le_of_ble_eq_true rfl) dX1_nextGroup_58 (fun H locs hP hD hS => ?_)
  have hP : va_P D classes (mw bd cr w n K V O LF 0 (nI f) spl held 1 (nI c0) 2 (K (o (c0))) nv 0 gu gl gm) H := hP
  have hD : va_D A (mw bd cr w n K V O LF 0 (nI f) spl held 1 (nI c0) 2 (K (o (c0))) nv 0 gu gl gm) := hD
  refine lv_aload_n hx hb dX1_nextGroup_61 rfl (lv_at hl 0 rfl) ?_
  refine lv_iconst (v := 0) hx hb dX1_nextGroup_62 (by decide) ?_
  refine z_put (ty := .int) C0 zt_x1 tyX1 tyX1_ok nmX1 hK hP hD hS 0 rfl rfl 12 (by decide) fl_X1_65 rfl (by decide +kernel) rfl rfl (Nat.le_of_ble_eq_true rfl) dX1_nextGroup_63 (fun H locs hP hD hS => ?_)
  have hP : va_P D classes (mw bd cr w n K V O LF 0 (nI f) spl held 1 (nI c0) 2 (K (o (c0))) nv 0 0 gl gm) H := hP
  have hD : va_D A (mw bd cr w n K V O LF 0 (nI f) spl held 1 (nI c0) 2 (K (o (c0))) nv 0 0 gl gm) := hD
  have loop : ∀ (NN : Nat) (mm : Nat) (gc2 gu2 gl2 gm2 : Int32) (H : Heap) (locs : List Loc) (ls : Array Slot), (c0 + mm ≤ f ∧ (∀ i, i < mm → K (o (c0 + i)) = K (o c0)) ∧ (mm = 0 → gc2 = 0 ∧ gu2 = 0) ∧ (0 < mm → (gc2, gu2, gl2, gm2) = gs_F V o c0 mm)) → f - mm < NN → va_P D classes (mw bd cr w n K V O LF 0 (nI f) spl held 1 (nI (c0 + mm)) 2 (K (o (c0))) nv gc2 gu2 gl2 gm2) H → va_D A (mw bd cr w n K V O LF 0 (nI f) spl held 1 (nI (c0 + mm)) 2 (K (o (c0))) nv gc2 gu2 gl2 gm2) → va_S A s.heap H locs → lv_has ls 2 [(0, .ref (bd 0))] → W p l e rM_nextGroup s m args below meth c H locs 0 0 Q (F0 m 66 ls []) := by
    intro N66
    induction N66 with
    | zero => intro mm gc2 gu2 gl2 gm2 H locs ls hI hN; exact absurd hN (Nat.not_lt_zero _)
    | succ N66 ih66 =>
      intro mm gc2 gu2 gl2 gm2 H locs ls hI hN66 hP hD hS hl
      obtain ⟨i1, i2, i3, i4⟩ := hI
      refine lv_aload_n hx hb dX1_nextGroup_66 rfl (lv_at hl 0 rfl) ?_
      refine z_get C0 zt_x1 hK hP 0 rfl rfl 7 (by decide) fl_X1_46 rfl dX1_nextGroup_67 ?_
      refine lv_aload_n hx hb dX1_nextGroup_70 rfl (lv_at hl 0 rfl) ?_
      refine z_get C0 zt_x1 hK hP 0 rfl rfl 3 (by decide) fl_X1_33 rfl dX1_nextGroup_71 ?_
      refine lv_icmp_ge (tgt := 200) hx hb dX1_nextGroup_74 (by decide) (fun c2 => ?_) (fun c2 => ?_)
      · have c2 := zle c2 (by omega) (by omega)
        have hend : c0 + mm = f ∨ ¬ K (o (c0 + mm)) = K (o c0) := Or.inl (by omega)
        refine lv_iconst (v := 2) hx hb dX1_nextGroup_200 (by decide) ?_
        exact hret _ ((mm, gc2, gu2, gl2, gm2)) _ _ _ _ hP hD hS (⟨rfl, i1, i2, hend, i4⟩) dX1_nextGroup_201
      · have c2 := znle c2 (by omega) (by omega)
        refine lv_aload_n hx hb dX1_nextGroup_77 rfl (lv_at hl 0 rfl) ?_
        refine z_get C0 zt_x1 hK hP 0 rfl rfl 15 (by decide) fl_X1_7 rfl dX1_nextGroup_78 ?_
        refine lv_aload_n hx hb dX1_nextGroup_81 rfl (lv_at hl 0 rfl) ?_
        refine z_get C0 zt_x1 hK hP 0 rfl rfl 17 (by decide) fl_X1_16 rfl dX1_nextGroup_82 ?_
        refine lv_aload_n hx hb dX1_nextGroup_85 rfl (lv_at hl 0 rfl) ?_
        refine z_get C0 zt_x1 hK hP 0 rfl rfl 7 (by decide) fl_X1_46 rfl dX1_nextGroup_86 ?_
        refine z_ild C0 hK hP 3 2 rfl rfl (j := (c0 + mm)) (by omega) (by decide) dX1_nextGroup_89 ?_
        refine z_eq (show (O (c0 + mm)) = nI (o (c0 + mm)) from hF.1 _ (by omega)) ?_
        refine z_ild C0 hK hP 1 0 rfl rfl (j := (o (c0 + mm))) (by have := hF.rng (a := c0 + mm) (by omega); omega) (by decide) dX1_nextGroup_90 ?_
        refine lv_aload_n hx hb dX1_nextGroup_91 rfl (lv_at hl 0 rfl) ?_
        refine z_get C0 zt_x1 hK hP 0 rfl rfl 9 (by decide) fl_X1_56 rfl dX1_nextGroup_92 ?_
        refine lv_icmp_ne (tgt := 200) hx hb dX1_nextGroup_95 (by decide) (fun c3 => ?_) (fun c3 => ?_)
        · have hend : c0 + mm = f ∨ ¬ K (o (c0 + mm)) = K (o c0) := Or.inr c3
          refine lv_iconst (v := 2) hx hb dX1_nextGroup_200 (by decide) ?_
          exact hret _ ((mm, gc2, gu2, gl2, gm2)) _ _ _ _ hP hD hS (⟨rfl, i1, i2, hend, i4⟩) dX1_nextGroup_201
        · refine lv_aload_n hx hb dX1_nextGroup_98 rfl (lv_at hl 0 rfl) ?_
          refine z_get C0 zt_x1 hK hP 0 rfl rfl 16 (by decide) fl_X1_13 rfl dX1_nextGroup_99 ?_
          refine lv_aload_n hx hb dX1_nextGroup_102 rfl (lv_at hl 0 rfl) ?_
          refine z_get C0 zt_x1 hK hP 0 rfl rfl 17 (by decide) fl_X1_16 rfl dX1_nextGroup_103 ?_
          refine lv_aload_n hx hb dX1_nextGroup_106 rfl (lv_at hl 0 rfl) ?_
          refine z_get C0 zt_x1 hK hP 0 rfl rfl 7 (by decide) fl_X1_46 rfl dX1_nextGroup_107 ?_
          refine z_ild C0 hK hP 3 2 rfl rfl (j := (c0 + mm)) (by omega) (by decide) dX1_nextGroup_110 ?_
          refine z_eq (show (O (c0 + mm)) = nI (o (c0 + mm)) from hF.1 _ (by omega)) ?_
          refine z_ild C0 hK hP 2 1 rfl rfl (j := (o (c0 + mm))) (by have := hF.rng (a := c0 + mm) (by omega); omega) (by decide) dX1_nextGroup_111 ?_
          refine lv_istore_n (lv' := [(1, .int (V (o (c0 + mm)))), (0, .ref (bd 0))]) hx hb dX1_nextGroup_112 rfl hl (by decide) rfl (fun ls hl => ?_)
          refine lv_aload_n hx hb dX1_nextGroup_113 rfl (lv_at hl 1 rfl) ?_
          refine lv_aload_n hx hb dX1_nextGroup_114 rfl (lv_at hl 1 rfl) ?_
          refine z_get C0 zt_x1 hK hP 0 rfl rfl 11 (by decide) fl_X1_62 rfl dX1_nextGroup_115 ?_
          refine lv_if_eq (tgt := 129) hx hb dX1_nextGroup_118 (by decide) (fun c4 => ?_) (fun c4 => ?_)
          · refine lv_iload_n hx hb dX1_nextGroup_129 rfl (lv_at hl 0 rfl) ?_
            refine z_eq (show (V (o (c0 + mm))) = if gc2 = 0 then V (o (c0 + mm)) else if V (o (c0 + mm)) < gl2 then V (o (c0 + mm)) else gl2 from by first | rw [if_pos c4] | rw [if_neg c4, if_pos (Int32.not_le.mp c5)] | rw [if_neg c4, if_neg (Int32.not_lt.mpr c5)]) ?_
            refine lv_goto (tgt := 137) hx hb dX1_nextGroup_130 (by decide) ?_
            refine z_put (ty := .int) C0 zt_x1 tyX1 tyX1_ok nmX1 hK hP hD hS 0 rfl rfl 13 (by decide) fl_X1_68 rfl (by decide +kernel) rfl rfl (Nat.le_of_ble_eq_true rfl) dX1_nextGroup_137 (fun H locs hP hD hS => ?_)
            have hP : va_P D classes (mw bd cr w n K V O LF 0 (nI f) spl held 1 (nI (c0 + mm)) 2 (K (o (c0))) nv gc2 gu2 (if gc2 = 0 then V (o (c0 + mm)) else if V (o (c0 + mm)) < gl2 then V (o (c0 + mm)) else gl2) gm2) H := hP
            have hD : va_D A (mw bd cr w n K V O LF 0 (nI f) spl held 1 (nI (c0 + mm)) 2 (K (o (c0))) nv gc2 gu2 (if gc2 = 0 then V (o (c0 + mm)) else if V (o (c0 + mm)) < gl2 then V (o (c0 + mm)) else gl2) gm2) := hD
            refine lv_aload_n hx hb dX1_nextGroup_140 rfl (lv_at hl 1 rfl) ?_
            refine lv_aload_n hx hb dX1_nextGroup_141 rfl (lv_at hl 1 rfl) ?_
            refine z_get C0 zt_x1 hK hP 0 rfl rfl 11 (by decide) fl_X1_62 rfl dX1_nextGroup_142 ?_
            refine lv_if_eq (tgt := 156) hx hb dX1_nextGroup_145 (by decide) (fun c6 => ?_) (fun c6 => ?_)
            · refine lv_iload_n hx hb dX1_nextGroup_156 rfl (lv_at hl 0 rfl) ?_
              refine z_eq (show (V (o (c0 + mm))) = if gc2 = 0 then V (o (c0 + mm)) else if gm2 < V (o (c0 + mm)) then V (o (c0 + mm)) else gm2 from by first | rw [if_pos c6] | rw [if_neg c6, if_pos (Int32.not_le.mp c7)] | rw [if_neg c6, if_neg (Int32.not_lt.mpr c7)]) ?_
              refine lv_goto (tgt := 164) hx hb dX1_nextGroup_157 (by decide) ?_
              refine z_put (ty := .int) C0 zt_x1 tyX1 tyX1_ok nmX1 hK hP hD hS 0 rfl rfl 14 (by decide) fl_X1_71 rfl (by decide +kernel) rfl rfl (Nat.le_of_ble_eq_true rfl) dX1_nextGroup_164 (fun H locs hP hD hS => ?_)
              have hP : va_P D classes (mw bd cr w n K V O LF 0 (nI f) spl held 1 (nI (c0 + mm)) 2 (K (o (c0))) nv gc2 gu2 (if gc2 = 0 then V (o (c0 + mm)) else if V (o (c0 + mm)) < gl2 then V (o (c0 + mm)) else gl2) (if gc2 = 0 then V (o (c0 + mm)) else if gm2 < V (o (c0 + mm)) then V (o (c0 + mm)) else gm2)) H := hP
              have hD : va_D A (mw bd cr w n K V O LF 0 (nI f) spl held 1 (nI (c0 + mm)) 2 (K (o (c0))) nv gc2 gu2 (if gc2 = 0 then V (o (c0 + mm)) else if V (o (c0 + mm)) < gl2 then V (o (c0 + mm)) else gl2) (if gc2 = 0 then V (o (c0 + mm)) else if gm2 < V (o (c0 + mm)) then V (o (c0 + mm)) else gm2)) := hD
              refine lv_aload_n hx hb dX1_nextGroup_167 rfl (lv_at hl 1 rfl) ?_
              refine lv_aload_n hx hb dX1_nextGroup_168 rfl (lv_at hl 1 rfl) ?_
              refine z_get C0 zt_x1 hK hP 0 rfl rfl 12 (by decide) fl_X1_65 rfl dX1_nextGroup_169 ?_
              refine lv_iload_n hx hb dX1_nextGroup_172 rfl (lv_at hl 0 rfl) ?_
              refine lv_iadd hx hb dX1_nextGroup_173 ?_
              refine z_put (ty := .int) C0 zt_x1 tyX1 tyX1_ok nmX1 hK hP hD hS 0 rfl rfl 12 (by decide) fl_X1_65 rfl (by decide +kernel) rfl rfl (Nat.le_of_ble_eq_true rfl) dX1_nextGroup_174 (fun H locs hP hD hS => ?_)
              have hP : va_P D classes (mw bd cr w n K V O LF 0 (nI f) spl held 1 (nI (c0 + mm)) 2 (K (o (c0))) nv gc2 (gu2 + (V (o (c0 + mm)))) (if gc2 = 0 then V (o (c0 + mm)) else if V (o (c0 + mm)) < gl2 then V (o (c0 + mm)) else gl2) (if gc2 = 0 then V (o (c0 + mm)) else if gm2 < V (o (c0 + mm)) then V (o (c0 + mm)) else gm2)) H := hP
              have hD : va_D A (mw bd cr w n K V O LF 0 (nI f) spl held 1 (nI (c0 + mm)) 2 (K (o (c0))) nv gc2 (gu2 + (V (o (c0 + mm)))) (if gc2 = 0 then V (o (c0 + mm)) else if V (o (c0 + mm)) < gl2 then V (o (c0 + mm)) else gl2) (if gc2 = 0 then V (o (c0 + mm)) else if gm2 < V (o (c0 + mm)) then V (o (c0 + mm)) else gm2)) := hD
              refine lv_aload_n hx hb dX1_nextGroup_177 rfl (lv_at hl 1 rfl) ?_
              refine lv_dup hx hb dX1_nextGroup_178 rfl ?_
              refine z_get C0 zt_x1 hK hP 0 rfl rfl 11 (by decide) fl_X1_62 rfl dX1_nextGroup_179 ?_
              refine lv_iconst (v := 1) hx hb dX1_nextGroup_182 (by decide) ?_
              refine lv_iadd hx hb dX1_nextGroup_183 ?_
              refine z_put (ty := .int) C0 zt_x1 tyX1 tyX1_ok nmX1 hK hP hD hS 0 rfl rfl 11 (by decide) fl_X1_62 rfl (by decide +kernel) rfl rfl (Nat.le_of_ble_eq_true rfl) dX1_nextGroup_184 (fun H locs hP hD hS => ?_)
              have hP : va_P D classes (mw bd cr w n K V O LF 0 (nI f) spl held 1 (nI (c0 + mm)) 2 (K (o (c0))) nv (gc2 + 1) (gu2 + (V (o (c0 + mm)))) (if gc2 = 0 then V (o (c0 + mm)) else if V (o (c0 + mm)) < gl2 then V (o (c0 + mm)) else gl2) (if gc2 = 0 then V (o (c0 + mm)) else if gm2 < V (o (c0 + mm)) then V (o (c0 + mm)) else gm2)) H := hP
              have hD : va_D A (mw bd cr w n K V O LF 0 (nI f) spl held 1 (nI (c0 + mm)) 2 (K (o (c0))) nv (gc2 + 1) (gu2 + (V (o (c0 + mm)))) (if gc2 = 0 then V (o (c0 + mm)) else if V (o (c0 + mm)) < gl2 then V (o (c0 + mm)) else gl2) (if gc2 = 0 then V (o (c0 + mm)) else if gm2 < V (o (c0 + mm)) then V (o (c0 + mm)) else gm2)) := hD
              refine lv_aload_n hx hb dX1_nextGroup_187 rfl (lv_at hl 1 rfl) ?_
              refine lv_dup hx hb dX1_nextGroup_188 rfl ?_
              refine z_get C0 zt_x1 hK hP 0 rfl rfl 7 (by decide) fl_X1_46 rfl dX1_nextGroup_189 ?_
              refine lv_iconst (v := 1) hx hb dX1_nextGroup_192 (by decide) ?_
              refine lv_iadd hx hb dX1_nextGroup_193 ?_
              refine z_eq (show ((nI (c0 + mm)) + 1) = nI (c0 + (mm + 1)) from nI_1 _) ?_
              refine z_put (ty := .int) C0 zt_x1 tyX1 tyX1_ok nmX1 hK hP hD hS 0 rfl rfl 7 (by decide) fl_X1_46 rfl (by decide +kernel) rfl rfl (Nat.le_of_ble_eq_true rfl) dX1_nextGroup_194 (fun H locs hP hD hS => ?_)
              have hP : va_P D classes (mw bd cr w n K V O LF 0 (nI f) spl held 1 (nI (c0 + (mm + 1))) 2 (K (o (c0))) nv (gc2 + 1) (gu2 + (V (o (c0 + mm)))) (if gc2 = 0 then V (o (c0 + mm)) else if V (o (c0 + mm)) < gl2 then V (o (c0 + mm)) else gl2) (if gc2 = 0 then V (o (c0 + mm)) else if gm2 < V (o (c0 + mm)) then V (o (c0 + mm)) else gm2)) H := hP
              have hD : va_D A (mw bd cr w n K V O LF 0 (nI f) spl held 1 (nI (c0 + (mm + 1))) 2 (K (o (c0))) nv (gc2 + 1) (gu2 + (V (o (c0 + mm)))) (if gc2 = 0 then V (o (c0 + mm)) else if V (o (c0 + mm)) < gl2 then V (o (c0 + mm)) else gl2) (if gc2 = 0 then V (o (c0 + mm)) else if gm2 < V (o (c0 + mm)) then V (o (c0 + mm)) else gm2)) := hD
              refine lv_goto (tgt := 66) hx hb dX1_nextGroup_197 (by decide) ?_
              exact ih66 (mm + 1) (gc2 + 1) (gu2 + V (o (c0 + mm))) (if gc2 = 0 then V (o (c0 + mm)) else if V (o (c0 + mm)) < gl2 then V (o (c0 + mm)) else gl2) (if gc2 = 0 then V (o (c0 + mm)) else if gm2 < V (o (c0 + mm)) then V (o (c0 + mm)) else gm2) _ _ _ (⟨by omega, fun i h => by rcases Nat.lt_or_ge i mm with q | q; (exact i2 i q); (rw [show i = mm by omega]; exact c3), fun h => by omega, fun _ => gs_nx i3 i4⟩) (by omega) hP hD hS (lv_sub hl [1] rfl)
            · refine lv_iload_n hx hb dX1_nextGroup_148 rfl (lv_at hl 0 rfl) ?_
              refine lv_aload_n hx hb dX1_nextGroup_149 rfl (lv_at hl 1 rfl) ?_
              refine z_get C0 zt_x1 hK hP 0 rfl rfl 14 (by decide) fl_X1_71 rfl dX1_nextGroup_150 ?_
              refine lv_icmp_le (tgt := 160) hx hb dX1_nextGroup_153 (by decide) (fun c7 => ?_) (fun c7 => ?_)
              · refine lv_aload_n hx hb dX1_nextGroup_160 rfl (lv_at hl 1 rfl) ?_
                refine z_get C0 zt_x1 hK hP 0 rfl rfl 14 (by decide) fl_X1_71 rfl dX1_nextGroup_161 ?_
                refine z_eq (show (gm2) = if gc2 = 0 then V (o (c0 + mm)) else if gm2 < V (o (c0 + mm)) then V (o (c0 + mm)) else gm2 from by first | rw [if_pos c6] | rw [if_neg c6, if_pos (Int32.not_le.mp c7)] | rw [if_neg c6, if_neg (Int32.not_lt.mpr c7)]) ?_
                refine z_put (ty := .int) C0 zt_x1 tyX1 tyX1_ok nmX1 hK hP hD hS 0 rfl rfl 14 (by decide) fl_X1_71 rfl (by decide +kernel) rfl rfl (Nat.le_of_ble_eq_true rfl) dX1_nextGroup_164 (fun H locs hP hD hS => ?_)
                have hP : va_P D classes (mw bd cr w n K V O LF 0 (nI f) spl held 1 (nI (c0 + mm)) 2 (K (o (c0))) nv gc2 gu2 (if gc2 = 0 then V (o (c0 + mm)) else if V (o (c0 + mm)) < gl2 then V (o (c0 + mm)) else gl2) (if gc2 = 0 then V (o (c0 + mm)) else if gm2 < V (o (c0 + mm)) then V (o (c0 + mm)) else gm2)) H := hP
                have hD : va_D A (mw bd cr w n K V O LF 0 (nI f) spl held 1 (nI (c0 + mm)) 2 (K (o (c0))) nv gc2 gu2 (if gc2 = 0 then V (o (c0 + mm)) else if V (o (c0 + mm)) < gl2 then V (o (c0 + mm)) else gl2) (if gc2 = 0 then V (o (c0 + mm)) else if gm2 < V (o (c0 + mm)) then V (o (c0 + mm)) else gm2)) := hD
                refine lv_aload_n hx hb dX1_nextGroup_167 rfl (lv_at hl 1 rfl) ?_
                refine lv_aload_n hx hb dX1_nextGroup_168 rfl (lv_at hl 1 rfl) ?_
                refine z_get C0 zt_x1 hK hP 0 rfl rfl 12 (by decide) fl_X1_65 rfl dX1_nextGroup_169 ?_
                refine lv_iload_n hx hb dX1_nextGroup_172 rfl (lv_at hl 0 rfl) ?_
                refine lv_iadd hx hb dX1_nextGroup_173 ?_
                refine z_put (ty := .int) C0 zt_x1 tyX1 tyX1_ok nmX1 hK hP hD hS 0 rfl rfl 12 (by decide) fl_X1_65 rfl (by decide +kernel) rfl rfl (Nat.le_of_ble_eq_true rfl) dX1_nextGroup_174 (fun H locs hP hD hS => ?_)
                have hP : va_P D classes (mw bd cr w n K V O LF 0 (nI f) spl held 1 (nI (c0 + mm)) 2 (K (o (c0))) nv gc2 (gu2 + (V (o (c0 + mm)))) (if gc2 = 0 then V (o (c0 + mm)) else if V (o (c0 + mm)) < gl2 then V (o (c0 + mm)) else gl2) (if gc2 = 0 then V (o (c0 + mm)) else if gm2 < V (o (c0 + mm)) then V (o (c0 + mm)) else gm2)) H := hP
                have hD : va_D A (mw bd cr w n K V O LF 0 (nI f) spl held 1 (nI (c0 + mm)) 2 (K (o (c0))) nv gc2 (gu2 + (V (o (c0 + mm)))) (if gc2 = 0 then V (o (c0 + mm)) else if V (o (c0 + mm)) < gl2 then V (o (c0 + mm)) else gl2) (if gc2 = 0 then V (o (c0 + mm)) else if gm2 < V (o (c0 + mm)) then V (o (c0 + mm)) else gm2)) := hD
                refine lv_aload_n hx hb dX1_nextGroup_177 rfl (lv_at hl 1 rfl) ?_
                refine lv_dup hx hb dX1_nextGroup_178 rfl ?_
                refine z_get C0 zt_x1 hK hP 0 rfl rfl 11 (by decide) fl_X1_62 rfl dX1_nextGroup_179 ?_
                refine lv_iconst (v := 1) hx hb dX1_nextGroup_182 (by decide) ?_
                refine lv_iadd hx hb dX1_nextGroup_183 ?_
                refine z_put (ty := .int) C0 zt_x1 tyX1 tyX1_ok nmX1 hK hP hD hS 0 rfl rfl 11 (by decide) fl_X1_62 rfl (by decide +kernel) rfl rfl (Nat.le_of_ble_eq_true rfl) dX1_nextGroup_184 (fun H locs hP hD hS => ?_)
                have hP : va_P D classes (mw bd cr w n K V O LF 0 (nI f) spl held 1 (nI (c0 + mm)) 2 (K (o (c0))) nv (gc2 + 1) (gu2 + (V (o (c0 + mm)))) (if gc2 = 0 then V (o (c0 + mm)) else if V (o (c0 + mm)) < gl2 then V (o (c0 + mm)) else gl2) (if gc2 = 0 then V (o (c0 + mm)) else if gm2 < V (o (c0 + mm)) then V (o (c0 + mm)) else gm2)) H := hP
                have hD : va_D A (mw bd cr w n K V O LF 0 (nI f) spl held 1 (nI (c0 + mm)) 2 (K (o (c0))) nv (gc2 + 1) (gu2 + (V (o (c0 + mm)))) (if gc2 = 0 then V (o (c0 + mm)) else if V (o (c0 + mm)) < gl2 then V (o (c0 + mm)) else gl2) (if gc2 = 0 then V (o (c0 + mm)) else if gm2 < V (o (c0 + mm)) then V (o (c0 + mm)) else gm2)) := hD
                refine lv_aload_n hx hb dX1_nextGroup_187 rfl (lv_at hl 1 rfl) ?_
                refine lv_dup hx hb dX1_nextGroup_188 rfl ?_
                refine z_get C0 zt_x1 hK hP 0 rfl rfl 7 (by decide) fl_X1_46 rfl dX1_nextGroup_189 ?_
                refine lv_iconst (v := 1) hx hb dX1_nextGroup_192 (by decide) ?_
                refine lv_iadd hx hb dX1_nextGroup_193 ?_
                refine z_eq (show ((nI (c0 + mm)) + 1) = nI (c0 + (mm + 1)) from nI_1 _) ?_
                refine z_put (ty := .int) C0 zt_x1 tyX1 tyX1_ok nmX1 hK hP hD hS 0 rfl rfl 7 (by decide) fl_X1_46 rfl (by decide +kernel) rfl rfl (Nat.le_of_ble_eq_true rfl) dX1_nextGroup_194 (fun H locs hP hD hS => ?_)
                have hP : va_P D classes (mw bd cr w n K V O LF 0 (nI f) spl held 1 (nI (c0 + (mm + 1))) 2 (K (o (c0))) nv (gc2 + 1) (gu2 + (V (o (c0 + mm)))) (if gc2 = 0 then V (o (c0 + mm)) else if V (o (c0 + mm)) < gl2 then V (o (c0 + mm)) else gl2) (if gc2 = 0 then V (o (c0 + mm)) else if gm2 < V (o (c0 + mm)) then V (o (c0 + mm)) else gm2)) H := hP
                have hD : va_D A (mw bd cr w n K V O LF 0 (nI f) spl held 1 (nI (c0 + (mm + 1))) 2 (K (o (c0))) nv (gc2 + 1) (gu2 + (V (o (c0 + mm)))) (if gc2 = 0 then V (o (c0 + mm)) else if V (o (c0 + mm)) < gl2 then V (o (c0 + mm)) else gl2) (if gc2 = 0 then V (o (c0 + mm)) else if gm2 < V (o (c0 + mm)) then V (o (c0 + mm)) else gm2)) := hD
                refine lv_goto (tgt := 66) hx hb dX1_nextGroup_197 (by decide) ?_
                exact ih66 (mm + 1) (gc2 + 1) (gu2 + V (o (c0 + mm))) (if gc2 = 0 then V (o (c0 + mm)) else if V (o (c0 + mm)) < gl2 then V (o (c0 + mm)) else gl2) (if gc2 = 0 then V (o (c0 + mm)) else if gm2 < V (o (c0 + mm)) then V (o (c0 + mm)) else gm2) _ _ _ (⟨by omega, fun i h => by rcases Nat.lt_or_ge i mm with q | q; (exact i2 i q); (rw [show i = mm by omega]; exact c3), fun h => by omega, fun _ => gs_nx i3 i4⟩) (by omega) hP hD hS (lv_sub hl [1] rfl)
              · refine lv_iload_n hx hb dX1_nextGroup_156 rfl (lv_at hl 0 rfl) ?_
                refine z_eq (show (V (o (c0 + mm))) = if gc2 = 0 then V (o (c0 + mm)) else if gm2 < V (o (c0 + mm)) then V (o (c0 + mm)) else gm2 from by first | rw [if_pos c6] | rw [if_neg c6, if_pos (Int32.not_le.mp c7)] | rw [if_neg c6, if_neg (Int32.not_lt.mpr c7)]) ?_
                refine lv_goto (tgt := 164) hx hb dX1_nextGroup_157 (by decide) ?_
                refine z_put (ty := .int) C0 zt_x1 tyX1 tyX1_ok nmX1 hK hP hD hS 0 rfl rfl 14 (by decide) fl_X1_71 rfl (by decide +kernel) rfl rfl (Nat.le_of_ble_eq_true rfl) dX1_nextGroup_164 (fun H locs hP hD hS => ?_)
                have hP : va_P D classes (mw bd cr w n K V O LF 0 (nI f) spl held 1 (nI (c0 + mm)) 2 (K (o (c0))) nv gc2 gu2 (if gc2 = 0 then V (o (c0 + mm)) else if V (o (c0 + mm)) < gl2 then V (o (c0 + mm)) else gl2) (if gc2 = 0 then V (o (c0 + mm)) else if gm2 < V (o (c0 + mm)) then V (o (c0 + mm)) else gm2)) H := hP
                have hD : va_D A (mw bd cr w n K V O LF 0 (nI f) spl held 1 (nI (c0 + mm)) 2 (K (o (c0))) nv gc2 gu2 (if gc2 = 0 then V (o (c0 + mm)) else if V (o (c0 + mm)) < gl2 then V (o (c0 + mm)) else gl2) (if gc2 = 0 then V (o (c0 + mm)) else if gm2 < V (o (c0 + mm)) then V (o (c0 + mm)) else gm2)) := hD
                refine lv_aload_n hx hb dX1_nextGroup_167 rfl (lv_at hl 1 rfl) ?_
                refine lv_aload_n hx hb dX1_nextGroup_168 rfl (lv_at hl 1 rfl) ?_
                refine z_get C0 zt_x1 hK hP 0 rfl rfl 12 (by decide) fl_X1_65 rfl dX1_nextGroup_169 ?_
                refine lv_iload_n hx hb dX1_nextGroup_172 rfl (lv_at hl 0 rfl) ?_
                refine lv_iadd hx hb dX1_nextGroup_173 ?_
                refine z_put (ty := .int) C0 zt_x1 tyX1 tyX1_ok nmX1 hK hP hD hS 0 rfl rfl 12 (by decide) fl_X1_65 rfl (by decide +kernel) rfl rfl (Nat.le_of_ble_eq_true rfl) dX1_nextGroup_174 (fun H locs hP hD hS => ?_)
                have hP : va_P D classes (mw bd cr w n K V O LF 0 (nI f) spl held 1 (nI (c0 + mm)) 2 (K (o (c0))) nv gc2 (gu2 + (V (o (c0 + mm)))) (if gc2 = 0 then V (o (c0 + mm)) else if V (o (c0 + mm)) < gl2 then V (o (c0 + mm)) else gl2) (if gc2 = 0 then V (o (c0 + mm)) else if gm2 < V (o (c0 + mm)) then V (o (c0 + mm)) else gm2)) H := hP
                have hD : va_D A (mw bd cr w n K V O LF 0 (nI f) spl held 1 (nI (c0 + mm)) 2 (K (o (c0))) nv gc2 (gu2 + (V (o (c0 + mm)))) (if gc2 = 0 then V (o (c0 + mm)) else if V (o (c0 + mm)) < gl2 then V (o (c0 + mm)) else gl2) (if gc2 = 0 then V (o (c0 + mm)) else if gm2 < V (o (c0 + mm)) then V (o (c0 + mm)) else gm2)) := hD
                refine lv_aload_n hx hb dX1_nextGroup_177 rfl (lv_at hl 1 rfl) ?_
                refine lv_dup hx hb dX1_nextGroup_178 rfl ?_
                refine z_get C0 zt_x1 hK hP 0 rfl rfl 11 (by decide) fl_X1_62 rfl dX1_nextGroup_179 ?_
                refine lv_iconst (v := 1) hx hb dX1_nextGroup_182 (by decide) ?_
                refine lv_iadd hx hb dX1_nextGroup_183 ?_
                refine z_put (ty := .int) C0 zt_x1 tyX1 tyX1_ok nmX1 hK hP hD hS 0 rfl rfl 11 (by decide) fl_X1_62 rfl (by decide +kernel) rfl rfl (Nat.le_of_ble_eq_true rfl) dX1_nextGroup_184 (fun H locs hP hD hS => ?_)
                have hP : va_P D classes (mw bd cr w n K V O LF 0 (nI f) spl held 1 (nI (c0 + mm)) 2 (K (o (c0))) nv (gc2 + 1) (gu2 + (V (o (c0 + mm)))) (if gc2 = 0 then V (o (c0 + mm)) else if V (o (c0 + mm)) < gl2 then V (o (c0 + mm)) else gl2) (if gc2 = 0 then V (o (c0 + mm)) else if gm2 < V (o (c0 + mm)) then V (o (c0 + mm)) else gm2)) H := hP
                have hD : va_D A (mw bd cr w n K V O LF 0 (nI f) spl held 1 (nI (c0 + mm)) 2 (K (o (c0))) nv (gc2 + 1) (gu2 + (V (o (c0 + mm)))) (if gc2 = 0 then V (o (c0 + mm)) else if V (o (c0 + mm)) < gl2 then V (o (c0 + mm)) else gl2) (if gc2 = 0 then V (o (c0 + mm)) else if gm2 < V (o (c0 + mm)) then V (o (c0 + mm)) else gm2)) := hD
                refine lv_aload_n hx hb dX1_nextGroup_187 rfl (lv_at hl 1 rfl) ?_
                refine lv_dup hx hb dX1_nextGroup_188 rfl ?_
                refine z_get C0 zt_x1 hK hP 0 rfl rfl 7 (by decide) fl_X1_46 rfl dX1_nextGroup_189 ?_
                refine lv_iconst (v := 1) hx hb dX1_nextGroup_192 (by decide) ?_
                refine lv_iadd hx hb dX1_nextGroup_193 ?_
                refine z_eq (show ((nI (c0 + mm)) + 1) = nI (c0 + (mm + 1)) from nI_1 _) ?_
                refine z_put (ty := .int) C0 zt_x1 tyX1 tyX1_ok nmX1 hK hP hD hS 0 rfl rfl 7 (by decide) fl_X1_46 rfl (by decide +kernel) rfl rfl (Nat.le_of_ble_eq_true rfl) dX1_nextGroup_194 (fun H locs hP hD hS => ?_)
                have hP : va_P D classes (mw bd cr w n K V O LF 0 (nI f) spl held 1 (nI (c0 + (mm + 1))) 2 (K (o (c0))) nv (gc2 + 1) (gu2 + (V (o (c0 + mm)))) (if gc2 = 0 then V (o (c0 + mm)) else if V (o (c0 + mm)) < gl2 then V (o (c0 + mm)) else gl2) (if gc2 = 0 then V (o (c0 + mm)) else if gm2 < V (o (c0 + mm)) then V (o (c0 + mm)) else gm2)) H := hP
                have hD : va_D A (mw bd cr w n K V O LF 0 (nI f) spl held 1 (nI (c0 + (mm + 1))) 2 (K (o (c0))) nv (gc2 + 1) (gu2 + (V (o (c0 + mm)))) (if gc2 = 0 then V (o (c0 + mm)) else if V (o (c0 + mm)) < gl2 then V (o (c0 + mm)) else gl2) (if gc2 = 0 then V (o (c0 + mm)) else if gm2 < V (o (c0 + mm)) then V (o (c0 + mm)) else gm2)) := hD
                refine lv_goto (tgt := 66) hx hb dX1_nextGroup_197 (by decide) ?_
                exact ih66 (mm + 1) (gc2 + 1) (gu2 + V (o (c0 + mm))) (if gc2 = 0 then V (o (c0 + mm)) else if V (o (c0 + mm)) < gl2 then V (o (c0 + mm)) else gl2) (if gc2 = 0 then V (o (c0 + mm)) else if gm2 < V (o (c0 + mm)) then V (o (c0 + mm)) else gm2) _ _ _ (⟨by omega, fun i h => by rcases Nat.lt_or_ge i mm with q | q; (exact i2 i q); (rw [show i = mm by omega]; exact c3), fun h => by omega, fun _ => gs_nx i3 i4⟩) (by omega) hP hD hS (lv_sub hl [1] rfl)
          · refine lv_iload_n hx hb dX1_nextGroup_121 rfl (lv_at hl 0 rfl) ?_
            refine lv_aload_n hx hb dX1_nextGroup_122 rfl (lv_at hl 1 rfl) ?_
            refine z_get C0 zt_x1 hK hP 0 rfl rfl 13 (by decide) fl_X1_68 rfl dX1_nextGroup_123 ?_
            refine lv_icmp_ge (tgt := 133) hx hb dX1_nextGroup_126 (by decide) (fun c5 => ?_) (fun c5 => ?_)
            · refine lv_aload_n hx hb dX1_nextGroup_133 rfl (lv_at hl 1 rfl) ?_
              refine z_get C0 zt_x1 hK hP 0 rfl rfl 13 (by decide) fl_X1_68 rfl dX1_nextGroup_134 ?_
              refine z_eq (show (gl2) = if gc2 = 0 then V (o (c0 + mm)) else if V (o (c0 + mm)) < gl2 then V (o (c0 + mm)) else gl2 from by first | rw [if_pos c4] | rw [if_neg c4, if_pos (Int32.not_le.mp c5)] | rw [if_neg c4, if_neg (Int32.not_lt.mpr c5)]) ?_
              refine z_put (ty := .int) C0 zt_x1 tyX1 tyX1_ok nmX1 hK hP hD hS 0 rfl rfl 13 (by decide) fl_X1_68 rfl (by decide +kernel) rfl rfl (Nat.le_of_ble_eq_true rfl) dX1_nextGroup_137 (fun H locs hP hD hS => ?_)
              have hP : va_P D classes (mw bd cr w n K V O LF 0 (nI f) spl held 1 (nI (c0 + mm)) 2 (K (o (c0))) nv gc2 gu2 (if gc2 = 0 then V (o (c0 + mm)) else if V (o (c0 + mm)) < gl2 then V (o (c0 + mm)) else gl2) gm2) H := hP
              have hD : va_D A (mw bd cr w n K V O LF 0 (nI f) spl held 1 (nI (c0 + mm)) 2 (K (o (c0))) nv gc2 gu2 (if gc2 = 0 then V (o (c0 + mm)) else if V (o (c0 + mm)) < gl2 then V (o (c0 + mm)) else gl2) gm2) := hD
              refine lv_aload_n hx hb dX1_nextGroup_140 rfl (lv_at hl 1 rfl) ?_
              refine lv_aload_n hx hb dX1_nextGroup_141 rfl (lv_at hl 1 rfl) ?_
              refine z_get C0 zt_x1 hK hP 0 rfl rfl 11 (by decide) fl_X1_62 rfl dX1_nextGroup_142 ?_
              refine lv_if_eq (tgt := 156) hx hb dX1_nextGroup_145 (by decide) (fun c6 => ?_) (fun c6 => ?_)
              · refine lv_iload_n hx hb dX1_nextGroup_156 rfl (lv_at hl 0 rfl) ?_
                refine z_eq (show (V (o (c0 + mm))) = if gc2 = 0 then V (o (c0 + mm)) else if gm2 < V (o (c0 + mm)) then V (o (c0 + mm)) else gm2 from by first | rw [if_pos c6] | rw [if_neg c6, if_pos (Int32.not_le.mp c7)] | rw [if_neg c6, if_neg (Int32.not_lt.mpr c7)]) ?_
                refine lv_goto (tgt := 164) hx hb dX1_nextGroup_157 (by decide) ?_
                refine z_put (ty := .int) C0 zt_x1 tyX1 tyX1_ok nmX1 hK hP hD hS 0 rfl rfl 14 (by decide) fl_X1_71 rfl (by decide +kernel) rfl rfl (Nat.le_of_ble_eq_true rfl) dX1_nextGroup_164 (fun H locs hP hD hS => ?_)
                have hP : va_P D classes (mw bd cr w n K V O LF 0 (nI f) spl held 1 (nI (c0 + mm)) 2 (K (o (c0))) nv gc2 gu2 (if gc2 = 0 then V (o (c0 + mm)) else if V (o (c0 + mm)) < gl2 then V (o (c0 + mm)) else gl2) (if gc2 = 0 then V (o (c0 + mm)) else if gm2 < V (o (c0 + mm)) then V (o (c0 + mm)) else gm2)) H := hP
                have hD : va_D A (mw bd cr w n K V O LF 0 (nI f) spl held 1 (nI (c0 + mm)) 2 (K (o (c0))) nv gc2 gu2 (if gc2 = 0 then V (o (c0 + mm)) else if V (o (c0 + mm)) < gl2 then V (o (c0 + mm)) else gl2) (if gc2 = 0 then V (o (c0 + mm)) else if gm2 < V (o (c0 + mm)) then V (o (c0 + mm)) else gm2)) := hD
                refine lv_aload_n hx hb dX1_nextGroup_167 rfl (lv_at hl 1 rfl) ?_
                refine lv_aload_n hx hb dX1_nextGroup_168 rfl (lv_at hl 1 rfl) ?_
                refine z_get C0 zt_x1 hK hP 0 rfl rfl 12 (by decide) fl_X1_65 rfl dX1_nextGroup_169 ?_
                refine lv_iload_n hx hb dX1_nextGroup_172 rfl (lv_at hl 0 rfl) ?_
                refine lv_iadd hx hb dX1_nextGroup_173 ?_
                refine z_put (ty := .int) C0 zt_x1 tyX1 tyX1_ok nmX1 hK hP hD hS 0 rfl rfl 12 (by decide) fl_X1_65 rfl (by decide +kernel) rfl rfl (Nat.le_of_ble_eq_true rfl) dX1_nextGroup_174 (fun H locs hP hD hS => ?_)
                have hP : va_P D classes (mw bd cr w n K V O LF 0 (nI f) spl held 1 (nI (c0 + mm)) 2 (K (o (c0))) nv gc2 (gu2 + (V (o (c0 + mm)))) (if gc2 = 0 then V (o (c0 + mm)) else if V (o (c0 + mm)) < gl2 then V (o (c0 + mm)) else gl2) (if gc2 = 0 then V (o (c0 + mm)) else if gm2 < V (o (c0 + mm)) then V (o (c0 + mm)) else gm2)) H := hP
                have hD : va_D A (mw bd cr w n K V O LF 0 (nI f) spl held 1 (nI (c0 + mm)) 2 (K (o (c0))) nv gc2 (gu2 + (V (o (c0 + mm)))) (if gc2 = 0 then V (o (c0 + mm)) else if V (o (c0 + mm)) < gl2 then V (o (c0 + mm)) else gl2) (if gc2 = 0 then V (o (c0 + mm)) else if gm2 < V (o (c0 + mm)) then V (o (c0 + mm)) else gm2)) := hD
                refine lv_aload_n hx hb dX1_nextGroup_177 rfl (lv_at hl 1 rfl) ?_
                refine lv_dup hx hb dX1_nextGroup_178 rfl ?_
                refine z_get C0 zt_x1 hK hP 0 rfl rfl 11 (by decide) fl_X1_62 rfl dX1_nextGroup_179 ?_
                refine lv_iconst (v := 1) hx hb dX1_nextGroup_182 (by decide) ?_
                refine lv_iadd hx hb dX1_nextGroup_183 ?_
                refine z_put (ty := .int) C0 zt_x1 tyX1 tyX1_ok nmX1 hK hP hD hS 0 rfl rfl 11 (by decide) fl_X1_62 rfl (by decide +kernel) rfl rfl (Nat.le_of_ble_eq_true rfl) dX1_nextGroup_184 (fun H locs hP hD hS => ?_)
                have hP : va_P D classes (mw bd cr w n K V O LF 0 (nI f) spl held 1 (nI (c0 + mm)) 2 (K (o (c0))) nv (gc2 + 1) (gu2 + (V (o (c0 + mm)))) (if gc2 = 0 then V (o (c0 + mm)) else if V (o (c0 + mm)) < gl2 then V (o (c0 + mm)) else gl2) (if gc2 = 0 then V (o (c0 + mm)) else if gm2 < V (o (c0 + mm)) then V (o (c0 + mm)) else gm2)) H := hP
                have hD : va_D A (mw bd cr w n K V O LF 0 (nI f) spl held 1 (nI (c0 + mm)) 2 (K (o (c0))) nv (gc2 + 1) (gu2 + (V (o (c0 + mm)))) (if gc2 = 0 then V (o (c0 + mm)) else if V (o (c0 + mm)) < gl2 then V (o (c0 + mm)) else gl2) (if gc2 = 0 then V (o (c0 + mm)) else if gm2 < V (o (c0 + mm)) then V (o (c0 + mm)) else gm2)) := hD
                refine lv_aload_n hx hb dX1_nextGroup_187 rfl (lv_at hl 1 rfl) ?_
                refine lv_dup hx hb dX1_nextGroup_188 rfl ?_
                refine z_get C0 zt_x1 hK hP 0 rfl rfl 7 (by decide) fl_X1_46 rfl dX1_nextGroup_189 ?_
                refine lv_iconst (v := 1) hx hb dX1_nextGroup_192 (by decide) ?_
                refine lv_iadd hx hb dX1_nextGroup_193 ?_
                refine z_eq (show ((nI (c0 + mm)) + 1) = nI (c0 + (mm + 1)) from nI_1 _) ?_
                refine z_put (ty := .int) C0 zt_x1 tyX1 tyX1_ok nmX1 hK hP hD hS 0 rfl rfl 7 (by decide) fl_X1_46 rfl (by decide +kernel) rfl rfl (Nat.le_of_ble_eq_true rfl) dX1_nextGroup_194 (fun H locs hP hD hS => ?_)
                have hP : va_P D classes (mw bd cr w n K V O LF 0 (nI f) spl held 1 (nI (c0 + (mm + 1))) 2 (K (o (c0))) nv (gc2 + 1) (gu2 + (V (o (c0 + mm)))) (if gc2 = 0 then V (o (c0 + mm)) else if V (o (c0 + mm)) < gl2 then V (o (c0 + mm)) else gl2) (if gc2 = 0 then V (o (c0 + mm)) else if gm2 < V (o (c0 + mm)) then V (o (c0 + mm)) else gm2)) H := hP
                have hD : va_D A (mw bd cr w n K V O LF 0 (nI f) spl held 1 (nI (c0 + (mm + 1))) 2 (K (o (c0))) nv (gc2 + 1) (gu2 + (V (o (c0 + mm)))) (if gc2 = 0 then V (o (c0 + mm)) else if V (o (c0 + mm)) < gl2 then V (o (c0 + mm)) else gl2) (if gc2 = 0 then V (o (c0 + mm)) else if gm2 < V (o (c0 + mm)) then V (o (c0 + mm)) else gm2)) := hD
                refine lv_goto (tgt := 66) hx hb dX1_nextGroup_197 (by decide) ?_
                exact ih66 (mm + 1) (gc2 + 1) (gu2 + V (o (c0 + mm))) (if gc2 = 0 then V (o (c0 + mm)) else if V (o (c0 + mm)) < gl2 then V (o (c0 + mm)) else gl2) (if gc2 = 0 then V (o (c0 + mm)) else if gm2 < V (o (c0 + mm)) then V (o (c0 + mm)) else gm2) _ _ _ (⟨by omega, fun i h => by rcases Nat.lt_or_ge i mm with q | q; (exact i2 i q); (rw [show i = mm by omega]; exact c3), fun h => by omega, fun _ => gs_nx i3 i4⟩) (by omega) hP hD hS (lv_sub hl [1] rfl)
              · refine lv_iload_n hx hb dX1_nextGroup_148 rfl (lv_at hl 0 rfl) ?_
                refine lv_aload_n hx hb dX1_nextGroup_149 rfl (lv_at hl 1 rfl) ?_
                refine z_get C0 zt_x1 hK hP 0 rfl rfl 14 (by decide) fl_X1_71 rfl dX1_nextGroup_150 ?_
                refine lv_icmp_le (tgt := 160) hx hb dX1_nextGroup_153 (by decide) (fun c7 => ?_) (fun c7 => ?_)
                · refine lv_aload_n hx hb dX1_nextGroup_160 rfl (lv_at hl 1 rfl) ?_
                  refine z_get C0 zt_x1 hK hP 0 rfl rfl 14 (by decide) fl_X1_71 rfl dX1_nextGroup_161 ?_
                  refine z_eq (show (gm2) = if gc2 = 0 then V (o (c0 + mm)) else if gm2 < V (o (c0 + mm)) then V (o (c0 + mm)) else gm2 from by first | rw [if_pos c6] | rw [if_neg c6, if_pos (Int32.not_le.mp c7)] | rw [if_neg c6, if_neg (Int32.not_lt.mpr c7)]) ?_
                  refine z_put (ty := .int) C0 zt_x1 tyX1 tyX1_ok nmX1 hK hP hD hS 0 rfl rfl 14 (by decide) fl_X1_71 rfl (by decide +kernel) rfl rfl (Nat.le_of_ble_eq_true rfl) dX1_nextGroup_164 (fun H locs hP hD hS => ?_)
                  have hP : va_P D classes (mw bd cr w n K V O LF 0 (nI f) spl held 1 (nI (c0 + mm)) 2 (K (o (c0))) nv gc2 gu2 (if gc2 = 0 then V (o (c0 + mm)) else if V (o (c0 + mm)) < gl2 then V (o (c0 + mm)) else gl2) (if gc2 = 0 then V (o (c0 + mm)) else if gm2 < V (o (c0 + mm)) then V (o (c0 + mm)) else gm2)) H := hP
                  have hD : va_D A (mw bd cr w n K V O LF 0 (nI f) spl held 1 (nI (c0 + mm)) 2 (K (o (c0))) nv gc2 gu2 (if gc2 = 0 then V (o (c0 + mm)) else if V (o (c0 + mm)) < gl2 then V (o (c0 + mm)) else gl2) (if gc2 = 0 then V (o (c0 + mm)) else if gm2 < V (o (c0 + mm)) then V (o (c0 + mm)) else gm2)) := hD
                  refine lv_aload_n hx hb dX1_nextGroup_167 rfl (lv_at hl 1 rfl) ?_
                  refine lv_aload_n hx hb dX1_nextGroup_168 rfl (lv_at hl 1 rfl) ?_
                  refine z_get C0 zt_x1 hK hP 0 rfl rfl 12 (by decide) fl_X1_65 rfl dX1_nextGroup_169 ?_
                  refine lv_iload_n hx hb dX1_nextGroup_172 rfl (lv_at hl 0 rfl) ?_
                  refine lv_iadd hx hb dX1_nextGroup_173 ?_
                  refine z_put (ty := .int) C0 zt_x1 tyX1 tyX1_ok nmX1 hK hP hD hS 0 rfl rfl 12 (by decide) fl_X1_65 rfl (by decide +kernel) rfl rfl (Nat.le_of_ble_eq_true rfl) dX1_nextGroup_174 (fun H locs hP hD hS => ?_)
                  have hP : va_P D classes (mw bd cr w n K V O LF 0 (nI f) spl held 1 (nI (c0 + mm)) 2 (K (o (c0))) nv gc2 (gu2 + (V (o (c0 + mm)))) (if gc2 = 0 then V (o (c0 + mm)) else if V (o (c0 + mm)) < gl2 then V (o (c0 + mm)) else gl2) (if gc2 = 0 then V (o (c0 + mm)) else if gm2 < V (o (c0 + mm)) then V (o (c0 + mm)) else gm2)) H := hP
                  have hD : va_D A (mw bd cr w n K V O LF 0 (nI f) spl held 1 (nI (c0 + mm)) 2 (K (o (c0))) nv gc2 (gu2 + (V (o (c0 + mm)))) (if gc2 = 0 then V (o (c0 + mm)) else if V (o (c0 + mm)) < gl2 then V (o (c0 + mm)) else gl2) (if gc2 = 0 then V (o (c0 + mm)) else if gm2 < V (o (c0 + mm)) then V (o (c0 + mm)) else gm2)) := hD
                  refine lv_aload_n hx hb dX1_nextGroup_177 rfl (lv_at hl 1 rfl) ?_
                  refine lv_dup hx hb dX1_nextGroup_178 rfl ?_
                  refine z_get C0 zt_x1 hK hP 0 rfl rfl 11 (by decide) fl_X1_62 rfl dX1_nextGroup_179 ?_
                  refine lv_iconst (v := 1) hx hb dX1_nextGroup_182 (by decide) ?_
                  refine lv_iadd hx hb dX1_nextGroup_183 ?_
                  refine z_put (ty := .int) C0 zt_x1 tyX1 tyX1_ok nmX1 hK hP hD hS 0 rfl rfl 11 (by decide) fl_X1_62 rfl (by decide +kernel) rfl rfl (Nat.le_of_ble_eq_true rfl) dX1_nextGroup_184 (fun H locs hP hD hS => ?_)
                  have hP : va_P D classes (mw bd cr w n K V O LF 0 (nI f) spl held 1 (nI (c0 + mm)) 2 (K (o (c0))) nv (gc2 + 1) (gu2 + (V (o (c0 + mm)))) (if gc2 = 0 then V (o (c0 + mm)) else if V (o (c0 + mm)) < gl2 then V (o (c0 + mm)) else gl2) (if gc2 = 0 then V (o (c0 + mm)) else if gm2 < V (o (c0 + mm)) then V (o (c0 + mm)) else gm2)) H := hP
                  have hD : va_D A (mw bd cr w n K V O LF 0 (nI f) spl held 1 (nI (c0 + mm)) 2 (K (o (c0))) nv (gc2 + 1) (gu2 + (V (o (c0 + mm)))) (if gc2 = 0 then V (o (c0 + mm)) else if V (o (c0 + mm)) < gl2 then V (o (c0 + mm)) else gl2) (if gc2 = 0 then V (o (c0 + mm)) else if gm2 < V (o (c0 + mm)) then V (o (c0 + mm)) else gm2)) := hD
                  refine lv_aload_n hx hb dX1_nextGroup_187 rfl (lv_at hl 1 rfl) ?_
                  refine lv_dup hx hb dX1_nextGroup_188 rfl ?_
                  refine z_get C0 zt_x1 hK hP 0 rfl rfl 7 (by decide) fl_X1_46 rfl dX1_nextGroup_189 ?_
                  refine lv_iconst (v := 1) hx hb dX1_nextGroup_192 (by decide) ?_
                  refine lv_iadd hx hb dX1_nextGroup_193 ?_
                  refine z_eq (show ((nI (c0 + mm)) + 1) = nI (c0 + (mm + 1)) from nI_1 _) ?_
                  refine z_put (ty := .int) C0 zt_x1 tyX1 tyX1_ok nmX1 hK hP hD hS 0 rfl rfl 7 (by decide) fl_X1_46 rfl (by decide +kernel) rfl rfl (Nat.le_of_ble_eq_true rfl) dX1_nextGroup_194 (fun H locs hP hD hS => ?_)
                  have hP : va_P D classes (mw bd cr w n K V O LF 0 (nI f) spl held 1 (nI (c0 + (mm + 1))) 2 (K (o (c0))) nv (gc2 + 1) (gu2 + (V (o (c0 + mm)))) (if gc2 = 0 then V (o (c0 + mm)) else if V (o (c0 + mm)) < gl2 then V (o (c0 + mm)) else gl2) (if gc2 = 0 then V (o (c0 + mm)) else if gm2 < V (o (c0 + mm)) then V (o (c0 + mm)) else gm2)) H := hP
                  have hD : va_D A (mw bd cr w n K V O LF 0 (nI f) spl held 1 (nI (c0 + (mm + 1))) 2 (K (o (c0))) nv (gc2 + 1) (gu2 + (V (o (c0 + mm)))) (if gc2 = 0 then V (o (c0 + mm)) else if V (o (c0 + mm)) < gl2 then V (o (c0 + mm)) else gl2) (if gc2 = 0 then V (o (c0 + mm)) else if gm2 < V (o (c0 + mm)) then V (o (c0 + mm)) else gm2)) := hD
                  refine lv_goto (tgt := 66) hx hb dX1_nextGroup_197 (by decide) ?_
                  exact ih66 (mm + 1) (gc2 + 1) (gu2 + V (o (c0 + mm))) (if gc2 = 0 then V (o (c0 + mm)) else if V (o (c0 + mm)) < gl2 then V (o (c0 + mm)) else gl2) (if gc2 = 0 then V (o (c0 + mm)) else if gm2 < V (o (c0 + mm)) then V (o (c0 + mm)) else gm2) _ _ _ (⟨by omega, fun i h => by rcases Nat.lt_or_ge i mm with q | q; (exact i2 i q); (rw [show i = mm by omega]; exact c3), fun h => by omega, fun _ => gs_nx i3 i4⟩) (by omega) hP hD hS (lv_sub hl [1] rfl)
                · refine lv_iload_n hx hb dX1_nextGroup_156 rfl (lv_at hl 0 rfl) ?_
                  refine z_eq (show (V (o (c0 + mm))) = if gc2 = 0 then V (o (c0 + mm)) else if gm2 < V (o (c0 + mm)) then V (o (c0 + mm)) else gm2 from by first | rw [if_pos c6] | rw [if_neg c6, if_pos (Int32.not_le.mp c7)] | rw [if_neg c6, if_neg (Int32.not_lt.mpr c7)]) ?_
                  refine lv_goto (tgt := 164) hx hb dX1_nextGroup_157 (by decide) ?_
                  refine z_put (ty := .int) C0 zt_x1 tyX1 tyX1_ok nmX1 hK hP hD hS 0 rfl rfl 14 (by decide) fl_X1_71 rfl (by decide +kernel) rfl rfl (Nat.le_of_ble_eq_true rfl) dX1_nextGroup_164 (fun H locs hP hD hS => ?_)
                  have hP : va_P D classes (mw bd cr w n K V O LF 0 (nI f) spl held 1 (nI (c0 + mm)) 2 (K (o (c0))) nv gc2 gu2 (if gc2 = 0 then V (o (c0 + mm)) else if V (o (c0 + mm)) < gl2 then V (o (c0 + mm)) else gl2) (if gc2 = 0 then V (o (c0 + mm)) else if gm2 < V (o (c0 + mm)) then V (o (c0 + mm)) else gm2)) H := hP
                  have hD : va_D A (mw bd cr w n K V O LF 0 (nI f) spl held 1 (nI (c0 + mm)) 2 (K (o (c0))) nv gc2 gu2 (if gc2 = 0 then V (o (c0 + mm)) else if V (o (c0 + mm)) < gl2 then V (o (c0 + mm)) else gl2) (if gc2 = 0 then V (o (c0 + mm)) else if gm2 < V (o (c0 + mm)) then V (o (c0 + mm)) else gm2)) := hD
                  refine lv_aload_n hx hb dX1_nextGroup_167 rfl (lv_at hl 1 rfl) ?_
                  refine lv_aload_n hx hb dX1_nextGroup_168 rfl (lv_at hl 1 rfl) ?_
                  refine z_get C0 zt_x1 hK hP 0 rfl rfl 12 (by decide) fl_X1_65 rfl dX1_nextGroup_169 ?_
                  refine lv_iload_n hx hb dX1_nextGroup_172 rfl (lv_at hl 0 rfl) ?_
                  refine lv_iadd hx hb dX1_nextGroup_173 ?_
                  refine z_put (ty := .int) C0 zt_x1 tyX1 tyX1_ok nmX1 hK hP hD hS 0 rfl rfl 12 (by decide) fl_X1_65 rfl (by decide +kernel) rfl rfl (Nat.le_of_ble_eq_true rfl) dX1_nextGroup_174 (fun H locs hP hD hS => ?_)
                  have hP : va_P D classes (mw bd cr w n K V O LF 0 (nI f) spl held 1 (nI (c0 + mm)) 2 (K (o (c0))) nv gc2 (gu2 + (V (o (c0 + mm)))) (if gc2 = 0 then V (o (c0 + mm)) else if V (o (c0 + mm)) < gl2 then V (o (c0 + mm)) else gl2) (if gc2 = 0 then V (o (c0 + mm)) else if gm2 < V (o (c0 + mm)) then V (o (c0 + mm)) else gm2)) H := hP
                  have hD : va_D A (mw bd cr w n K V O LF 0 (nI f) spl held 1 (nI (c0 + mm)) 2 (K (o (c0))) nv gc2 (gu2 + (V (o (c0 + mm)))) (if gc2 = 0 then V (o (c0 + mm)) else if V (o (c0 + mm)) < gl2 then V (o (c0 + mm)) else gl2) (if gc2 = 0 then V (o (c0 + mm)) else if gm2 < V (o (c0 + mm)) then V (o (c0 + mm)) else gm2)) := hD
                  refine lv_aload_n hx hb dX1_nextGroup_177 rfl (lv_at hl 1 rfl) ?_
                  refine lv_dup hx hb dX1_nextGroup_178 rfl ?_
                  refine z_get C0 zt_x1 hK hP 0 rfl rfl 11 (by decide) fl_X1_62 rfl dX1_nextGroup_179 ?_
                  refine lv_iconst (v := 1) hx hb dX1_nextGroup_182 (by decide) ?_
                  refine lv_iadd hx hb dX1_nextGroup_183 ?_
                  refine z_put (ty := .int) C0 zt_x1 tyX1 tyX1_ok nmX1 hK hP hD hS 0 rfl rfl 11 (by decide) fl_X1_62 rfl (by decide +kernel) rfl rfl (Nat.le_of_ble_eq_true rfl) dX1_nextGroup_184 (fun H locs hP hD hS => ?_)
                  have hP : va_P D classes (mw bd cr w n K V O LF 0 (nI f) spl held 1 (nI (c0 + mm)) 2 (K (o (c0))) nv (gc2 + 1) (gu2 + (V (o (c0 + mm)))) (if gc2 = 0 then V (o (c0 + mm)) else if V (o (c0 + mm)) < gl2 then V (o (c0 + mm)) else gl2) (if gc2 = 0 then V (o (c0 + mm)) else if gm2 < V (o (c0 + mm)) then V (o (c0 + mm)) else gm2)) H := hP
                  have hD : va_D A (mw bd cr w n K V O LF 0 (nI f) spl held 1 (nI (c0 + mm)) 2 (K (o (c0))) nv (gc2 + 1) (gu2 + (V (o (c0 + mm)))) (if gc2 = 0 then V (o (c0 + mm)) else if V (o (c0 + mm)) < gl2 then V (o (c0 + mm)) else gl2) (if gc2 = 0 then V (o (c0 + mm)) else if gm2 < V (o (c0 + mm)) then V (o (c0 + mm)) else gm2)) := hD
                  refine lv_aload_n hx hb dX1_nextGroup_187 rfl (lv_at hl 1 rfl) ?_
                  refine lv_dup hx hb dX1_nextGroup_188 rfl ?_
                  refine z_get C0 zt_x1 hK hP 0 rfl rfl 7 (by decide) fl_X1_46 rfl dX1_nextGroup_189 ?_
                  refine lv_iconst (v := 1) hx hb dX1_nextGroup_192 (by decide) ?_
                  refine lv_iadd hx hb dX1_nextGroup_193 ?_
                  refine z_eq (show ((nI (c0 + mm)) + 1) = nI (c0 + (mm + 1)) from nI_1 _) ?_
                  refine z_put (ty := .int) C0 zt_x1 tyX1 tyX1_ok nmX1 hK hP hD hS 0 rfl rfl 7 (by decide) fl_X1_46 rfl (by decide +kernel) rfl rfl (Nat.le_of_ble_eq_true rfl) dX1_nextGroup_194 (fun H locs hP hD hS => ?_)
                  have hP : va_P D classes (mw bd cr w n K V O LF 0 (nI f) spl held 1 (nI (c0 + (mm + 1))) 2 (K (o (c0))) nv (gc2 + 1) (gu2 + (V (o (c0 + mm)))) (if gc2 = 0 then V (o (c0 + mm)) else if V (o (c0 + mm)) < gl2 then V (o (c0 + mm)) else gl2) (if gc2 = 0 then V (o (c0 + mm)) else if gm2 < V (o (c0 + mm)) then V (o (c0 + mm)) else gm2)) H := hP
                  have hD : va_D A (mw bd cr w n K V O LF 0 (nI f) spl held 1 (nI (c0 + (mm + 1))) 2 (K (o (c0))) nv (gc2 + 1) (gu2 + (V (o (c0 + mm)))) (if gc2 = 0 then V (o (c0 + mm)) else if V (o (c0 + mm)) < gl2 then V (o (c0 + mm)) else gl2) (if gc2 = 0 then V (o (c0 + mm)) else if gm2 < V (o (c0 + mm)) then V (o (c0 + mm)) else gm2)) := hD
                  refine lv_goto (tgt := 66) hx hb dX1_nextGroup_197 (by decide) ?_
                  exact ih66 (mm + 1) (gc2 + 1) (gu2 + V (o (c0 + mm))) (if gc2 = 0 then V (o (c0 + mm)) else if V (o (c0 + mm)) < gl2 then V (o (c0 + mm)) else gl2) (if gc2 = 0 then V (o (c0 + mm)) else if gm2 < V (o (c0 + mm)) then V (o (c0 + mm)) else gm2) _ _ _ (⟨by omega, fun i h => by rcases Nat.lt_or_ge i mm with q | q; (exact i2 i q); (rw [show i = mm by omega]; exact c3), fun h => by omega, fun _ => gs_nx i3 i4⟩) (by omega) hP hD hS (lv_sub hl [1] rfl)
            · refine lv_iload_n hx hb dX1_nextGroup_129 rfl (lv_at hl 0 rfl) ?_
              refine z_eq (show (V (o (c0 + mm))) = if gc2 = 0 then V (o (c0 + mm)) else if V (o (c0 + mm)) < gl2 then V (o (c0 + mm)) else gl2 from by first | rw [if_pos c4] | rw [if_neg c4, if_pos (Int32.not_le.mp c5)] | rw [if_neg c4, if_neg (Int32.not_lt.mpr c5)]) ?_
              refine lv_goto (tgt := 137) hx hb dX1_nextGroup_130 (by decide) ?_
              refine z_put (ty := .int) C0 zt_x1 tyX1 tyX1_ok nmX1 hK hP hD hS 0 rfl rfl 13 (by decide) fl_X1_68 rfl (by decide +kernel) rfl rfl (Nat.le_of_ble_eq_true rfl) dX1_nextGroup_137 (fun H locs hP hD hS => ?_)
              have hP : va_P D classes (mw bd cr w n K V O LF 0 (nI f) spl held 1 (nI (c0 + mm)) 2 (K (o (c0))) nv gc2 gu2 (if gc2 = 0 then V (o (c0 + mm)) else if V (o (c0 + mm)) < gl2 then V (o (c0 + mm)) else gl2) gm2) H := hP
              have hD : va_D A (mw bd cr w n K V O LF 0 (nI f) spl held 1 (nI (c0 + mm)) 2 (K (o (c0))) nv gc2 gu2 (if gc2 = 0 then V (o (c0 + mm)) else if V (o (c0 + mm)) < gl2 then V (o (c0 + mm)) else gl2) gm2) := hD
              refine lv_aload_n hx hb dX1_nextGroup_140 rfl (lv_at hl 1 rfl) ?_
              refine lv_aload_n hx hb dX1_nextGroup_141 rfl (lv_at hl 1 rfl) ?_
              refine z_get C0 zt_x1 hK hP 0 rfl rfl 11 (by decide) fl_X1_62 rfl dX1_nextGroup_142 ?_
              refine lv_if_eq (tgt := 156) hx hb dX1_nextGroup_145 (by decide) (fun c6 => ?_) (fun c6 => ?_)
              · refine lv_iload_n hx hb dX1_nextGroup_156 rfl (lv_at hl 0 rfl) ?_
                refine z_eq (show (V (o (c0 + mm))) = if gc2 = 0 then V (o (c0 + mm)) else if gm2 < V (o (c0 + mm)) then V (o (c0 + mm)) else gm2 from by first | rw [if_pos c6] | rw [if_neg c6, if_pos (Int32.not_le.mp c7)] | rw [if_neg c6, if_neg (Int32.not_lt.mpr c7)]) ?_
                refine lv_goto (tgt := 164) hx hb dX1_nextGroup_157 (by decide) ?_
                refine z_put (ty := .int) C0 zt_x1 tyX1 tyX1_ok nmX1 hK hP hD hS 0 rfl rfl 14 (by decide) fl_X1_71 rfl (by decide +kernel) rfl rfl (Nat.le_of_ble_eq_true rfl) dX1_nextGroup_164 (fun H locs hP hD hS => ?_)
                have hP : va_P D classes (mw bd cr w n K V O LF 0 (nI f) spl held 1 (nI (c0 + mm)) 2 (K (o (c0))) nv gc2 gu2 (if gc2 = 0 then V (o (c0 + mm)) else if V (o (c0 + mm)) < gl2 then V (o (c0 + mm)) else gl2) (if gc2 = 0 then V (o (c0 + mm)) else if gm2 < V (o (c0 + mm)) then V (o (c0 + mm)) else gm2)) H := hP
                have hD : va_D A (mw bd cr w n K V O LF 0 (nI f) spl held 1 (nI (c0 + mm)) 2 (K (o (c0))) nv gc2 gu2 (if gc2 = 0 then V (o (c0 + mm)) else if V (o (c0 + mm)) < gl2 then V (o (c0 + mm)) else gl2) (if gc2 = 0 then V (o (c0 + mm)) else if gm2 < V (o (c0 + mm)) then V (o (c0 + mm)) else gm2)) := hD
                refine lv_aload_n hx hb dX1_nextGroup_167 rfl (lv_at hl 1 rfl) ?_
                refine lv_aload_n hx hb dX1_nextGroup_168 rfl (lv_at hl 1 rfl) ?_
                refine z_get C0 zt_x1 hK hP 0 rfl rfl 12 (by decide) fl_X1_65 rfl dX1_nextGroup_169 ?_
                refine lv_iload_n hx hb dX1_nextGroup_172 rfl (lv_at hl 0 rfl) ?_
                refine lv_iadd hx hb dX1_nextGroup_173 ?_
                refine z_put (ty := .int) C0 zt_x1 tyX1 tyX1_ok nmX1 hK hP hD hS 0 rfl rfl 12 (by decide) fl_X1_65 rfl (by decide +kernel) rfl rfl (Nat.le_of_ble_eq_true rfl) dX1_nextGroup_174 (fun H locs hP hD hS => ?_)
                have hP : va_P D classes (mw bd cr w n K V O LF 0 (nI f) spl held 1 (nI (c0 + mm)) 2 (K (o (c0))) nv gc2 (gu2 + (V (o (c0 + mm)))) (if gc2 = 0 then V (o (c0 + mm)) else if V (o (c0 + mm)) < gl2 then V (o (c0 + mm)) else gl2) (if gc2 = 0 then V (o (c0 + mm)) else if gm2 < V (o (c0 + mm)) then V (o (c0 + mm)) else gm2)) H := hP
                have hD : va_D A (mw bd cr w n K V O LF 0 (nI f) spl held 1 (nI (c0 + mm)) 2 (K (o (c0))) nv gc2 (gu2 + (V (o (c0 + mm)))) (if gc2 = 0 then V (o (c0 + mm)) else if V (o (c0 + mm)) < gl2 then V (o (c0 + mm)) else gl2) (if gc2 = 0 then V (o (c0 + mm)) else if gm2 < V (o (c0 + mm)) then V (o (c0 + mm)) else gm2)) := hD
                refine lv_aload_n hx hb dX1_nextGroup_177 rfl (lv_at hl 1 rfl) ?_
                refine lv_dup hx hb dX1_nextGroup_178 rfl ?_
                refine z_get C0 zt_x1 hK hP 0 rfl rfl 11 (by decide) fl_X1_62 rfl dX1_nextGroup_179 ?_
                refine lv_iconst (v := 1) hx hb dX1_nextGroup_182 (by decide) ?_
                refine lv_iadd hx hb dX1_nextGroup_183 ?_
                refine z_put (ty := .int) C0 zt_x1 tyX1 tyX1_ok nmX1 hK hP hD hS 0 rfl rfl 11 (by decide) fl_X1_62 rfl (by decide +kernel) rfl rfl (Nat.le_of_ble_eq_true rfl) dX1_nextGroup_184 (fun H locs hP hD hS => ?_)
                have hP : va_P D classes (mw bd cr w n K V O LF 0 (nI f) spl held 1 (nI (c0 + mm)) 2 (K (o (c0))) nv (gc2 + 1) (gu2 + (V (o (c0 + mm)))) (if gc2 = 0 then V (o (c0 + mm)) else if V (o (c0 + mm)) < gl2 then V (o (c0 + mm)) else gl2) (if gc2 = 0 then V (o (c0 + mm)) else if gm2 < V (o (c0 + mm)) then V (o (c0 + mm)) else gm2)) H := hP
                have hD : va_D A (mw bd cr w n K V O LF 0 (nI f) spl held 1 (nI (c0 + mm)) 2 (K (o (c0))) nv (gc2 + 1) (gu2 + (V (o (c0 + mm)))) (if gc2 = 0 then V (o (c0 + mm)) else if V (o (c0 + mm)) < gl2 then V (o (c0 + mm)) else gl2) (if gc2 = 0 then V (o (c0 + mm)) else if gm2 < V (o (c0 + mm)) then V (o (c0 + mm)) else gm2)) := hD
                refine lv_aload_n hx hb dX1_nextGroup_187 rfl (lv_at hl 1 rfl) ?_
                refine lv_dup hx hb dX1_nextGroup_188 rfl ?_
                refine z_get C0 zt_x1 hK hP 0 rfl rfl 7 (by decide) fl_X1_46 rfl dX1_nextGroup_189 ?_
                refine lv_iconst (v := 1) hx hb dX1_nextGroup_192 (by decide) ?_
                refine lv_iadd hx hb dX1_nextGroup_193 ?_
                refine z_eq (show ((nI (c0 + mm)) + 1) = nI (c0 + (mm + 1)) from nI_1 _) ?_
                refine z_put (ty := .int) C0 zt_x1 tyX1 tyX1_ok nmX1 hK hP hD hS 0 rfl rfl 7 (by decide) fl_X1_46 rfl (by decide +kernel) rfl rfl (Nat.le_of_ble_eq_true rfl) dX1_nextGroup_194 (fun H locs hP hD hS => ?_)
                have hP : va_P D classes (mw bd cr w n K V O LF 0 (nI f) spl held 1 (nI (c0 + (mm + 1))) 2 (K (o (c0))) nv (gc2 + 1) (gu2 + (V (o (c0 + mm)))) (if gc2 = 0 then V (o (c0 + mm)) else if V (o (c0 + mm)) < gl2 then V (o (c0 + mm)) else gl2) (if gc2 = 0 then V (o (c0 + mm)) else if gm2 < V (o (c0 + mm)) then V (o (c0 + mm)) else gm2)) H := hP
                have hD : va_D A (mw bd cr w n K V O LF 0 (nI f) spl held 1 (nI (c0 + (mm + 1))) 2 (K (o (c0))) nv (gc2 + 1) (gu2 + (V (o (c0 + mm)))) (if gc2 = 0 then V (o (c0 + mm)) else if V (o (c0 + mm)) < gl2 then V (o (c0 + mm)) else gl2) (if gc2 = 0 then V (o (c0 + mm)) else if gm2 < V (o (c0 + mm)) then V (o (c0 + mm)) else gm2)) := hD
                refine lv_goto (tgt := 66) hx hb dX1_nextGroup_197 (by decide) ?_
                exact ih66 (mm + 1) (gc2 + 1) (gu2 + V (o (c0 + mm))) (if gc2 = 0 then V (o (c0 + mm)) else if V (o (c0 + mm)) < gl2 then V (o (c0 + mm)) else gl2) (if gc2 = 0 then V (o (c0 + mm)) else if gm2 < V (o (c0 + mm)) then V (o (c0 + mm)) else gm2) _ _ _ (⟨by omega, fun i h => by rcases Nat.lt_or_ge i mm with q | q; (exact i2 i q); (rw [show i = mm by omega]; exact c3), fun h => by omega, fun _ => gs_nx i3 i4⟩) (by omega) hP hD hS (lv_sub hl [1] rfl)
              · refine lv_iload_n hx hb dX1_nextGroup_148 rfl (lv_at hl 0 rfl) ?_
                refine lv_aload_n hx hb dX1_nextGroup_149 rfl (lv_at hl 1 rfl) ?_
                refine z_get C0 zt_x1 hK hP 0 rfl rfl 14 (by decide) fl_X1_71 rfl dX1_nextGroup_150 ?_
                refine lv_icmp_le (tgt := 160) hx hb dX1_nextGroup_153 (by decide) (fun c7 => ?_) (fun c7 => ?_)
                · refine lv_aload_n hx hb dX1_nextGroup_160 rfl (lv_at hl 1 rfl) ?_
                  refine z_get C0 zt_x1 hK hP 0 rfl rfl 14 (by decide) fl_X1_71 rfl dX1_nextGroup_161 ?_
                  refine z_eq (show (gm2) = if gc2 = 0 then V (o (c0 + mm)) else if gm2 < V (o (c0 + mm)) then V (o (c0 + mm)) else gm2 from by first | rw [if_pos c6] | rw [if_neg c6, if_pos (Int32.not_le.mp c7)] | rw [if_neg c6, if_neg (Int32.not_lt.mpr c7)]) ?_
                  refine z_put (ty := .int) C0 zt_x1 tyX1 tyX1_ok nmX1 hK hP hD hS 0 rfl rfl 14 (by decide) fl_X1_71 rfl (by decide +kernel) rfl rfl (Nat.le_of_ble_eq_true rfl) dX1_nextGroup_164 (fun H locs hP hD hS => ?_)
                  have hP : va_P D classes (mw bd cr w n K V O LF 0 (nI f) spl held 1 (nI (c0 + mm)) 2 (K (o (c0))) nv gc2 gu2 (if gc2 = 0 then V (o (c0 + mm)) else if V (o (c0 + mm)) < gl2 then V (o (c0 + mm)) else gl2) (if gc2 = 0 then V (o (c0 + mm)) else if gm2 < V (o (c0 + mm)) then V (o (c0 + mm)) else gm2)) H := hP
                  have hD : va_D A (mw bd cr w n K V O LF 0 (nI f) spl held 1 (nI (c0 + mm)) 2 (K (o (c0))) nv gc2 gu2 (if gc2 = 0 then V (o (c0 + mm)) else if V (o (c0 + mm)) < gl2 then V (o (c0 + mm)) else gl2) (if gc2 = 0 then V (o (c0 + mm)) else if gm2 < V (o (c0 + mm)) then V (o (c0 + mm)) else gm2)) := hD
                  refine lv_aload_n hx hb dX1_nextGroup_167 rfl (lv_at hl 1 rfl) ?_
                  refine lv_aload_n hx hb dX1_nextGroup_168 rfl (lv_at hl 1 rfl) ?_
                  refine z_get C0 zt_x1 hK hP 0 rfl rfl 12 (by decide) fl_X1_65 rfl dX1_nextGroup_169 ?_
                  refine lv_iload_n hx hb dX1_nextGroup_172 rfl (lv_at hl 0 rfl) ?_
                  refine lv_iadd hx hb dX1_nextGroup_173 ?_
                  refine z_put (ty := .int) C0 zt_x1 tyX1 tyX1_ok nmX1 hK hP hD hS 0 rfl rfl 12 (by decide) fl_X1_65 rfl (by decide +kernel) rfl rfl (Nat.le_of_ble_eq_true rfl) dX1_nextGroup_174 (fun H locs hP hD hS => ?_)
                  have hP : va_P D classes (mw bd cr w n K V O LF 0 (nI f) spl held 1 (nI (c0 + mm)) 2 (K (o (c0))) nv gc2 (gu2 + (V (o (c0 + mm)))) (if gc2 = 0 then V (o (c0 + mm)) else if V (o (c0 + mm)) < gl2 then V (o (c0 + mm)) else gl2) (if gc2 = 0 then V (o (c0 + mm)) else if gm2 < V (o (c0 + mm)) then V (o (c0 + mm)) else gm2)) H := hP
                  have hD : va_D A (mw bd cr w n K V O LF 0 (nI f) spl held 1 (nI (c0 + mm)) 2 (K (o (c0))) nv gc2 (gu2 + (V (o (c0 + mm)))) (if gc2 = 0 then V (o (c0 + mm)) else if V (o (c0 + mm)) < gl2 then V (o (c0 + mm)) else gl2) (if gc2 = 0 then V (o (c0 + mm)) else if gm2 < V (o (c0 + mm)) then V (o (c0 + mm)) else gm2)) := hD
                  refine lv_aload_n hx hb dX1_nextGroup_177 rfl (lv_at hl 1 rfl) ?_
                  refine lv_dup hx hb dX1_nextGroup_178 rfl ?_
                  refine z_get C0 zt_x1 hK hP 0 rfl rfl 11 (by decide) fl_X1_62 rfl dX1_nextGroup_179 ?_
                  refine lv_iconst (v := 1) hx hb dX1_nextGroup_182 (by decide) ?_
                  refine lv_iadd hx hb dX1_nextGroup_183 ?_
                  refine z_put (ty := .int) C0 zt_x1 tyX1 tyX1_ok nmX1 hK hP hD hS 0 rfl rfl 11 (by decide) fl_X1_62 rfl (by decide +kernel) rfl rfl (Nat.le_of_ble_eq_true rfl) dX1_nextGroup_184 (fun H locs hP hD hS => ?_)
                  have hP : va_P D classes (mw bd cr w n K V O LF 0 (nI f) spl held 1 (nI (c0 + mm)) 2 (K (o (c0))) nv (gc2 + 1) (gu2 + (V (o (c0 + mm)))) (if gc2 = 0 then V (o (c0 + mm)) else if V (o (c0 + mm)) < gl2 then V (o (c0 + mm)) else gl2) (if gc2 = 0 then V (o (c0 + mm)) else if gm2 < V (o (c0 + mm)) then V (o (c0 + mm)) else gm2)) H := hP
                  have hD : va_D A (mw bd cr w n K V O LF 0 (nI f) spl held 1 (nI (c0 + mm)) 2 (K (o (c0))) nv (gc2 + 1) (gu2 + (V (o (c0 + mm)))) (if gc2 = 0 then V (o (c0 + mm)) else if V (o (c0 + mm)) < gl2 then V (o (c0 + mm)) else gl2) (if gc2 = 0 then V (o (c0 + mm)) else if gm2 < V (o (c0 + mm)) then V (o (c0 + mm)) else gm2)) := hD
                  refine lv_aload_n hx hb dX1_nextGroup_187 rfl (lv_at hl 1 rfl) ?_
                  refine lv_dup hx hb dX1_nextGroup_188 rfl ?_
                  refine z_get C0 zt_x1 hK hP 0 rfl rfl 7 (by decide) fl_X1_46 rfl dX1_nextGroup_189 ?_
                  refine lv_iconst (v := 1) hx hb dX1_nextGroup_192 (by decide) ?_
                  refine lv_iadd hx hb dX1_nextGroup_193 ?_
                  refine z_eq (show ((nI (c0 + mm)) + 1) = nI (c0 + (mm + 1)) from nI_1 _) ?_
                  refine z_put (ty := .int) C0 zt_x1 tyX1 tyX1_ok nmX1 hK hP hD hS 0 rfl rfl 7 (by decide) fl_X1_46 rfl (by decide +kernel) rfl rfl (Nat.le_of_ble_eq_true rfl) dX1_nextGroup_194 (fun H locs hP hD hS => ?_)
                  have hP : va_P D classes (mw bd cr w n K V O LF 0 (nI f) spl held 1 (nI (c0 + (mm + 1))) 2 (K (o (c0))) nv (gc2 + 1) (gu2 + (V (o (c0 + mm)))) (if gc2 = 0 then V (o (c0 + mm)) else if V (o (c0 + mm)) < gl2 then V (o (c0 + mm)) else gl2) (if gc2 = 0 then V (o (c0 + mm)) else if gm2 < V (o (c0 + mm)) then V (o (c0 + mm)) else gm2)) H := hP
                  have hD : va_D A (mw bd cr w n K V O LF 0 (nI f) spl held 1 (nI (c0 + (mm + 1))) 2 (K (o (c0))) nv (gc2 + 1) (gu2 + (V (o (c0 + mm)))) (if gc2 = 0 then V (o (c0 + mm)) else if V (o (c0 + mm)) < gl2 then V (o (c0 + mm)) else gl2) (if gc2 = 0 then V (o (c0 + mm)) else if gm2 < V (o (c0 + mm)) then V (o (c0 + mm)) else gm2)) := hD
                  refine lv_goto (tgt := 66) hx hb dX1_nextGroup_197 (by decide) ?_
                  exact ih66 (mm + 1) (gc2 + 1) (gu2 + V (o (c0 + mm))) (if gc2 = 0 then V (o (c0 + mm)) else if V (o (c0 + mm)) < gl2 then V (o (c0 + mm)) else gl2) (if gc2 = 0 then V (o (c0 + mm)) else if gm2 < V (o (c0 + mm)) then V (o (c0 + mm)) else gm2) _ _ _ (⟨by omega, fun i h => by rcases Nat.lt_or_ge i mm with q | q; (exact i2 i q); (rw [show i = mm by omega]; exact c3), fun h => by omega, fun _ => gs_nx i3 i4⟩) (by omega) hP hD hS (lv_sub hl [1] rfl)
                · refine lv_iload_n hx hb dX1_nextGroup_156 rfl (lv_at hl 0 rfl) ?_
                  refine z_eq (show (V (o (c0 + mm))) = if gc2 = 0 then V (o (c0 + mm)) else if gm2 < V (o (c0 + mm)) then V (o (c0 + mm)) else gm2 from by first | rw [if_pos c6] | rw [if_neg c6, if_pos (Int32.not_le.mp c7)] | rw [if_neg c6, if_neg (Int32.not_lt.mpr c7)]) ?_
                  refine lv_goto (tgt := 164) hx hb dX1_nextGroup_157 (by decide) ?_
                  refine z_put (ty := .int) C0 zt_x1 tyX1 tyX1_ok nmX1 hK hP hD hS 0 rfl rfl 14 (by decide) fl_X1_71 rfl (by decide +kernel) rfl rfl (Nat.le_of_ble_eq_true rfl) dX1_nextGroup_164 (fun H locs hP hD hS => ?_)
                  have hP : va_P D classes (mw bd cr w n K V O LF 0 (nI f) spl held 1 (nI (c0 + mm)) 2 (K (o (c0))) nv gc2 gu2 (if gc2 = 0 then V (o (c0 + mm)) else if V (o (c0 + mm)) < gl2 then V (o (c0 + mm)) else gl2) (if gc2 = 0 then V (o (c0 + mm)) else if gm2 < V (o (c0 + mm)) then V (o (c0 + mm)) else gm2)) H := hP
                  have hD : va_D A (mw bd cr w n K V O LF 0 (nI f) spl held 1 (nI (c0 + mm)) 2 (K (o (c0))) nv gc2 gu2 (if gc2 = 0 then V (o (c0 + mm)) else if V (o (c0 + mm)) < gl2 then V (o (c0 + mm)) else gl2) (if gc2 = 0 then V (o (c0 + mm)) else if gm2 < V (o (c0 + mm)) then V (o (c0 + mm)) else gm2)) := hD
                  refine lv_aload_n hx hb dX1_nextGroup_167 rfl (lv_at hl 1 rfl) ?_
                  refine lv_aload_n hx hb dX1_nextGroup_168 rfl (lv_at hl 1 rfl) ?_
                  refine z_get C0 zt_x1 hK hP 0 rfl rfl 12 (by decide) fl_X1_65 rfl dX1_nextGroup_169 ?_
                  refine lv_iload_n hx hb dX1_nextGroup_172 rfl (lv_at hl 0 rfl) ?_
                  refine lv_iadd hx hb dX1_nextGroup_173 ?_
                  refine z_put (ty := .int) C0 zt_x1 tyX1 tyX1_ok nmX1 hK hP hD hS 0 rfl rfl 12 (by decide) fl_X1_65 rfl (by decide +kernel) rfl rfl (Nat.le_of_ble_eq_true rfl) dX1_nextGroup_174 (fun H locs hP hD hS => ?_)
                  have hP : va_P D classes (mw bd cr w n K V O LF 0 (nI f) spl held 1 (nI (c0 + mm)) 2 (K (o (c0))) nv gc2 (gu2 + (V (o (c0 + mm)))) (if gc2 = 0 then V (o (c0 + mm)) else if V (o (c0 + mm)) < gl2 then V (o (c0 + mm)) else gl2) (if gc2 = 0 then V (o (c0 + mm)) else if gm2 < V (o (c0 + mm)) then V (o (c0 + mm)) else gm2)) H := hP
                  have hD : va_D A (mw bd cr w n K V O LF 0 (nI f) spl held 1 (nI (c0 + mm)) 2 (K (o (c0))) nv gc2 (gu2 + (V (o (c0 + mm)))) (if gc2 = 0 then V (o (c0 + mm)) else if V (o (c0 + mm)) < gl2 then V (o (c0 + mm)) else gl2) (if gc2 = 0 then V (o (c0 + mm)) else if gm2 < V (o (c0 + mm)) then V (o (c0 + mm)) else gm2)) := hD
                  refine lv_aload_n hx hb dX1_nextGroup_177 rfl (lv_at hl 1 rfl) ?_
                  refine lv_dup hx hb dX1_nextGroup_178 rfl ?_
                  refine z_get C0 zt_x1 hK hP 0 rfl rfl 11 (by decide) fl_X1_62 rfl dX1_nextGroup_179 ?_
                  refine lv_iconst (v := 1) hx hb dX1_nextGroup_182 (by decide) ?_
                  refine lv_iadd hx hb dX1_nextGroup_183 ?_
                  refine z_put (ty := .int) C0 zt_x1 tyX1 tyX1_ok nmX1 hK hP hD hS 0 rfl rfl 11 (by decide) fl_X1_62 rfl (by decide +kernel) rfl rfl (Nat.le_of_ble_eq_true rfl) dX1_nextGroup_184 (fun H locs hP hD hS => ?_)
                  have hP : va_P D classes (mw bd cr w n K V O LF 0 (nI f) spl held 1 (nI (c0 + mm)) 2 (K (o (c0))) nv (gc2 + 1) (gu2 + (V (o (c0 + mm)))) (if gc2 = 0 then V (o (c0 + mm)) else if V (o (c0 + mm)) < gl2 then V (o (c0 + mm)) else gl2) (if gc2 = 0 then V (o (c0 + mm)) else if gm2 < V (o (c0 + mm)) then V (o (c0 + mm)) else gm2)) H := hP
                  have hD : va_D A (mw bd cr w n K V O LF 0 (nI f) spl held 1 (nI (c0 + mm)) 2 (K (o (c0))) nv (gc2 + 1) (gu2 + (V (o (c0 + mm)))) (if gc2 = 0 then V (o (c0 + mm)) else if V (o (c0 + mm)) < gl2 then V (o (c0 + mm)) else gl2) (if gc2 = 0 then V (o (c0 + mm)) else if gm2 < V (o (c0 + mm)) then V (o (c0 + mm)) else gm2)) := hD
                  refine lv_aload_n hx hb dX1_nextGroup_187 rfl (lv_at hl 1 rfl) ?_
                  refine lv_dup hx hb dX1_nextGroup_188 rfl ?_
                  refine z_get C0 zt_x1 hK hP 0 rfl rfl 7 (by decide) fl_X1_46 rfl dX1_nextGroup_189 ?_
                  refine lv_iconst (v := 1) hx hb dX1_nextGroup_192 (by decide) ?_
                  refine lv_iadd hx hb dX1_nextGroup_193 ?_
                  refine z_eq (show ((nI (c0 + mm)) + 1) = nI (c0 + (mm + 1)) from nI_1 _) ?_
                  refine z_put (ty := .int) C0 zt_x1 tyX1 tyX1_ok nmX1 hK hP hD hS 0 rfl rfl 7 (by decide) fl_X1_46 rfl (by decide +kernel) rfl rfl (Nat.le_of_ble_eq_true rfl) dX1_nextGroup_194 (fun H locs hP hD hS => ?_)
                  have hP : va_P D classes (mw bd cr w n K V O LF 0 (nI f) spl held 1 (nI (c0 + (mm + 1))) 2 (K (o (c0))) nv (gc2 + 1) (gu2 + (V (o (c0 + mm)))) (if gc2 = 0 then V (o (c0 + mm)) else if V (o (c0 + mm)) < gl2 then V (o (c0 + mm)) else gl2) (if gc2 = 0 then V (o (c0 + mm)) else if gm2 < V (o (c0 + mm)) then V (o (c0 + mm)) else gm2)) H := hP
                  have hD : va_D A (mw bd cr w n K V O LF 0 (nI f) spl held 1 (nI (c0 + (mm + 1))) 2 (K (o (c0))) nv (gc2 + 1) (gu2 + (V (o (c0 + mm)))) (if gc2 = 0 then V (o (c0 + mm)) else if V (o (c0 + mm)) < gl2 then V (o (c0 + mm)) else gl2) (if gc2 = 0 then V (o (c0 + mm)) else if gm2 < V (o (c0 + mm)) then V (o (c0 + mm)) else gm2)) := hD
                  refine lv_goto (tgt := 66) hx hb dX1_nextGroup_197 (by decide) ?_
                  exact ih66 (mm + 1) (gc2 + 1) (gu2 + V (o (c0 + mm))) (if gc2 = 0 then V (o (c0 + mm)) else if V (o (c0 + mm)) < gl2 then V (o (c0 + mm)) else gl2) (if gc2 = 0 then V (o (c0 + mm)) else if gm2 < V (o (c0 + mm)) then V (o (c0 + mm)) else gm2) _ _ _ (⟨by omega, fun i h => by rcases Nat.lt_or_ge i mm with q | q; (exact i2 i q); (rw [show i = mm by omega]; exact c3), fun h => by omega, fun _ => gs_nx i3 i4⟩) (by omega) hP hD hS (lv_sub hl [1] rfl)
  exact loop _ 0 0 0 gl gm _ _ _ (⟨by omega, fun i h => absurd h (Nat.not_lt_zero i), fun _ => ⟨rfl, rfl⟩, fun h => absurd h (Nat.lt_irrefl 0)⟩) (Nat.lt_succ_self _) hP hD hS (lv_sub hl [0] (rfl))
abbrev rM_skipTo : Room := { frames := 0, cells := 0, slots := 0, locals := 0 }
set_option maxHeartbeats 4000000 in
set_option maxRecDepth 100000 in
theorem m_skipTo_u (l : Launch) (D : va_G) (bd : Nat → Nat) (cr : Nat → ClassId) (w n : Nat) (K V O LF : Nat → Int32) (th fed spl held gone cur nk nv gc gu gl gm : Int32) (key : Int32)  : ZI (S := Unit) l yX1_skipTo cX1_skipTo 3 rM_skipTo D classes (mt cr) [.ref (bd 0), .int key] (mw bd cr w n K V O LF th fed spl held 0 gone cur nk nv gc gu gl gm) (fun v _ => v = -4) (fun _ => (mw bd cr w n K V O LF 0 fed spl held 0 gone cur nk nv gc gu gl gm)) := by
  refine ZI.of (by decide +kernel) (Nat.le_of_ble_eq_true rfl) ?_
  intro p e s m args below meth c A Q ls C0 hK hP hD hS hA hl hret
  have hx := C0.1
  have hb := C0.2.1
  have hl : lv_has ls 3 [(0, .ref (bd 0)), (1, .int key)] := hl
  refine lv_aload_n hx hb dX1_skipTo_0 rfl (lv_at hl 0 rfl) ?_
  refine lv_iconst (v := 0) hx hb dX1_skipTo_1 (by decide) ?_
  refine z_put (ty := .int) C0 zt_x1 tyX1 tyX1_ok nmX1 hK hP hD hS 0 rfl rfl 0 (by decide) fl_X1_30 rfl (by decide +kernel) rfl rfl (Nat.le_of_ble_eq_true rfl) dX1_skipTo_2 (fun H locs hP hD hS => ?_)
  have hP : va_P D classes (mw bd cr w n K V O LF 0 fed spl held 0 gone cur nk nv gc gu gl gm) H := hP
  have hD : va_D A (mw bd cr w n K V O LF 0 fed spl held 0 gone cur nk nv gc gu gl gm) := hD
  refine lv_aload_n hx hb dX1_skipTo_5 rfl (lv_at hl 0 rfl) ?_
  refine z_get C0 zt_x1 hK hP 0 rfl rfl 6 (by decide) fl_X1_42 rfl dX1_skipTo_6 ?_
  refine lv_if_ne (tgt := 15) hx hb dX1_skipTo_9 (by decide) (fun hz => False.elim (hz rfl)) (fun hz => ?_)
  refine lv_bipush (v := -4) hx hb dX1_skipTo_12 (by decide) ?_
  exact hret _ (()) _ _ _ _ hP hD hS (rfl) dX1_skipTo_14
set_option maxHeartbeats 4000000 in
set_option maxRecDepth 100000 in
theorem m_skipTo (l : Launch) (D : va_G) (bd : Nat → Nat) (cr : Nat → ClassId) (w n : Nat) (K V O LF : Nat → Int32) (th spl held cur nk nv gc gu gl gm : Int32) (f c0 : Nat) (o : Nat → Nat) (key : Int32) (hf : f ≤ 2064) (hF : xF K O f o) (hc : c0 ≤ f) : ZI (S := Nat) l yX1_skipTo cX1_skipTo 3 rM_skipTo D classes (mt cr) [.ref (bd 0), .int key] (mw bd cr w n K V O LF th (nI f) spl held 1 (nI c0) cur nk nv gc gu gl gm) (fun v u => v = nI u ∧ c0 + u ≤ f ∧ (∀ i, i < u → K (o (c0 + i)) < key) ∧ (c0 + u = f ∨ ¬ K (o (c0 + u)) < key)) (fun u => (mw bd cr w n K V O LF 0 (nI f) spl held 1 (nI (c0 + u)) 0 nk nv gc gu gl gm)) := by
  refine ZI.of (by decide +kernel) (Nat.le_of_ble_eq_true rfl) ?_
  intro p e s m args below meth c A Q ls C0 hK hP hD hS hA hl hret
  have hx := C0.1
  have hb := C0.2.1
  have hl : lv_has ls 3 [(0, .ref (bd 0)), (1, .int key)] := hl
  refine lv_aload_n hx hb dX1_skipTo_0 rfl (lv_at hl 0 rfl) ?_
  refine lv_iconst (v := 0) hx hb dX1_skipTo_1 (by decide) ?_
  refine z_put (ty := .int) C0 zt_x1 tyX1 tyX1_ok nmX1 hK hP hD hS 0 rfl rfl 0 (by decide) fl_X1_30 rfl (by decide +kernel) rfl rfl (Nat.le_of_ble_eq_true rfl) dX1_skipTo_2 (fun H locs hP hD hS => ?_)
  have hP : va_P D classes (mw bd cr w n K V O LF 0 (nI f) spl held 1 (nI c0) cur nk nv gc gu gl gm) H := hP
  have hD : va_D A (mw bd cr w n K V O LF 0 (nI f) spl held 1 (nI c0) cur nk nv gc gu gl gm) := hD
  refine lv_aload_n hx hb dX1_skipTo_5 rfl (lv_at hl 0 rfl) ?_
  refine z_get C0 zt_x1 hK hP 0 rfl rfl 6 (by decide) fl_X1_42 rfl dX1_skipTo_6 ?_
  refine lv_if_ne (tgt := 15) hx hb dX1_skipTo_9 (by decide) (fun hz => ?_) (fun hz => False.elim (absurd hz (by decide)))
  refine lv_iconst (v := 0) hx hb dX1_skipTo_15 (by decide) ?_
  refine lv_istore_n (lv' := [(2, .int 0), (0, .ref (bd 0)), (1, .int key)]) hx hb dX1_skipTo_16 rfl hl (by decide) rfl (fun ls hl => ?_)
  have loop : ∀ (NN : Nat) (mm : Nat) (H : Heap) (locs : List Loc) (ls : Array Slot), (c0 + mm ≤ f ∧ ∀ i, i < mm → K (o (c0 + i)) < key) → f - mm < NN → va_P D classes (mw bd cr w n K V O LF 0 (nI f) spl held 1 (nI (c0 + mm)) cur nk nv gc gu gl gm) H → va_D A (mw bd cr w n K V O LF 0 (nI f) spl held 1 (nI (c0 + mm)) cur nk nv gc gu gl gm) → va_S A s.heap H locs → lv_has ls 3 [(2, .int (nI mm)), (0, .ref (bd 0)), (1, .int key)] → W p l e rM_skipTo s m args below meth c H locs 0 0 Q (F0 m 17 ls []) := by
    intro N17
    induction N17 with
    | zero => intro mm H locs ls hI hN; exact absurd hN (Nat.not_lt_zero _)
    | succ N17 ih17 =>
      intro mm H locs ls hI hN17 hP hD hS hl
      obtain ⟨i1, i2⟩ := hI
      refine lv_aload_n hx hb dX1_skipTo_17 rfl (lv_at hl 1 rfl) ?_
      refine z_get C0 zt_x1 hK hP 0 rfl rfl 7 (by decide) fl_X1_46 rfl dX1_skipTo_18 ?_
      refine lv_aload_n hx hb dX1_skipTo_21 rfl (lv_at hl 1 rfl) ?_
      refine z_get C0 zt_x1 hK hP 0 rfl rfl 3 (by decide) fl_X1_33 rfl dX1_skipTo_22 ?_
      refine lv_icmp_ge (tgt := 62) hx hb dX1_skipTo_25 (by decide) (fun c2 => ?_) (fun c2 => ?_)
      · have c2 := zle c2 (by omega) (by omega)
        have hend : c0 + mm = f ∨ ¬ K (o (c0 + mm)) < key := Or.inl (by omega)
        refine lv_aload_n hx hb dX1_skipTo_62 rfl (lv_at hl 1 rfl) ?_
        refine lv_iconst (v := 0) hx hb dX1_skipTo_63 (by decide) ?_
        refine z_put (ty := .int) C0 zt_x1 tyX1 tyX1_ok nmX1 hK hP hD hS 0 rfl rfl 8 (by decide) fl_X1_49 rfl (by decide +kernel) rfl rfl (Nat.le_of_ble_eq_true rfl) dX1_skipTo_64 (fun H locs hP hD hS => ?_)
        have hP : va_P D classes (mw bd cr w n K V O LF 0 (nI f) spl held 1 (nI (c0 + mm)) 0 nk nv gc gu gl gm) H := hP
        have hD : va_D A (mw bd cr w n K V O LF 0 (nI f) spl held 1 (nI (c0 + mm)) 0 nk nv gc gu gl gm) := hD
        refine lv_iload_n hx hb dX1_skipTo_67 rfl (lv_at hl 0 rfl) ?_
        exact hret _ (mm) _ _ _ _ hP hD hS (⟨rfl, i1, i2, hend⟩) dX1_skipTo_68
      · have c2 := znle c2 (by omega) (by omega)
        refine lv_aload_n hx hb dX1_skipTo_28 rfl (lv_at hl 1 rfl) ?_
        refine z_get C0 zt_x1 hK hP 0 rfl rfl 15 (by decide) fl_X1_7 rfl dX1_skipTo_29 ?_
        refine lv_aload_n hx hb dX1_skipTo_32 rfl (lv_at hl 1 rfl) ?_
        refine z_get C0 zt_x1 hK hP 0 rfl rfl 17 (by decide) fl_X1_16 rfl dX1_skipTo_33 ?_
        refine lv_aload_n hx hb dX1_skipTo_36 rfl (lv_at hl 1 rfl) ?_
        refine z_get C0 zt_x1 hK hP 0 rfl rfl 7 (by decide) fl_X1_46 rfl dX1_skipTo_37 ?_
        refine z_ild C0 hK hP 3 2 rfl rfl (j := (c0 + mm)) (by omega) (by decide) dX1_skipTo_40 ?_
        refine z_eq (show (O (c0 + mm)) = nI (o (c0 + mm)) from hF.1 _ (by omega)) ?_
        refine z_ild C0 hK hP 1 0 rfl rfl (j := (o (c0 + mm))) (by have := hF.rng (a := c0 + mm) (by omega); omega) (by decide) dX1_skipTo_41 ?_
        refine lv_iload_n hx hb dX1_skipTo_42 rfl (lv_at hl 2 rfl) ?_
        refine lv_icmp_ge (tgt := 62) hx hb dX1_skipTo_43 (by decide) (fun c3 => ?_) (fun c3 => ?_)
        · have hend : c0 + mm = f ∨ ¬ K (o (c0 + mm)) < key := Or.inr (Int32.not_lt.mpr c3)
          refine lv_aload_n hx hb dX1_skipTo_62 rfl (lv_at hl 1 rfl) ?_
          refine lv_iconst (v := 0) hx hb dX1_skipTo_63 (by decide) ?_
          refine z_put (ty := .int) C0 zt_x1 tyX1 tyX1_ok nmX1 hK hP hD hS 0 rfl rfl 8 (by decide) fl_X1_49 rfl (by decide +kernel) rfl rfl (Nat.le_of_ble_eq_true rfl) dX1_skipTo_64 (fun H locs hP hD hS => ?_)
          have hP : va_P D classes (mw bd cr w n K V O LF 0 (nI f) spl held 1 (nI (c0 + mm)) 0 nk nv gc gu gl gm) H := hP
          have hD : va_D A (mw bd cr w n K V O LF 0 (nI f) spl held 1 (nI (c0 + mm)) 0 nk nv gc gu gl gm) := hD
          refine lv_iload_n hx hb dX1_skipTo_67 rfl (lv_at hl 0 rfl) ?_
          exact hret _ (mm) _ _ _ _ hP hD hS (⟨rfl, i1, i2, hend⟩) dX1_skipTo_68
        · refine lv_aload_n hx hb dX1_skipTo_46 rfl (lv_at hl 1 rfl) ?_
          refine lv_dup hx hb dX1_skipTo_47 rfl ?_
          refine z_get C0 zt_x1 hK hP 0 rfl rfl 7 (by decide) fl_X1_46 rfl dX1_skipTo_48 ?_
          refine lv_iconst (v := 1) hx hb dX1_skipTo_51 (by decide) ?_
          refine lv_iadd hx hb dX1_skipTo_52 ?_
          refine z_eq (show ((nI (c0 + mm)) + 1) = nI (c0 + (mm + 1)) from nI_1 _) ?_
          refine z_put (ty := .int) C0 zt_x1 tyX1 tyX1_ok nmX1 hK hP hD hS 0 rfl rfl 7 (by decide) fl_X1_46 rfl (by decide +kernel) rfl rfl (Nat.le_of_ble_eq_true rfl) dX1_skipTo_53 (fun H locs hP hD hS => ?_)
          have hP : va_P D classes (mw bd cr w n K V O LF 0 (nI f) spl held 1 (nI (c0 + (mm + 1))) cur nk nv gc gu gl gm) H := hP
          have hD : va_D A (mw bd cr w n K V O LF 0 (nI f) spl held 1 (nI (c0 + (mm + 1))) cur nk nv gc gu gl gm) := hD
          refine lv_iinc (v := nI (mm + 1)) (lv' := [(2, .int (nI (mm + 1))), (0, .ref (bd 0)), (1, .int key)]) hx hb dX1_skipTo_56 hl (k := 0) rfl (show (nI mm) + Int32.ofInt (1) = nI (mm + 1) from (congrArg ((nI mm) + ·) (by decide : Int32.ofInt (1) = 1)).trans (nI_1 mm)) (by decide) rfl (fun ls hl => ?_)
          refine lv_goto (tgt := 17) hx hb dX1_skipTo_59 (by decide) ?_
          exact ih17 (mm + 1) _ _ _ (⟨by omega, fun i h => by rcases Nat.lt_or_ge i mm with q | q; (exact i2 i q); (rw [show i = mm by omega]; exact Int32.not_le.mp c3)⟩) (by omega) hP hD hS (lv_sub hl [0, 1, 2] rfl)
  exact loop _ 0 _ _ _ (⟨by omega, fun i h => absurd h (Nat.not_lt_zero i)⟩) (Nat.lt_succ_self _) hP hD hS (lv_sub hl [0, 1, 2] (rfl))
abbrev rM_key : Room := { frames := 0, cells := 0, slots := 0, locals := 0 }
set_option maxHeartbeats 4000000 in
set_option maxRecDepth 100000 in
theorem m_key (l : Launch) (D : va_G) (bd : Nat → Nat) (cr : Nat → ClassId) (w n : Nat) (K V O LF : Nat → Int32) (th fed spl held rd gone cur nk nv gc gu gl gm : Int32)   : ZI (S := Unit) l yX1_key cX1_key 1 rM_key D classes (mt cr) [.ref (bd 0)] (mw bd cr w n K V O LF th fed spl held rd gone cur nk nv gc gu gl gm) (fun v _ => v = if cur = 0 then 0 else nk) (fun _ => (mw bd cr w n K V O LF 0 fed spl held rd gone cur nk nv gc gu gl gm)) := by
  refine ZI.of (by decide +kernel) (Nat.le_of_ble_eq_true rfl) ?_
  intro p e s m args below meth c A Q ls C0 hK hP hD hS hA hl hret
  have hx := C0.1
  have hb := C0.2.1
  have hl : lv_has ls 1 [(0, .ref (bd 0))] := hl
  refine lv_aload_n hx hb dX1_key_0 rfl (lv_at hl 0 rfl) ?_
  refine lv_iconst (v := 0) hx hb dX1_key_1 (by decide) ?_
  refine z_put (ty := .int) C0 zt_x1 tyX1 tyX1_ok nmX1 hK hP hD hS 0 rfl rfl 0 (by decide) fl_X1_30 rfl (by decide +kernel) rfl rfl (Nat.le_of_ble_eq_true rfl) dX1_key_2 (fun H locs hP hD hS => ?_)
  have hP : va_P D classes (mw bd cr w n K V O LF 0 fed spl held rd gone cur nk nv gc gu gl gm) H := hP
  have hD : va_D A (mw bd cr w n K V O LF 0 fed spl held rd gone cur nk nv gc gu gl gm) := hD
  refine lv_aload_n hx hb dX1_key_5 rfl (lv_at hl 0 rfl) ?_
  refine z_get C0 zt_x1 hK hP 0 rfl rfl 8 (by decide) fl_X1_49 rfl dX1_key_6 ?_
  refine lv_if_ne (tgt := 16) hx hb dX1_key_9 (by decide) (fun c1 => ?_) (fun c1 => ?_)
  · refine lv_aload_n hx hb dX1_key_16 rfl (lv_at hl 0 rfl) ?_
    refine z_get C0 zt_x1 hK hP 0 rfl rfl 9 (by decide) fl_X1_56 rfl dX1_key_17 ?_
    exact hret _ (()) _ _ _ _ hP hD hS (by first | rw [if_pos c1] | rw [if_neg c1]) dX1_key_20
  · refine lv_iconst (v := 0) hx hb dX1_key_12 (by decide) ?_
    refine lv_goto (tgt := 20) hx hb dX1_key_13 (by decide) ?_
    exact hret _ (()) _ _ _ _ hP hD hS (by first | rw [if_pos c1] | rw [if_neg c1]) dX1_key_20
abbrev rM_value : Room := { frames := 0, cells := 0, slots := 0, locals := 0 }
set_option maxHeartbeats 4000000 in
set_option maxRecDepth 100000 in
theorem m_value (l : Launch) (D : va_G) (bd : Nat → Nat) (cr : Nat → ClassId) (w n : Nat) (K V O LF : Nat → Int32) (th fed spl held rd gone cur nk nv gc gu gl gm : Int32)   : ZI (S := Unit) l yX1_value cX1_value 1 rM_value D classes (mt cr) [.ref (bd 0)] (mw bd cr w n K V O LF th fed spl held rd gone cur nk nv gc gu gl gm) (fun v _ => v = if cur = 1 then nv else 0) (fun _ => (mw bd cr w n K V O LF 0 fed spl held rd gone cur nk nv gc gu gl gm)) := by
  refine ZI.of (by decide +kernel) (Nat.le_of_ble_eq_true rfl) ?_
  intro p e s m args below meth c A Q ls C0 hK hP hD hS hA hl hret
  have hx := C0.1
  have hb := C0.2.1
  have hl : lv_has ls 1 [(0, .ref (bd 0))] := hl
  refine lv_aload_n hx hb dX1_value_0 rfl (lv_at hl 0 rfl) ?_
  refine lv_iconst (v := 0) hx hb dX1_value_1 (by decide) ?_
  refine z_put (ty := .int) C0 zt_x1 tyX1 tyX1_ok nmX1 hK hP hD hS 0 rfl rfl 0 (by decide) fl_X1_30 rfl (by decide +kernel) rfl rfl (Nat.le_of_ble_eq_true rfl) dX1_value_2 (fun H locs hP hD hS => ?_)
  have hP : va_P D classes (mw bd cr w n K V O LF 0 fed spl held rd gone cur nk nv gc gu gl gm) H := hP
  have hD : va_D A (mw bd cr w n K V O LF 0 fed spl held rd gone cur nk nv gc gu gl gm) := hD
  refine lv_aload_n hx hb dX1_value_5 rfl (lv_at hl 0 rfl) ?_
  refine z_get C0 zt_x1 hK hP 0 rfl rfl 8 (by decide) fl_X1_49 rfl dX1_value_6 ?_
  refine lv_iconst (v := 1) hx hb dX1_value_9 (by decide) ?_
  refine lv_icmp_ne (tgt := 20) hx hb dX1_value_10 (by decide) (fun c1 => ?_) (fun c1 => ?_)
  · refine lv_iconst (v := 0) hx hb dX1_value_20 (by decide) ?_
    exact hret _ (()) _ _ _ _ hP hD hS (by first | rw [if_pos c1] | rw [if_neg c1]) dX1_value_21
  · refine lv_aload_n hx hb dX1_value_13 rfl (lv_at hl 0 rfl) ?_
    refine z_get C0 zt_x1 hK hP 0 rfl rfl 10 (by decide) fl_X1_59 rfl dX1_value_14 ?_
    refine lv_goto (tgt := 21) hx hb dX1_value_17 (by decide) ?_
    exact hret _ (()) _ _ _ _ hP hD hS (by first | rw [if_pos c1] | rw [if_neg c1]) dX1_value_21
abbrev rM_group : Room := { frames := 0, cells := 0, slots := 0, locals := 0 }
set_option maxHeartbeats 4000000 in
set_option maxRecDepth 100000 in
theorem m_group_x (l : Launch) (D : va_G) (bd : Nat → Nat) (cr : Nat → ClassId) (w n : Nat) (K V O LF : Nat → Int32) (th fed spl held rd gone cur nk nv gc gu gl gm : Int32) (what : Int32) (hbad : what < 0 ∨ ¬ what ≤ 3) : ZI (S := Unit) l yX1_group cX1_group 2 rM_group D classes (mt cr) [.ref (bd 0), .int what] (mw bd cr w n K V O LF th fed spl held rd gone cur nk nv gc gu gl gm) (fun v _ => v = 0) (fun _ => (mw bd cr w n K V O LF 1 fed spl held rd gone cur nk nv gc gu gl gm)) := by
  refine ZI.of (by decide +kernel) (Nat.le_of_ble_eq_true rfl) ?_
  intro p e s m args below meth c A Q ls C0 hK hP hD hS hA hl hret
  have hx := C0.1
  have hb := C0.2.1
  have hl : lv_has ls 2 [(0, .ref (bd 0)), (1, .int what)] := hl
  refine lv_aload_n hx hb dX1_group_0 rfl (lv_at hl 0 rfl) ?_
  refine lv_iload_n hx hb dX1_group_1 rfl (lv_at hl 1 rfl) ?_
  refine lv_if_lt (tgt := 10) hx hb dX1_group_2 (by decide) (fun c1 => ?_) (fun c1 => ?_)
  · refine lv_iconst (v := 1) hx hb dX1_group_10 (by decide) ?_
    refine lv_goto (tgt := 15) hx hb dX1_group_11 (by decide) ?_
    refine z_put (ty := .int) C0 zt_x1 tyX1 tyX1_ok nmX1 hK hP hD hS 0 rfl rfl 0 (by decide) fl_X1_30 rfl (by decide +kernel) rfl rfl (Nat.le_of_ble_eq_true rfl) dX1_group_15 (fun H locs hP hD hS => ?_)
    have hP : va_P D classes (mw bd cr w n K V O LF 1 fed spl held rd gone cur nk nv gc gu gl gm) H := hP
    have hD : va_D A (mw bd cr w n K V O LF 1 fed spl held rd gone cur nk nv gc gu gl gm) := hD
    refine lv_aload_n hx hb dX1_group_18 rfl (lv_at hl 0 rfl) ?_
    refine z_get C0 zt_x1 hK hP 0 rfl rfl 0 (by decide) fl_X1_30 rfl dX1_group_19 ?_
    refine lv_if_gt (tgt := 33) hx hb dX1_group_22 (by decide) (fun hz => ?_) (fun hz => False.elim (hz (by decide)))
    refine lv_iconst (v := 0) hx hb dX1_group_33 (by decide) ?_
    exact hret _ (()) _ _ _ _ hP hD hS (rfl) dX1_group_34
  · refine lv_iload_n hx hb dX1_group_5 rfl (lv_at hl 1 rfl) ?_
    refine lv_iconst (v := 3) hx hb dX1_group_6 (by decide) ?_
    refine lv_icmp_le (tgt := 14) hx hb dX1_group_7 (by decide) (fun c2 => ?_) (fun c2 => ?_)
    · exact absurd c2 (hbad.resolve_left c1)
    · refine lv_iconst (v := 1) hx hb dX1_group_10 (by decide) ?_
      refine lv_goto (tgt := 15) hx hb dX1_group_11 (by decide) ?_
      refine z_put (ty := .int) C0 zt_x1 tyX1 tyX1_ok nmX1 hK hP hD hS 0 rfl rfl 0 (by decide) fl_X1_30 rfl (by decide +kernel) rfl rfl (Nat.le_of_ble_eq_true rfl) dX1_group_15 (fun H locs hP hD hS => ?_)
      have hP : va_P D classes (mw bd cr w n K V O LF 1 fed spl held rd gone cur nk nv gc gu gl gm) H := hP
      have hD : va_D A (mw bd cr w n K V O LF 1 fed spl held rd gone cur nk nv gc gu gl gm) := hD
      refine lv_aload_n hx hb dX1_group_18 rfl (lv_at hl 0 rfl) ?_
      refine z_get C0 zt_x1 hK hP 0 rfl rfl 0 (by decide) fl_X1_30 rfl dX1_group_19 ?_
      refine lv_if_gt (tgt := 33) hx hb dX1_group_22 (by decide) (fun hz => ?_) (fun hz => False.elim (hz (by decide)))
      refine lv_iconst (v := 0) hx hb dX1_group_33 (by decide) ?_
      exact hret _ (()) _ _ _ _ hP hD hS (rfl) dX1_group_34
set_option maxHeartbeats 4000000 in
set_option maxRecDepth 100000 in
theorem m_group (l : Launch) (D : va_G) (bd : Nat → Nat) (cr : Nat → ClassId) (w n : Nat) (K V O LF : Nat → Int32) (th fed spl held rd gone cur nk nv gc gu gl gm : Int32) (what : Int32) (h1 : ¬ what < 0) (h2 : what ≤ 3) : ZI (S := Unit) l yX1_group cX1_group 2 rM_group D classes (mt cr) [.ref (bd 0), .int what] (mw bd cr w n K V O LF th fed spl held rd gone cur nk nv gc gu gl gm) (fun v _ => v = if cur = 2 then (if what = 0 then gc else if what = 1 then gu else if what = 2 then gl else gm) else 0) (fun _ => (mw bd cr w n K V O LF 0 fed spl held rd gone cur nk nv gc gu gl gm)) := by
  refine ZI.of (by decide +kernel) (Nat.le_of_ble_eq_true rfl) ?_
  intro p e s m args below meth c A Q ls C0 hK hP hD hS hA hl hret
  have hx := C0.1
  have hb := C0.2.1
  have hl : lv_has ls 2 [(0, .ref (bd 0)), (1, .int what)] := hl
  refine lv_aload_n hx hb dX1_group_0 rfl (lv_at hl 0 rfl) ?_
  refine lv_iload_n hx hb dX1_group_1 rfl (lv_at hl 1 rfl) ?_
  refine lv_if_lt (tgt := 10) hx hb dX1_group_2 (by decide) (fun hz => False.elim (h1 hz)) (fun hz => ?_)
  refine lv_iload_n hx hb dX1_group_5 rfl (lv_at hl 1 rfl) ?_
  refine lv_iconst (v := 3) hx hb dX1_group_6 (by decide) ?_
  refine lv_icmp_le (tgt := 14) hx hb dX1_group_7 (by decide) (fun hz => ?_) (fun hz => False.elim (hz h2))
  refine lv_iconst (v := 0) hx hb dX1_group_14 (by decide) ?_
  refine z_put (ty := .int) C0 zt_x1 tyX1 tyX1_ok nmX1 hK hP hD hS 0 rfl rfl 0 (by decide) fl_X1_30 rfl (by decide +kernel) rfl rfl (Nat.le_of_ble_eq_true rfl) dX1_group_15 (fun H locs hP hD hS => ?_)
  have hP : va_P D classes (mw bd cr w n K V O LF 0 fed spl held rd gone cur nk nv gc gu gl gm) H := hP
  have hD : va_D A (mw bd cr w n K V O LF 0 fed spl held rd gone cur nk nv gc gu gl gm) := hD
  refine lv_aload_n hx hb dX1_group_18 rfl (lv_at hl 0 rfl) ?_
  refine z_get C0 zt_x1 hK hP 0 rfl rfl 0 (by decide) fl_X1_30 rfl dX1_group_19 ?_
  refine lv_if_gt (tgt := 33) hx hb dX1_group_22 (by decide) (fun hz => False.elim (absurd hz (by decide))) (fun hz => ?_)
  refine lv_aload_n hx hb dX1_group_25 rfl (lv_at hl 0 rfl) ?_
  refine z_get C0 zt_x1 hK hP 0 rfl rfl 8 (by decide) fl_X1_49 rfl dX1_group_26 ?_
  refine lv_iconst (v := 2) hx hb dX1_group_29 (by decide) ?_
  refine lv_icmp_eq (tgt := 35) hx hb dX1_group_30 (by decide) (fun c1 => ?_) (fun c1 => ?_)
  · refine lv_iload_n hx hb dX1_group_35 rfl (lv_at hl 1 rfl) ?_
    refine lv_if_ne (tgt := 46) hx hb dX1_group_36 (by decide) (fun c2 => ?_) (fun c2 => ?_)
    · refine lv_iload_n hx hb dX1_group_46 rfl (lv_at hl 1 rfl) ?_
      refine lv_iconst (v := 1) hx hb dX1_group_47 (by decide) ?_
      refine lv_icmp_ne (tgt := 58) hx hb dX1_group_48 (by decide) (fun c3 => ?_) (fun c3 => ?_)
      · refine lv_iload_n hx hb dX1_group_58 rfl (lv_at hl 1 rfl) ?_
        refine lv_iconst (v := 2) hx hb dX1_group_59 (by decide) ?_
        refine lv_icmp_ne (tgt := 70) hx hb dX1_group_60 (by decide) (fun c4 => ?_) (fun c4 => ?_)
        · refine lv_aload_n hx hb dX1_group_70 rfl (lv_at hl 0 rfl) ?_
          refine z_get C0 zt_x1 hK hP 0 rfl rfl 14 (by decide) fl_X1_71 rfl dX1_group_71 ?_
          exact hret _ (()) _ _ _ _ hP hD hS (by rw [if_pos c1]; first | rw [if_pos c2] | rw [if_neg c2, if_pos c3] | rw [if_neg c2, if_neg c3, if_pos c4] | rw [if_neg c2, if_neg c3, if_neg c4]) dX1_group_74
        · refine lv_aload_n hx hb dX1_group_63 rfl (lv_at hl 0 rfl) ?_
          refine z_get C0 zt_x1 hK hP 0 rfl rfl 13 (by decide) fl_X1_68 rfl dX1_group_64 ?_
          refine lv_goto (tgt := 74) hx hb dX1_group_67 (by decide) ?_
          exact hret _ (()) _ _ _ _ hP hD hS (by rw [if_pos c1]; first | rw [if_pos c2] | rw [if_neg c2, if_pos c3] | rw [if_neg c2, if_neg c3, if_pos c4] | rw [if_neg c2, if_neg c3, if_neg c4]) dX1_group_74
      · refine lv_aload_n hx hb dX1_group_51 rfl (lv_at hl 0 rfl) ?_
        refine z_get C0 zt_x1 hK hP 0 rfl rfl 12 (by decide) fl_X1_65 rfl dX1_group_52 ?_
        refine lv_goto (tgt := 74) hx hb dX1_group_55 (by decide) ?_
        exact hret _ (()) _ _ _ _ hP hD hS (by rw [if_pos c1]; first | rw [if_pos c2] | rw [if_neg c2, if_pos c3] | rw [if_neg c2, if_neg c3, if_pos c4] | rw [if_neg c2, if_neg c3, if_neg c4]) dX1_group_74
    · refine lv_aload_n hx hb dX1_group_39 rfl (lv_at hl 0 rfl) ?_
      refine z_get C0 zt_x1 hK hP 0 rfl rfl 11 (by decide) fl_X1_62 rfl dX1_group_40 ?_
      refine lv_goto (tgt := 74) hx hb dX1_group_43 (by decide) ?_
      exact hret _ (()) _ _ _ _ hP hD hS (by rw [if_pos c1]; first | rw [if_pos c2] | rw [if_neg c2, if_pos c3] | rw [if_neg c2, if_neg c3, if_pos c4] | rw [if_neg c2, if_neg c3, if_neg c4]) dX1_group_74
  · refine lv_iconst (v := 0) hx hb dX1_group_33 (by decide) ?_
    exact hret _ (()) _ _ _ _ hP hD hS (by rw [if_neg c1]) dX1_group_34
abbrev rM_runsLeft : Room := { frames := 0, cells := 0, slots := 0, locals := 0 }
set_option maxHeartbeats 4000000 in
set_option maxRecDepth 100000 in
theorem m_runsLeft (l : Launch) (D : va_G) (bd : Nat → Nat) (cr : Nat → ClassId) (w n : Nat) (K V O LF : Nat → Int32) (th spl held rd cur nk nv gc gu gl gm : Int32) (f c0 r : Nat) (o : Nat → Nat) (hf : f ≤ 2064) (hF : xF K O f o) (hc : c0 ≤ f) (hw0 : 0 < w) (hw1 : w < 2 ^ 29) (hfr : f ≤ r * w + w) : ZI (S := (Nat → Int32)) l yX1_runsLeft cX1_runsLeft 4 rM_runsLeft D classes (mt cr) [.ref (bd 0)] (mw bd cr w n K V O LF th (nI f) spl held rd (nI c0) cur nk nv gc gu gl gm) (fun v _ => v = nI (rw_open w (rnn r f) o c0 (f - c0))) (fun L1 => (mw bd cr w n K V O L1 th (nI f) spl held rd (nI c0) cur nk nv gc gu gl gm)) := by
  refine ZI.of (by decide +kernel) (Nat.le_of_ble_eq_true rfl) ?_
  intro p e s m args below meth c A Q ls C0 hK hP hD hS hA hl hret
  have hx := C0.1
  have hb := C0.2.1
  have hl : lv_has ls 4 [(0, .ref (bd 0))] := hl
  refine lv_iconst (v := 0) hx hb dX1_runsLeft_0 (by decide) ?_
  refine lv_istore_n (lv' := [(1, .int 0), (0, .ref (bd 0))]) hx hb dX1_runsLeft_1 rfl hl (by decide) rfl (fun ls hl => ?_)
  have loop : ∀ (NN : Nat) (j : Nat) (L1 : Nat → Int32) (H : Heap) (locs : List Loc) (ls : Array Slot), (j ≤ f ∧ ∀ i, i < j → L1 i = 0) → f - j < NN → va_P D classes (mw bd cr w n K V O L1 th (nI f) spl held rd (nI c0) cur nk nv gc gu gl gm) H → va_D A (mw bd cr w n K V O L1 th (nI f) spl held rd (nI c0) cur nk nv gc gu gl gm) → va_S A s.heap H locs → lv_has ls 4 [(1, .int (nI j)), (0, .ref (bd 0))] → W p l e rM_runsLeft s m args below meth c H locs 0 0 Q (F0 m 2 ls []) := by
    intro N2
    induction N2 with
    | zero => intro j L1 H locs ls hI hN; exact absurd hN (Nat.not_lt_zero _)
    | succ N2 ih2 =>
      intro j L1 H locs ls hI hN2 hP hD hS hl
      obtain ⟨i1, i2⟩ := hI
      refine lv_iload_n hx hb dX1_runsLeft_2 rfl (lv_at hl 0 rfl) ?_
      refine lv_aload_n hx hb dX1_runsLeft_3 rfl (lv_at hl 1 rfl) ?_
      refine z_get C0 zt_x1 hK hP 0 rfl rfl 3 (by decide) fl_X1_33 rfl dX1_runsLeft_4 ?_
      refine lv_icmp_ge (tgt := 23) hx hb dX1_runsLeft_7 (by decide) (fun c1 => ?_) (fun c1 => ?_)
      · have c1 := zle c1 (by omega) (by omega)
        have ej : j = f := by omega
        rw [ej] at i2
        refine lv_iconst (v := 0) hx hb dX1_runsLeft_23 (by decide) ?_
        refine lv_istore_n (lv' := [(1, .int 0), (0, .ref (bd 0))]) hx hb dX1_runsLeft_24 rfl hl (by decide) rfl (fun ls hl => ?_)
        refine lv_aload_n hx hb dX1_runsLeft_25 rfl (lv_at hl 1 rfl) ?_
        refine z_get C0 zt_x1 hK hP 0 rfl rfl 7 (by decide) fl_X1_46 rfl dX1_runsLeft_26 ?_
        refine lv_istore_n (lv' := [(2, .int (nI c0)), (1, .int 0), (0, .ref (bd 0))]) hx hb dX1_runsLeft_29 rfl hl (by decide) rfl (fun ls hl => ?_)
        have loop : ∀ (NN : Nat) (mm : Nat) (L2 : Nat → Int32) (H : Heap) (locs : List Loc) (ls : Array Slot), (c0 + mm ≤ f ∧ ∀ j, j < f → L2 j = if 0 < px_cnt (rw_P w j) o c0 mm then 1 else 0) → f - mm < NN → va_P D classes (mw bd cr w n K V O L2 th (nI f) spl held rd (nI c0) cur nk nv gc gu gl gm) H → va_D A (mw bd cr w n K V O L2 th (nI f) spl held rd (nI c0) cur nk nv gc gu gl gm) → va_S A s.heap H locs → lv_has ls 4 [(2, .int (nI (c0 + mm))), (1, .int (nI (rw_open w (rnn r f) o c0 mm))), (0, .ref (bd 0))] → W p l e rM_runsLeft s m args below meth c H locs 0 0 Q (F0 m 30 ls []) := by
          intro N30
          induction N30 with
          | zero => intro mm L2 H locs ls hI hN; exact absurd hN (Nat.not_lt_zero _)
          | succ N30 ih30 =>
            intro mm L2 H locs ls hI hN30 hP hD hS hl
            obtain ⟨k1, k2⟩ := hI
            refine lv_iload_n hx hb dX1_runsLeft_30 rfl (lv_at hl 0 rfl) ?_
            refine lv_aload_n hx hb dX1_runsLeft_31 rfl (lv_at hl 2 rfl) ?_
            refine z_get C0 zt_x1 hK hP 0 rfl rfl 3 (by decide) fl_X1_33 rfl dX1_runsLeft_32 ?_
            refine lv_icmp_ge (tgt := 80) hx hb dX1_runsLeft_35 (by decide) (fun c2 => ?_) (fun c2 => ?_)
            · have c2 := zle c2 (by omega) (by omega)
              have em : mm = f - c0 := by omega
              refine lv_iload_n hx hb dX1_runsLeft_80 rfl (lv_at hl 1 rfl) ?_
              exact hret _ (L2) _ _ _ _ hP hD hS (by rw [em]) dX1_runsLeft_81
            · have c2 := znle c2 (by omega) (by omega)
              have hoc : o (c0 + mm) < f := hF.rng (by omega)
              have hdv : o (c0 + mm) / w ≤ o (c0 + mm) := Nat.div_le_self _ _
              have e0 : rnn r f = r + 1 := by unfold rnn; rw [if_neg (by omega)]
              have hjr : o (c0 + mm) / w < rnn r f := by rw [e0]; exact (Nat.div_lt_iff_lt_mul hw0).mpr (by rw [Nat.succ_mul]; omega)
              obtain ⟨u1, u2⟩ := rw_more (w := w) (rn := rnn r f) (c := c0) (m := mm) (o := o) hjr
              have hk2 := k2 (o (c0 + mm) / w) (by omega)
              refine lv_aload_n hx hb dX1_runsLeft_38 rfl (lv_at hl 2 rfl) ?_
              refine z_get C0 zt_x1 hK hP 0 rfl rfl 17 (by decide) fl_X1_16 rfl dX1_runsLeft_39 ?_
              refine lv_iload_n hx hb dX1_runsLeft_42 rfl (lv_at hl 0 rfl) ?_
              refine z_ild C0 hK hP 3 2 rfl rfl (j := (c0 + mm)) (by omega) (by decide) dX1_runsLeft_43 ?_
              refine z_eq (show (O (c0 + mm)) = nI (o (c0 + mm)) from hF.1 _ (by omega)) ?_
              refine lv_aload_n hx hb dX1_runsLeft_44 rfl (lv_at hl 2 rfl) ?_
              refine z_get C0 zt_x1 hK hP 0 rfl rfl 1 (by decide) fl_X1_23 rfl dX1_runsLeft_45 ?_
              refine lv_idiv hx hb dX1_runsLeft_48 (nI_ne0 hw0 (by omega)) ?_
              refine z_eq (show ((nI (o (c0 + mm))) / (nI w)) = nI (o (c0 + mm) / w) from pk_div (by omega) hw0 (by omega)) ?_
              refine lv_istore_n (lv' := [(3, .int (nI (o (c0 + mm) / w))), (2, .int (nI (c0 + mm))), (1, .int (nI (rw_open w (rnn r f) o c0 mm))), (0, .ref (bd 0))]) hx hb dX1_runsLeft_49 rfl hl (by decide) rfl (fun ls hl => ?_)
              refine lv_aload_n hx hb dX1_runsLeft_50 rfl (lv_at hl 3 rfl) ?_
              refine z_get C0 zt_x1 hK hP 0 rfl rfl 18 (by decide) fl_X1_19 rfl dX1_runsLeft_51 ?_
              refine lv_iload_n hx hb dX1_runsLeft_54 rfl (lv_at hl 0 rfl) ?_
              refine z_bld C0 hK hP 4 3 rfl rfl (j := (o (c0 + mm) / w)) (by omega) (by decide) dX1_runsLeft_55 ?_
              refine lv_if_eq (tgt := 63) hx hb dX1_runsLeft_56 (by decide) (fun c3 => ?_) (fun c3 => ?_)
              · have hcz : px_cnt (rw_P w (o (c0 + mm) / w)) o c0 mm = 0 := by
                  rw [hk2] at c3
                  rcases Nat.eq_zero_or_pos (px_cnt (rw_P w (o (c0 + mm) / w)) o c0 mm) with q | q
                  · exact q
                  · rw [if_pos q] at c3
                    exact absurd c3 (by decide)
                rw [if_pos hcz] at u2
                refine lv_iload_n hx hb dX1_runsLeft_63 rfl (lv_at hl 2 rfl) ?_
                refine lv_iconst (v := 1) hx hb dX1_runsLeft_64 (by decide) ?_
                refine lv_iadd hx hb dX1_runsLeft_65 ?_
                refine z_eq (show ((nI (rw_open w (rnn r f) o c0 mm)) + 1) = nI (rw_open w (rnn r f) o c0 (mm + 1)) from by rw [u2]; exact nI_1 _) ?_
                refine lv_istore_n (lv' := [(1, .int (nI (rw_open w (rnn r f) o c0 (mm + 1)))), (3, .int (nI (o (c0 + mm) / w))), (2, .int (nI (c0 + mm))), (0, .ref (bd 0))]) hx hb dX1_runsLeft_66 rfl hl (by decide) rfl (fun ls hl => ?_)
                refine lv_aload_n hx hb dX1_runsLeft_67 rfl (lv_at hl 3 rfl) ?_
                refine z_get C0 zt_x1 hK hP 0 rfl rfl 18 (by decide) fl_X1_19 rfl dX1_runsLeft_68 ?_
                refine lv_iload_n hx hb dX1_runsLeft_71 rfl (lv_at hl 1 rfl) ?_
                refine lv_iconst (v := 1) hx hb dX1_runsLeft_72 (by decide) ?_
                refine z_bst C0 hK hP hD hS 4 3 rfl rfl (j := (o (c0 + mm) / w)) (by omega) (by decide) (by rfl) dX1_runsLeft_73 (fun H locs hP hD hS => ?_)
                have hP : va_P D classes (mw bd cr w n K V O (upd L2 (o (c0 + mm) / w) 1) th (nI f) spl held rd (nI c0) cur nk nv gc gu gl gm) H := hP
                have hD : va_D A (mw bd cr w n K V O (upd L2 (o (c0 + mm) / w) 1) th (nI f) spl held rd (nI c0) cur nk nv gc gu gl gm) := hD
                refine lv_iinc (v := nI (c0 + (mm + 1))) (lv' := [(2, .int (nI (c0 + (mm + 1)))), (1, .int (nI (rw_open w (rnn r f) o c0 (mm + 1)))), (3, .int (nI (o (c0 + mm) / w))), (0, .ref (bd 0))]) hx hb dX1_runsLeft_74 hl (k := 2) rfl (show (nI (c0 + mm)) + Int32.ofInt (1) = nI (c0 + (mm + 1)) from (congrArg ((nI (c0 + mm)) + ·) (by decide : Int32.ofInt (1) = 1)).trans (nI_1 _)) (by decide) rfl (fun ls hl => ?_)
                refine lv_goto (tgt := 30) hx hb dX1_runsLeft_77 (by decide) ?_
                exact ih30 (mm + 1) (upd L2 (o (c0 + mm) / w) 1) _ _ _ (⟨by omega, fun j hj => by rw [u1 j]; by_cases q : j = o (c0 + mm) / w; (rw [q, upd_eq, if_pos rfl, if_pos (by omega)]); (rw [upd_ne q, if_neg q, Nat.add_zero]; exact k2 j hj)⟩) (by omega) hP hD hS (lv_sub hl [0, 1, 3] rfl)
              · have hcz : ¬ px_cnt (rw_P w (o (c0 + mm) / w)) o c0 mm = 0 := by
                  intro q
                  rw [hk2, if_neg (by omega)] at c3
                  exact c3 rfl
                rw [if_neg hcz, Nat.add_zero] at u2
                refine lv_iload_n hx hb dX1_runsLeft_59 rfl (lv_at hl 2 rfl) ?_
                refine z_eq (show (nI (rw_open w (rnn r f) o c0 mm)) = nI (rw_open w (rnn r f) o c0 (mm + 1)) from by rw [u2]; rfl) ?_
                refine lv_goto (tgt := 66) hx hb dX1_runsLeft_60 (by decide) ?_
                refine lv_istore_n (lv' := [(1, .int (nI (rw_open w (rnn r f) o c0 (mm + 1)))), (3, .int (nI (o (c0 + mm) / w))), (2, .int (nI (c0 + mm))), (0, .ref (bd 0))]) hx hb dX1_runsLeft_66 rfl hl (by decide) rfl (fun ls hl => ?_)
                refine lv_aload_n hx hb dX1_runsLeft_67 rfl (lv_at hl 3 rfl) ?_
                refine z_get C0 zt_x1 hK hP 0 rfl rfl 18 (by decide) fl_X1_19 rfl dX1_runsLeft_68 ?_
                refine lv_iload_n hx hb dX1_runsLeft_71 rfl (lv_at hl 1 rfl) ?_
                refine lv_iconst (v := 1) hx hb dX1_runsLeft_72 (by decide) ?_
                refine z_bst C0 hK hP hD hS 4 3 rfl rfl (j := (o (c0 + mm) / w)) (by omega) (by decide) (by rfl) dX1_runsLeft_73 (fun H locs hP hD hS => ?_)
                have hP : va_P D classes (mw bd cr w n K V O (upd L2 (o (c0 + mm) / w) 1) th (nI f) spl held rd (nI c0) cur nk nv gc gu gl gm) H := hP
                have hD : va_D A (mw bd cr w n K V O (upd L2 (o (c0 + mm) / w) 1) th (nI f) spl held rd (nI c0) cur nk nv gc gu gl gm) := hD
                refine lv_iinc (v := nI (c0 + (mm + 1))) (lv' := [(2, .int (nI (c0 + (mm + 1)))), (1, .int (nI (rw_open w (rnn r f) o c0 (mm + 1)))), (3, .int (nI (o (c0 + mm) / w))), (0, .ref (bd 0))]) hx hb dX1_runsLeft_74 hl (k := 2) rfl (show (nI (c0 + mm)) + Int32.ofInt (1) = nI (c0 + (mm + 1)) from (congrArg ((nI (c0 + mm)) + ·) (by decide : Int32.ofInt (1) = 1)).trans (nI_1 _)) (by decide) rfl (fun ls hl => ?_)
                refine lv_goto (tgt := 30) hx hb dX1_runsLeft_77 (by decide) ?_
                exact ih30 (mm + 1) (upd L2 (o (c0 + mm) / w) 1) _ _ _ (⟨by omega, fun j hj => by rw [u1 j]; by_cases q : j = o (c0 + mm) / w; (rw [q, upd_eq, if_pos rfl, if_pos (by omega)]); (rw [upd_ne q, if_neg q, Nat.add_zero]; exact k2 j hj)⟩) (by omega) hP hD hS (lv_sub hl [0, 1, 3] rfl)
        exact loop _ 0 L1 _ _ _ (⟨by omega, fun j hj => by rw [i2 j hj]; rfl⟩) (Nat.lt_succ_self _) hP hD hS (lv_sub hl [0, 1, 2] (by rw [rw_open_0]; rfl))
      · have c1 := znle c1 (by omega) (by omega)
        refine lv_aload_n hx hb dX1_runsLeft_10 rfl (lv_at hl 1 rfl) ?_
        refine z_get C0 zt_x1 hK hP 0 rfl rfl 18 (by decide) fl_X1_19 rfl dX1_runsLeft_11 ?_
        refine lv_iload_n hx hb dX1_runsLeft_14 rfl (lv_at hl 0 rfl) ?_
        refine lv_iconst (v := 0) hx hb dX1_runsLeft_15 (by decide) ?_
        refine z_bst C0 hK hP hD hS 4 3 rfl rfl (j := j) (by omega) (by decide) (by rfl) dX1_runsLeft_16 (fun H locs hP hD hS => ?_)
        have hP : va_P D classes (mw bd cr w n K V O (upd L1 j 0) th (nI f) spl held rd (nI c0) cur nk nv gc gu gl gm) H := hP
        have hD : va_D A (mw bd cr w n K V O (upd L1 j 0) th (nI f) spl held rd (nI c0) cur nk nv gc gu gl gm) := hD
        refine lv_iinc (v := nI (j + 1)) (lv' := [(1, .int (nI (j + 1))), (0, .ref (bd 0))]) hx hb dX1_runsLeft_17 hl (k := 0) rfl (show (nI j) + Int32.ofInt (1) = nI (j + 1) from (congrArg ((nI j) + ·) (by decide : Int32.ofInt (1) = 1)).trans (nI_1 j)) (by decide) rfl (fun ls hl => ?_)
        refine lv_goto (tgt := 2) hx hb dX1_runsLeft_20 (by decide) ?_
        exact ih2 (j + 1) (upd L1 j 0) _ _ _ (⟨by omega, fun i h => by rcases Nat.lt_or_ge i j with q | q; (rw [upd_ne (by omega)]; exact i2 i q); (rw [show i = j by omega, upd_eq])⟩) (by omega) hP hD hS (lv_sub hl [0, 1] rfl)
  exact loop _ 0 LF _ _ _ (⟨Nat.zero_le _, fun i h => absurd h (Nat.not_lt_zero i)⟩) (Nat.lt_succ_self _) hP hD hS (lv_sub hl [0, 1] (rfl))
abbrev rM_count : Room := { frames := 1, cells := 0, slots := 0, locals := 23 }
set_option maxHeartbeats 4000000 in
set_option maxRecDepth 100000 in
theorem m_count_x (l : Launch) (D : va_G) (bd : Nat → Nat) (cr : Nat → ClassId) (w n : Nat) (K V O LF : Nat → Int32) (th fed spl held rd gone cur nk nv gc gu gl gm : Int32) (what : Int32) (hbad : what < 0 ∨ ¬ what ≤ 3) : ZI (S := Unit) l yX1_count cX1_count 2 rM_count D classes (mt cr) [.ref (bd 0), .int what] (mw bd cr w n K V O LF th fed spl held rd gone cur nk nv gc gu gl gm) (fun v _ => v = 0) (fun _ => (mw bd cr w n K V O LF 1 fed spl held rd gone cur nk nv gc gu gl gm)) := by
  refine ZI.of (by decide +kernel) (Nat.le_of_ble_eq_true rfl) ?_
  intro p e s m args below meth c A Q ls C0 hK hP hD hS hA hl hret
  have hx := C0.1
  have hb := C0.2.1
  have hl : lv_has ls 2 [(0, .ref (bd 0)), (1, .int what)] := hl
  refine lv_aload_n hx hb dX1_count_0 rfl (lv_at hl 0 rfl) ?_
  refine lv_iload_n hx hb dX1_count_1 rfl (lv_at hl 1 rfl) ?_
  refine lv_if_lt (tgt := 10) hx hb dX1_count_2 (by decide) (fun c1 => ?_) (fun c1 => ?_)
  · refine lv_iconst (v := 1) hx hb dX1_count_10 (by decide) ?_
    refine lv_goto (tgt := 15) hx hb dX1_count_11 (by decide) ?_
    refine z_put (ty := .int) C0 zt_x1 tyX1 tyX1_ok nmX1 hK hP hD hS 0 rfl rfl 0 (by decide) fl_X1_30 rfl (by decide +kernel) rfl rfl (Nat.le_of_ble_eq_true rfl) dX1_count_15 (fun H locs hP hD hS => ?_)
    have hP : va_P D classes (mw bd cr w n K V O LF 1 fed spl held rd gone cur nk nv gc gu gl gm) H := hP
    have hD : va_D A (mw bd cr w n K V O LF 1 fed spl held rd gone cur nk nv gc gu gl gm) := hD
    refine lv_aload_n hx hb dX1_count_18 rfl (lv_at hl 0 rfl) ?_
    refine z_get C0 zt_x1 hK hP 0 rfl rfl 0 (by decide) fl_X1_30 rfl dX1_count_19 ?_
    refine lv_if_le (tgt := 27) hx hb dX1_count_22 (by decide) (fun hz => False.elim (absurd hz (by decide))) (fun hz => ?_)
    refine lv_iconst (v := 0) hx hb dX1_count_25 (by decide) ?_
    exact hret _ (()) _ _ _ _ hP hD hS (rfl) dX1_count_26
  · refine lv_iload_n hx hb dX1_count_5 rfl (lv_at hl 1 rfl) ?_
    refine lv_iconst (v := 3) hx hb dX1_count_6 (by decide) ?_
    refine lv_icmp_le (tgt := 14) hx hb dX1_count_7 (by decide) (fun c2 => ?_) (fun c2 => ?_)
    · exact absurd c2 (hbad.resolve_left c1)
    · refine lv_iconst (v := 1) hx hb dX1_count_10 (by decide) ?_
      refine lv_goto (tgt := 15) hx hb dX1_count_11 (by decide) ?_
      refine z_put (ty := .int) C0 zt_x1 tyX1 tyX1_ok nmX1 hK hP hD hS 0 rfl rfl 0 (by decide) fl_X1_30 rfl (by decide +kernel) rfl rfl (Nat.le_of_ble_eq_true rfl) dX1_count_15 (fun H locs hP hD hS => ?_)
      have hP : va_P D classes (mw bd cr w n K V O LF 1 fed spl held rd gone cur nk nv gc gu gl gm) H := hP
      have hD : va_D A (mw bd cr w n K V O LF 1 fed spl held rd gone cur nk nv gc gu gl gm) := hD
      refine lv_aload_n hx hb dX1_count_18 rfl (lv_at hl 0 rfl) ?_
      refine z_get C0 zt_x1 hK hP 0 rfl rfl 0 (by decide) fl_X1_30 rfl dX1_count_19 ?_
      refine lv_if_le (tgt := 27) hx hb dX1_count_22 (by decide) (fun hz => False.elim (absurd hz (by decide))) (fun hz => ?_)
      refine lv_iconst (v := 0) hx hb dX1_count_25 (by decide) ?_
      exact hret _ (()) _ _ _ _ hP hD hS (rfl) dX1_count_26
set_option maxHeartbeats 4000000 in
set_option maxRecDepth 100000 in
theorem m_count_0 (l : Launch) (D : va_G) (bd : Nat → Nat) (cr : Nat → ClassId) (w n : Nat) (K V O LF : Nat → Int32) (th fed spl held rd gone cur nk nv gc gu gl gm : Int32)   : ZI (S := Unit) l yX1_count cX1_count 2 rM_count D classes (mt cr) [.ref (bd 0), .int 0] (mw bd cr w n K V O LF th fed spl held rd gone cur nk nv gc gu gl gm) (fun v _ => v = fed) (fun _ => (mw bd cr w n K V O LF 0 fed spl held rd gone cur nk nv gc gu gl gm)) := by
  refine ZI.of (by decide +kernel) (Nat.le_of_ble_eq_true rfl) ?_
  intro p e s m args below meth c A Q ls C0 hK hP hD hS hA hl hret
  have hx := C0.1
  have hb := C0.2.1
  have hl : lv_has ls 2 [(0, .ref (bd 0)), (1, .int 0)] := hl
  refine lv_aload_n hx hb dX1_count_0 rfl (lv_at hl 0 rfl) ?_
  refine lv_iload_n hx hb dX1_count_1 rfl (lv_at hl 1 rfl) ?_
  refine lv_if_lt (tgt := 10) hx hb dX1_count_2 (by decide) (fun hz => False.elim (absurd hz (by decide))) (fun hz => ?_)
  refine lv_iload_n hx hb dX1_count_5 rfl (lv_at hl 1 rfl) ?_
  refine lv_iconst (v := 3) hx hb dX1_count_6 (by decide) ?_
  refine lv_icmp_le (tgt := 14) hx hb dX1_count_7 (by decide) (fun hz => ?_) (fun hz => False.elim (hz (by decide)))
  refine lv_iconst (v := 0) hx hb dX1_count_14 (by decide) ?_
  refine z_put (ty := .int) C0 zt_x1 tyX1 tyX1_ok nmX1 hK hP hD hS 0 rfl rfl 0 (by decide) fl_X1_30 rfl (by decide +kernel) rfl rfl (Nat.le_of_ble_eq_true rfl) dX1_count_15 (fun H locs hP hD hS => ?_)
  have hP : va_P D classes (mw bd cr w n K V O LF 0 fed spl held rd gone cur nk nv gc gu gl gm) H := hP
  have hD : va_D A (mw bd cr w n K V O LF 0 fed spl held rd gone cur nk nv gc gu gl gm) := hD
  refine lv_aload_n hx hb dX1_count_18 rfl (lv_at hl 0 rfl) ?_
  refine z_get C0 zt_x1 hK hP 0 rfl rfl 0 (by decide) fl_X1_30 rfl dX1_count_19 ?_
  refine lv_if_le (tgt := 27) hx hb dX1_count_22 (by decide) (fun hz => ?_) (fun hz => False.elim (hz (by decide)))
  refine lv_iload_n hx hb dX1_count_27 rfl (lv_at hl 1 rfl) ?_
  refine lv_tableIn (tgt := 56) hx hb dX1_count_28 (by decide) (by decide) rfl (by decide) ?_
  refine lv_aload_n hx hb dX1_count_56 rfl (lv_at hl 0 rfl) ?_
  refine z_get C0 zt_x1 hK hP 0 rfl rfl 3 (by decide) fl_X1_33 rfl dX1_count_57 ?_
  exact hret _ (()) _ _ _ _ hP hD hS (rfl) dX1_count_60
set_option maxHeartbeats 4000000 in
set_option maxRecDepth 100000 in
theorem m_count_1 (l : Launch) (D : va_G) (bd : Nat → Nat) (cr : Nat → ClassId) (w n : Nat) (K V O LF : Nat → Int32) (th fed spl held rd gone cur nk nv gc gu gl gm : Int32)   : ZI (S := Unit) l yX1_count cX1_count 2 rM_count D classes (mt cr) [.ref (bd 0), .int 1] (mw bd cr w n K V O LF th fed spl held rd gone cur nk nv gc gu gl gm) (fun v _ => v = spl * nI w) (fun _ => (mw bd cr w n K V O LF 0 fed spl held rd gone cur nk nv gc gu gl gm)) := by
  refine ZI.of (by decide +kernel) (Nat.le_of_ble_eq_true rfl) ?_
  intro p e s m args below meth c A Q ls C0 hK hP hD hS hA hl hret
  have hx := C0.1
  have hb := C0.2.1
  have hl : lv_has ls 2 [(0, .ref (bd 0)), (1, .int 1)] := hl
  refine lv_aload_n hx hb dX1_count_0 rfl (lv_at hl 0 rfl) ?_
  refine lv_iload_n hx hb dX1_count_1 rfl (lv_at hl 1 rfl) ?_
  refine lv_if_lt (tgt := 10) hx hb dX1_count_2 (by decide) (fun hz => False.elim (absurd hz (by decide))) (fun hz => ?_)
  refine lv_iload_n hx hb dX1_count_5 rfl (lv_at hl 1 rfl) ?_
  refine lv_iconst (v := 3) hx hb dX1_count_6 (by decide) ?_
  refine lv_icmp_le (tgt := 14) hx hb dX1_count_7 (by decide) (fun hz => ?_) (fun hz => False.elim (hz (by decide)))
  refine lv_iconst (v := 0) hx hb dX1_count_14 (by decide) ?_
  refine z_put (ty := .int) C0 zt_x1 tyX1 tyX1_ok nmX1 hK hP hD hS 0 rfl rfl 0 (by decide) fl_X1_30 rfl (by decide +kernel) rfl rfl (Nat.le_of_ble_eq_true rfl) dX1_count_15 (fun H locs hP hD hS => ?_)
  have hP : va_P D classes (mw bd cr w n K V O LF 0 fed spl held rd gone cur nk nv gc gu gl gm) H := hP
  have hD : va_D A (mw bd cr w n K V O LF 0 fed spl held rd gone cur nk nv gc gu gl gm) := hD
  refine lv_aload_n hx hb dX1_count_18 rfl (lv_at hl 0 rfl) ?_
  refine z_get C0 zt_x1 hK hP 0 rfl rfl 0 (by decide) fl_X1_30 rfl dX1_count_19 ?_
  refine lv_if_le (tgt := 27) hx hb dX1_count_22 (by decide) (fun hz => ?_) (fun hz => False.elim (hz (by decide)))
  refine lv_iload_n hx hb dX1_count_27 rfl (lv_at hl 1 rfl) ?_
  refine lv_tableIn (tgt := 61) hx hb dX1_count_28 (by decide) (by decide) rfl (by decide) ?_
  refine lv_aload_n hx hb dX1_count_61 rfl (lv_at hl 0 rfl) ?_
  refine z_get C0 zt_x1 hK hP 0 rfl rfl 4 (by decide) fl_X1_36 rfl dX1_count_62 ?_
  refine lv_aload_n hx hb dX1_count_65 rfl (lv_at hl 0 rfl) ?_
  refine z_get C0 zt_x1 hK hP 0 rfl rfl 1 (by decide) fl_X1_23 rfl dX1_count_66 ?_
  refine lv_imul hx hb dX1_count_69 ?_
  exact hret _ (()) _ _ _ _ hP hD hS (rfl) dX1_count_70
set_option maxHeartbeats 4000000 in
set_option maxRecDepth 100000 in
theorem m_count_2 (l : Launch) (D : va_G) (bd : Nat → Nat) (cr : Nat → ClassId) (w n : Nat) (K V O LF : Nat → Int32) (th fed spl held rd gone cur nk nv gc gu gl gm : Int32)   : ZI (S := Unit) l yX1_count cX1_count 2 rM_count D classes (mt cr) [.ref (bd 0), .int 2] (mw bd cr w n K V O LF th fed spl held rd gone cur nk nv gc gu gl gm) (fun v _ => v = gone) (fun _ => (mw bd cr w n K V O LF 0 fed spl held rd gone cur nk nv gc gu gl gm)) := by
  refine ZI.of (by decide +kernel) (Nat.le_of_ble_eq_true rfl) ?_
  intro p e s m args below meth c A Q ls C0 hK hP hD hS hA hl hret
  have hx := C0.1
  have hb := C0.2.1
  have hl : lv_has ls 2 [(0, .ref (bd 0)), (1, .int 2)] := hl
  refine lv_aload_n hx hb dX1_count_0 rfl (lv_at hl 0 rfl) ?_
  refine lv_iload_n hx hb dX1_count_1 rfl (lv_at hl 1 rfl) ?_
  refine lv_if_lt (tgt := 10) hx hb dX1_count_2 (by decide) (fun hz => False.elim (absurd hz (by decide))) (fun hz => ?_)
  refine lv_iload_n hx hb dX1_count_5 rfl (lv_at hl 1 rfl) ?_
  refine lv_iconst (v := 3) hx hb dX1_count_6 (by decide) ?_
  refine lv_icmp_le (tgt := 14) hx hb dX1_count_7 (by decide) (fun hz => ?_) (fun hz => False.elim (hz (by decide)))
  refine lv_iconst (v := 0) hx hb dX1_count_14 (by decide) ?_
  refine z_put (ty := .int) C0 zt_x1 tyX1 tyX1_ok nmX1 hK hP hD hS 0 rfl rfl 0 (by decide) fl_X1_30 rfl (by decide +kernel) rfl rfl (Nat.le_of_ble_eq_true rfl) dX1_count_15 (fun H locs hP hD hS => ?_)
  have hP : va_P D classes (mw bd cr w n K V O LF 0 fed spl held rd gone cur nk nv gc gu gl gm) H := hP
  have hD : va_D A (mw bd cr w n K V O LF 0 fed spl held rd gone cur nk nv gc gu gl gm) := hD
  refine lv_aload_n hx hb dX1_count_18 rfl (lv_at hl 0 rfl) ?_
  refine z_get C0 zt_x1 hK hP 0 rfl rfl 0 (by decide) fl_X1_30 rfl dX1_count_19 ?_
  refine lv_if_le (tgt := 27) hx hb dX1_count_22 (by decide) (fun hz => ?_) (fun hz => False.elim (hz (by decide)))
  refine lv_iload_n hx hb dX1_count_27 rfl (lv_at hl 1 rfl) ?_
  refine lv_tableIn (tgt := 71) hx hb dX1_count_28 (by decide) (by decide) rfl (by decide) ?_
  refine lv_aload_n hx hb dX1_count_71 rfl (lv_at hl 0 rfl) ?_
  refine z_get C0 zt_x1 hK hP 0 rfl rfl 7 (by decide) fl_X1_46 rfl dX1_count_72 ?_
  exact hret _ (()) _ _ _ _ hP hD hS (rfl) dX1_count_75
set_option maxHeartbeats 4000000 in
set_option maxRecDepth 100000 in
theorem m_count_3u (l : Launch) (D : va_G) (bd : Nat → Nat) (cr : Nat → ClassId) (w n : Nat) (K V O LF : Nat → Int32) (th fed spl held gone cur nk nv gc gu gl gm : Int32)   : ZI (S := Unit) l yX1_count cX1_count 2 rM_count D classes (mt cr) [.ref (bd 0), .int 3] (mw bd cr w n K V O LF th fed spl held 0 gone cur nk nv gc gu gl gm) (fun v _ => v = spl) (fun _ => (mw bd cr w n K V O LF 0 fed spl held 0 gone cur nk nv gc gu gl gm)) := by
  refine ZI.of (by decide +kernel) (Nat.le_of_ble_eq_true rfl) ?_
  intro p e s m args below meth c A Q ls C0 hK hP hD hS hA hl hret
  have hx := C0.1
  have hb := C0.2.1
  have hl : lv_has ls 2 [(0, .ref (bd 0)), (1, .int 3)] := hl
  refine lv_aload_n hx hb dX1_count_0 rfl (lv_at hl 0 rfl) ?_
  refine lv_iload_n hx hb dX1_count_1 rfl (lv_at hl 1 rfl) ?_
  refine lv_if_lt (tgt := 10) hx hb dX1_count_2 (by decide) (fun hz => False.elim (absurd hz (by decide))) (fun hz => ?_)
  refine lv_iload_n hx hb dX1_count_5 rfl (lv_at hl 1 rfl) ?_
  refine lv_iconst (v := 3) hx hb dX1_count_6 (by decide) ?_
  refine lv_icmp_le (tgt := 14) hx hb dX1_count_7 (by decide) (fun hz => ?_) (fun hz => False.elim (hz (by decide)))
  refine lv_iconst (v := 0) hx hb dX1_count_14 (by decide) ?_
  refine z_put (ty := .int) C0 zt_x1 tyX1 tyX1_ok nmX1 hK hP hD hS 0 rfl rfl 0 (by decide) fl_X1_30 rfl (by decide +kernel) rfl rfl (Nat.le_of_ble_eq_true rfl) dX1_count_15 (fun H locs hP hD hS => ?_)
  have hP : va_P D classes (mw bd cr w n K V O LF 0 fed spl held 0 gone cur nk nv gc gu gl gm) H := hP
  have hD : va_D A (mw bd cr w n K V O LF 0 fed spl held 0 gone cur nk nv gc gu gl gm) := hD
  refine lv_aload_n hx hb dX1_count_18 rfl (lv_at hl 0 rfl) ?_
  refine z_get C0 zt_x1 hK hP 0 rfl rfl 0 (by decide) fl_X1_30 rfl dX1_count_19 ?_
  refine lv_if_le (tgt := 27) hx hb dX1_count_22 (by decide) (fun hz => ?_) (fun hz => False.elim (hz (by decide)))
  refine lv_iload_n hx hb dX1_count_27 rfl (lv_at hl 1 rfl) ?_
  refine lv_tableOut (tgt := 76) hx hb dX1_count_28 (by decide) (by decide) ?_
  refine lv_aload_n hx hb dX1_count_76 rfl (lv_at hl 0 rfl) ?_
  refine z_get C0 zt_x1 hK hP 0 rfl rfl 6 (by decide) fl_X1_42 rfl dX1_count_77 ?_
  refine lv_if_eq (tgt := 90) hx hb dX1_count_80 (by decide) (fun hz => ?_) (fun hz => False.elim (hz rfl))
  refine lv_aload_n hx hb dX1_count_90 rfl (lv_at hl 0 rfl) ?_
  refine z_get C0 zt_x1 hK hP 0 rfl rfl 4 (by decide) fl_X1_36 rfl dX1_count_91 ?_
  exact hret _ (()) _ _ _ _ hP hD hS (rfl) dX1_count_94
set_option maxHeartbeats 4000000 in
set_option maxRecDepth 100000 in
theorem m_count_3s (l : Launch) (D : va_G) (bd : Nat → Nat) (cr : Nat → ClassId) (w n : Nat) (K V O LF : Nat → Int32) (th spl held cur nk nv gc gu gl gm : Int32) (f c0 r : Nat) (o : Nat → Nat) (hf : f ≤ 2064) (hF : xF K O f o) (hc : c0 ≤ f) (hw0 : 0 < w) (hw1 : w < 2 ^ 29) (hfr : f ≤ r * w + w) : ZI (S := (Nat → Int32)) l yX1_count cX1_count 2 rM_count D classes (mt cr) [.ref (bd 0), .int 3] (mw bd cr w n K V O LF th (nI f) spl held 1 (nI c0) cur nk nv gc gu gl gm) (fun v _ => v = nI (rw_open w (rnn r f) o c0 (f - c0))) (fun L1 => (mw bd cr w n K V O L1 0 (nI f) spl held 1 (nI c0) cur nk nv gc gu gl gm)) := by
  refine ZI.of (by decide +kernel) (Nat.le_of_ble_eq_true rfl) ?_
  intro p e s m args below meth c A Q ls C0 hK hP hD hS hA hl hret
  have hx := C0.1
  have hb := C0.2.1
  have hl : lv_has ls 2 [(0, .ref (bd 0)), (1, .int 3)] := hl
  refine lv_aload_n hx hb dX1_count_0 rfl (lv_at hl 0 rfl) ?_
  refine lv_iload_n hx hb dX1_count_1 rfl (lv_at hl 1 rfl) ?_
  refine lv_if_lt (tgt := 10) hx hb dX1_count_2 (by decide) (fun hz => False.elim (absurd hz (by decide))) (fun hz => ?_)
  refine lv_iload_n hx hb dX1_count_5 rfl (lv_at hl 1 rfl) ?_
  refine lv_iconst (v := 3) hx hb dX1_count_6 (by decide) ?_
  refine lv_icmp_le (tgt := 14) hx hb dX1_count_7 (by decide) (fun hz => ?_) (fun hz => False.elim (hz (by decide)))
  refine lv_iconst (v := 0) hx hb dX1_count_14 (by decide) ?_
  refine z_put (ty := .int) C0 zt_x1 tyX1 tyX1_ok nmX1 hK hP hD hS 0 rfl rfl 0 (by decide) fl_X1_30 rfl (by decide +kernel) rfl rfl (Nat.le_of_ble_eq_true rfl) dX1_count_15 (fun H locs hP hD hS => ?_)
  have hP : va_P D classes (mw bd cr w n K V O LF 0 (nI f) spl held 1 (nI c0) cur nk nv gc gu gl gm) H := hP
  have hD : va_D A (mw bd cr w n K V O LF 0 (nI f) spl held 1 (nI c0) cur nk nv gc gu gl gm) := hD
  refine lv_aload_n hx hb dX1_count_18 rfl (lv_at hl 0 rfl) ?_
  refine z_get C0 zt_x1 hK hP 0 rfl rfl 0 (by decide) fl_X1_30 rfl dX1_count_19 ?_
  refine lv_if_le (tgt := 27) hx hb dX1_count_22 (by decide) (fun hz => ?_) (fun hz => False.elim (hz (by decide)))
  refine lv_iload_n hx hb dX1_count_27 rfl (lv_at hl 1 rfl) ?_
  refine lv_tableOut (tgt := 76) hx hb dX1_count_28 (by decide) (by decide) ?_
  refine lv_aload_n hx hb dX1_count_76 rfl (lv_at hl 0 rfl) ?_
  refine z_get C0 zt_x1 hK hP 0 rfl rfl 6 (by decide) fl_X1_42 rfl dX1_count_77 ?_
  refine lv_if_eq (tgt := 90) hx hb dX1_count_80 (by decide) (fun hz => False.elim (absurd hz (by decide))) (fun hz => ?_)
  refine lv_aload_n hx hb dX1_count_83 rfl (lv_at hl 0 rfl) ?_
  refine zi_callV0 (As := []) (rest := []) (q0 := 0) (ci := 1) C0 (m_runsLeft l D bd cr w n K V O LF 0 spl held 1 cur nk nv gc gu gl gm f c0 r o hf hF hc hw0 hw1 hfr) zv_X1_X1_runsLeft ⟨by decide, by decide⟩ ⟨rfl, rfl⟩ rfl hK hP hD hS hA rfl rfl rfl hl.1 rfl (Nat.le_of_ble_eq_true rfl) dX1_count_84 ⟨Nat.zero_le _, Nat.zero_le _⟩ (fun r1 L1 H locs hj hP hD hS => ?_)
  have hP : va_P D classes (mw bd cr w n K V O L1 0 (nI f) spl held 1 (nI c0) cur nk nv gc gu gl gm) H := hP
  have hD : va_D A (mw bd cr w n K V O L1 0 (nI f) spl held 1 (nI c0) cur nk nv gc gu gl gm) := hD
  refine lv_goto (tgt := 94) hx hb dX1_count_87 (by decide) ?_
  exact hret _ (L1) _ _ _ _ hP hD hS (hj) dX1_count_94
end
section
abbrev rM_init : Room := { frames := 1, cells := 4, slots := 8256, locals := 12 }
set_option maxHeartbeats 4000000 in
set_option maxRecDepth 100000 in
theorem m_init (l : Launch) (D : va_G) (h0 : Nat) (w0 s0 : Int32) (w sp nr n : Nat) (hw : (if w0 < 1 then 1 else if 64 < w0 then 64 else w0) = nI w) (hs : (if s0 < 1 then 1 else if 2000 < s0 then 2000 else s0) = nI sp) (hw0 : 0 < w) (hw1 : w ≤ 64) (hs1 : sp ≤ 2000) (hnr : nr = sp / w + 1) (hnn : n = w * nr) (hn : n ≤ 2064) : ZN (S := ((Nat → Nat) × (Nat → ClassId))) l yX1_init cX1_init 5 rM_init D classes [.ref h0, .int w0, .int s0] [(h0, .inr (1, [.int 0, .int 0, .int 0, .int 0, .int 0, .int 0, .int 0, .int 0, .int 0, .int 0, .int 0, .int 0, .int 0, .int 0, .int 0, .null, .null, .null, .null]))] (fun u => u.1 0 = h0) (fun u => mw u.1 u.2 w n (fun _ => 0) (fun _ => 0) (fun _ => 0) (fun _ => 0) 0 0 0 0 0 0 0 0 0 0 0 0 0) (fun u => mt u.2) := by
  refine ZN.of (by decide +kernel) (Nat.le_of_ble_eq_true rfl) ?_
  intro p e s m args below meth c A Q ls C0 hname hK hP hD hS hA hl hret
  have hx := C0.1
  have hb := C0.2.1
  have hl : lv_has ls 5 [(0, .ref h0), (1, .int w0), (2, .int s0)] := hl
  refine lv_aload_n hx hb dX1_init_0 rfl (lv_at hl 0 rfl) ?_
  refine W.objInit hx hb C0.2.2.2.1 (C0.2.2.2.2 _ zk_ol1) (C0.2.2.2.2 _ zk_oi) (C0.2.2.2.2 _ zk_oc) rfl (hl.1.trans C0.2.2.1.symm) rfl dX1_init_1 (by decide) (Nat.le_of_ble_eq_true rfl) ?_
  refine W.eq (g2 := F0 m 4 ls []) rfl ?_
  refine lv_aload_n hx hb dX1_init_4 rfl (lv_at hl 0 rfl) ?_
  refine lv_sipush (v := 2064) hx hb dX1_init_5 (by decide) ?_
  refine z_eq (show (2064) = nI 2064 from rfl) ?_
  refine z_newi (n := 2064) C0 zk_ai hK hP hD hS hA (by omega) (show 0 + 1 ≤ 4 by decide) (show 0 + 2064 ≤ 8256 by omega) dX1_init_8 (fun q1 e1 H hK hP hD hS => ?_)
  have hP : va_P D classes [(h0, .inr (1, [.int 0, .int 0, .int 0, .int 0, .int 0, .int 0, .int 0, .int 0, .int 0, .int 0, .int 0, .int 0, .int 0, .int 0, .int 0, .null, .null, .null, .null])), (q1, .inl (e1, 2064, .inl (fun _ => 0)))] H := hP
  have hD : va_D A [(h0, .inr (1, [.int 0, .int 0, .int 0, .int 0, .int 0, .int 0, .int 0, .int 0, .int 0, .int 0, .int 0, .int 0, .int 0, .int 0, .int 0, .null, .null, .null, .null])), (q1, .inl (e1, 2064, .inl (fun _ => 0)))] := hD
  have hK : va_K D classes [(e1, .int)] s := hK
  refine W.widen (k := 1) (n := 2064) (by omega) (by omega) ?_
  refine z_putF (ty := .array .int) C0 zt_x1 tyX1 tyX1_ok nmX1 hK hP hD hS hname 0 rfl rfl 15 (by decide) fl_X1_7 rfl rfl (by decide +kernel) rfl rfl (Nat.le_of_ble_eq_true rfl) dX1_init_10 (fun H locs hP hD hS => ?_)
  have hP : va_P D classes [(h0, .inr (1, [.int 0, .int 0, .int 0, .int 0, .int 0, .int 0, .int 0, .int 0, .int 0, .int 0, .int 0, .int 0, .int 0, .int 0, .int 0, .ref q1, .null, .null, .null])), (q1, .inl (e1, 2064, .inl (fun _ => 0)))] H := hP
  have hD : va_D A [(h0, .inr (1, [.int 0, .int 0, .int 0, .int 0, .int 0, .int 0, .int 0, .int 0, .int 0, .int 0, .int 0, .int 0, .int 0, .int 0, .int 0, .ref q1, .null, .null, .null])), (q1, .inl (e1, 2064, .inl (fun _ => 0)))] := hD
  refine lv_aload_n hx hb dX1_init_13 rfl (lv_at hl 0 rfl) ?_
  refine lv_sipush (v := 2064) hx hb dX1_init_14 (by decide) ?_
  refine z_eq (show (2064) = nI 2064 from rfl) ?_
  refine z_newi (n := 2064) C0 zk_ai hK hP hD hS hA (by omega) (show 1 + 1 ≤ 4 by decide) (show 2064 + 2064 ≤ 8256 by omega) dX1_init_17 (fun q2 e2 H hK hP hD hS => ?_)
  have hP : va_P D classes [(h0, .inr (1, [.int 0, .int 0, .int 0, .int 0, .int 0, .int 0, .int 0, .int 0, .int 0, .int 0, .int 0, .int 0, .int 0, .int 0, .int 0, .ref q1, .null, .null, .null])), (q1, .inl (e1, 2064, .inl (fun _ => 0))), (q2, .inl (e2, 2064, .inl (fun _ => 0)))] H := hP
  have hD : va_D A [(h0, .inr (1, [.int 0, .int 0, .int 0, .int 0, .int 0, .int 0, .int 0, .int 0, .int 0, .int 0, .int 0, .int 0, .int 0, .int 0, .int 0, .ref q1, .null, .null, .null])), (q1, .inl (e1, 2064, .inl (fun _ => 0))), (q2, .inl (e2, 2064, .inl (fun _ => 0)))] := hD
  have hK : va_K D classes [(e1, .int), (e2, .int)] s := hK
  refine W.widen (k := 2) (n := 4128) (by omega) (by omega) ?_
  refine z_putF (ty := .array .int) C0 zt_x1 tyX1 tyX1_ok nmX1 hK hP hD hS hname 0 rfl rfl 16 (by decide) fl_X1_13 rfl rfl (by decide +kernel) rfl rfl (Nat.le_of_ble_eq_true rfl) dX1_init_19 (fun H locs hP hD hS => ?_)
  have hP : va_P D classes [(h0, .inr (1, [.int 0, .int 0, .int 0, .int 0, .int 0, .int 0, .int 0, .int 0, .int 0, .int 0, .int 0, .int 0, .int 0, .int 0, .int 0, .ref q1, .ref q2, .null, .null])), (q1, .inl (e1, 2064, .inl (fun _ => 0))), (q2, .inl (e2, 2064, .inl (fun _ => 0)))] H := hP
  have hD : va_D A [(h0, .inr (1, [.int 0, .int 0, .int 0, .int 0, .int 0, .int 0, .int 0, .int 0, .int 0, .int 0, .int 0, .int 0, .int 0, .int 0, .int 0, .ref q1, .ref q2, .null, .null])), (q1, .inl (e1, 2064, .inl (fun _ => 0))), (q2, .inl (e2, 2064, .inl (fun _ => 0)))] := hD
  refine lv_aload_n hx hb dX1_init_22 rfl (lv_at hl 0 rfl) ?_
  refine lv_sipush (v := 2064) hx hb dX1_init_23 (by decide) ?_
  refine z_eq (show (2064) = nI 2064 from rfl) ?_
  refine z_newi (n := 2064) C0 zk_ai hK hP hD hS hA (by omega) (show 2 + 1 ≤ 4 by decide) (show 4128 + 2064 ≤ 8256 by omega) dX1_init_26 (fun q3 e3 H hK hP hD hS => ?_)
  have hP : va_P D classes [(h0, .inr (1, [.int 0, .int 0, .int 0, .int 0, .int 0, .int 0, .int 0, .int 0, .int 0, .int 0, .int 0, .int 0, .int 0, .int 0, .int 0, .ref q1, .ref q2, .null, .null])), (q1, .inl (e1, 2064, .inl (fun _ => 0))), (q2, .inl (e2, 2064, .inl (fun _ => 0))), (q3, .inl (e3, 2064, .inl (fun _ => 0)))] H := hP
  have hD : va_D A [(h0, .inr (1, [.int 0, .int 0, .int 0, .int 0, .int 0, .int 0, .int 0, .int 0, .int 0, .int 0, .int 0, .int 0, .int 0, .int 0, .int 0, .ref q1, .ref q2, .null, .null])), (q1, .inl (e1, 2064, .inl (fun _ => 0))), (q2, .inl (e2, 2064, .inl (fun _ => 0))), (q3, .inl (e3, 2064, .inl (fun _ => 0)))] := hD
  have hK : va_K D classes [(e1, .int), (e2, .int), (e3, .int)] s := hK
  refine W.widen (k := 3) (n := 6192) (by omega) (by omega) ?_
  refine z_putF (ty := .array .int) C0 zt_x1 tyX1 tyX1_ok nmX1 hK hP hD hS hname 0 rfl rfl 17 (by decide) fl_X1_16 rfl rfl (by decide +kernel) rfl rfl (Nat.le_of_ble_eq_true rfl) dX1_init_28 (fun H locs hP hD hS => ?_)
  have hP : va_P D classes [(h0, .inr (1, [.int 0, .int 0, .int 0, .int 0, .int 0, .int 0, .int 0, .int 0, .int 0, .int 0, .int 0, .int 0, .int 0, .int 0, .int 0, .ref q1, .ref q2, .ref q3, .null])), (q1, .inl (e1, 2064, .inl (fun _ => 0))), (q2, .inl (e2, 2064, .inl (fun _ => 0))), (q3, .inl (e3, 2064, .inl (fun _ => 0)))] H := hP
  have hD : va_D A [(h0, .inr (1, [.int 0, .int 0, .int 0, .int 0, .int 0, .int 0, .int 0, .int 0, .int 0, .int 0, .int 0, .int 0, .int 0, .int 0, .int 0, .ref q1, .ref q2, .ref q3, .null])), (q1, .inl (e1, 2064, .inl (fun _ => 0))), (q2, .inl (e2, 2064, .inl (fun _ => 0))), (q3, .inl (e3, 2064, .inl (fun _ => 0)))] := hD
  refine lv_aload_n hx hb dX1_init_31 rfl (lv_at hl 0 rfl) ?_
  refine lv_sipush (v := 2064) hx hb dX1_init_32 (by decide) ?_
  refine z_eq (show (2064) = nI 2064 from rfl) ?_
  refine z_newz (n := 2064) C0 zk_az hK hP hD hS hA (by omega) (show 3 + 1 ≤ 4 by decide) (show 6192 + 2064 ≤ 8256 by omega) dX1_init_35 (fun q4 e4 H hK hP hD hS => ?_)
  have hP : va_P D classes [(h0, .inr (1, [.int 0, .int 0, .int 0, .int 0, .int 0, .int 0, .int 0, .int 0, .int 0, .int 0, .int 0, .int 0, .int 0, .int 0, .int 0, .ref q1, .ref q2, .ref q3, .null])), (q1, .inl (e1, 2064, .inl (fun _ => 0))), (q2, .inl (e2, 2064, .inl (fun _ => 0))), (q3, .inl (e3, 2064, .inl (fun _ => 0))), (q4, .inl (e4, 2064, .inl (fun _ => 0)))] H := hP
  have hD : va_D A [(h0, .inr (1, [.int 0, .int 0, .int 0, .int 0, .int 0, .int 0, .int 0, .int 0, .int 0, .int 0, .int 0, .int 0, .int 0, .int 0, .int 0, .ref q1, .ref q2, .ref q3, .null])), (q1, .inl (e1, 2064, .inl (fun _ => 0))), (q2, .inl (e2, 2064, .inl (fun _ => 0))), (q3, .inl (e3, 2064, .inl (fun _ => 0))), (q4, .inl (e4, 2064, .inl (fun _ => 0)))] := hD
  have hK : va_K D classes [(e1, .int), (e2, .int), (e3, .int), (e4, .boolean)] s := hK
  refine W.widen (k := 4) (n := 8256) (by omega) (by omega) ?_
  refine z_putF (ty := .array .boolean) C0 zt_x1 tyX1 tyX1_ok nmX1 hK hP hD hS hname 0 rfl rfl 18 (by decide) fl_X1_19 rfl rfl (by decide +kernel) rfl rfl (Nat.le_of_ble_eq_true rfl) dX1_init_37 (fun H locs hP hD hS => ?_)
  have hP : va_P D classes [(h0, .inr (1, [.int 0, .int 0, .int 0, .int 0, .int 0, .int 0, .int 0, .int 0, .int 0, .int 0, .int 0, .int 0, .int 0, .int 0, .int 0, .ref q1, .ref q2, .ref q3, .ref q4])), (q1, .inl (e1, 2064, .inl (fun _ => 0))), (q2, .inl (e2, 2064, .inl (fun _ => 0))), (q3, .inl (e3, 2064, .inl (fun _ => 0))), (q4, .inl (e4, 2064, .inl (fun _ => 0)))] H := hP
  have hD : va_D A [(h0, .inr (1, [.int 0, .int 0, .int 0, .int 0, .int 0, .int 0, .int 0, .int 0, .int 0, .int 0, .int 0, .int 0, .int 0, .int 0, .int 0, .ref q1, .ref q2, .ref q3, .ref q4])), (q1, .inl (e1, 2064, .inl (fun _ => 0))), (q2, .inl (e2, 2064, .inl (fun _ => 0))), (q3, .inl (e3, 2064, .inl (fun _ => 0))), (q4, .inl (e4, 2064, .inl (fun _ => 0)))] := hD
  refine lv_iload_n hx hb dX1_init_40 rfl (lv_at hl 1 rfl) ?_
  refine lv_iconst (v := 1) hx hb dX1_init_41 (by decide) ?_
  refine lv_icmp_ge (tgt := 49) hx hb dX1_init_42 (by decide) (fun c1 => ?_) (fun c1 => ?_)
  · refine lv_iload_n hx hb dX1_init_49 rfl (lv_at hl 1 rfl) ?_
    refine lv_bipush (v := 64) hx hb dX1_init_50 (by decide) ?_
    refine lv_icmp_le (tgt := 60) hx hb dX1_init_52 (by decide) (fun c2 => ?_) (fun c2 => ?_)
    · refine lv_iload_n hx hb dX1_init_60 rfl (lv_at hl 1 rfl) ?_
      refine z_eq (show (w0) = nI w from by first | (rw [← hw, if_pos (Int32.not_le.mp c1)]) | (rw [← hw, if_neg (Int32.not_lt.mpr c1), if_pos (Int32.not_le.mp c2)]) | (rw [← hw, if_neg (Int32.not_lt.mpr c1), if_neg (Int32.not_lt.mpr c2)])) ?_
      refine lv_istore_n (lv' := [(3, .int (nI w)), (0, .ref h0), (1, .int w0), (2, .int s0)]) hx hb dX1_init_61 rfl hl (by decide) rfl (fun ls hl => ?_)
      refine lv_iload_n hx hb dX1_init_62 rfl (lv_at hl 3 rfl) ?_
      refine lv_iconst (v := 1) hx hb dX1_init_63 (by decide) ?_
      refine lv_icmp_ge (tgt := 71) hx hb dX1_init_64 (by decide) (fun c3 => ?_) (fun c3 => ?_)
      · refine lv_iload_n hx hb dX1_init_71 rfl (lv_at hl 3 rfl) ?_
        refine lv_sipush (v := 2000) hx hb dX1_init_72 (by decide) ?_
        refine lv_icmp_le (tgt := 84) hx hb dX1_init_75 (by decide) (fun c4 => ?_) (fun c4 => ?_)
        · refine lv_iload_n hx hb dX1_init_84 rfl (lv_at hl 3 rfl) ?_
          refine z_eq (show (s0) = nI sp from by first | (rw [← hs, if_pos (Int32.not_le.mp c3)]) | (rw [← hs, if_neg (Int32.not_lt.mpr c3), if_pos (Int32.not_le.mp c4)]) | (rw [← hs, if_neg (Int32.not_lt.mpr c3), if_neg (Int32.not_lt.mpr c4)])) ?_
          refine lv_istore (lv' := [(4, .int (nI sp)), (3, .int (nI w)), (0, .ref h0), (1, .int w0), (2, .int s0)]) hx hb dX1_init_85 hl (by decide) rfl (fun ls hl => ?_)
          refine lv_aload_n hx hb dX1_init_87 rfl (lv_at hl 2 rfl) ?_
          refine lv_iload_n hx hb dX1_init_88 rfl (lv_at hl 1 rfl) ?_
          refine z_putF (ty := .int) C0 zt_x1 tyX1 tyX1_ok nmX1 hK hP hD hS hname 0 rfl rfl 1 (by decide) fl_X1_23 rfl rfl (by decide +kernel) rfl rfl (Nat.le_of_ble_eq_true rfl) dX1_init_89 (fun H locs hP hD hS => ?_)
          have hP : va_P D classes [(h0, .inr (1, [.int 0, .int (nI w), .int 0, .int 0, .int 0, .int 0, .int 0, .int 0, .int 0, .int 0, .int 0, .int 0, .int 0, .int 0, .int 0, .ref q1, .ref q2, .ref q3, .ref q4])), (q1, .inl (e1, 2064, .inl (fun _ => 0))), (q2, .inl (e2, 2064, .inl (fun _ => 0))), (q3, .inl (e3, 2064, .inl (fun _ => 0))), (q4, .inl (e4, 2064, .inl (fun _ => 0)))] H := hP
          have hD : va_D A [(h0, .inr (1, [.int 0, .int (nI w), .int 0, .int 0, .int 0, .int 0, .int 0, .int 0, .int 0, .int 0, .int 0, .int 0, .int 0, .int 0, .int 0, .ref q1, .ref q2, .ref q3, .ref q4])), (q1, .inl (e1, 2064, .inl (fun _ => 0))), (q2, .inl (e2, 2064, .inl (fun _ => 0))), (q3, .inl (e3, 2064, .inl (fun _ => 0))), (q4, .inl (e4, 2064, .inl (fun _ => 0)))] := hD
          refine lv_aload_n hx hb dX1_init_92 rfl (lv_at hl 2 rfl) ?_
          refine lv_iload_n hx hb dX1_init_93 rfl (lv_at hl 1 rfl) ?_
          refine lv_iload hx hb dX1_init_94 (lv_at hl 0 rfl) ?_
          refine lv_iload_n hx hb dX1_init_96 rfl (lv_at hl 1 rfl) ?_
          refine lv_idiv hx hb dX1_init_97 (nI_ne0 hw0 (by omega)) ?_
          refine z_eq (show ((nI sp) / (nI w)) = nI (sp / w) from pk_div (by omega) hw0 (by omega)) ?_
          refine lv_iconst (v := 1) hx hb dX1_init_98 (by decide) ?_
          refine lv_iadd hx hb dX1_init_99 ?_
          refine z_eq (show ((nI (sp / w)) + 1) = nI nr from by rw [hnr]; exact nI_1 _) ?_
          refine lv_imul hx hb dX1_init_100 ?_
          refine z_eq (show ((nI w) * (nI nr)) = nI n from by rw [hnn]; exact pk_mul _ _) ?_
          refine z_putF (ty := .int) C0 zt_x1 tyX1 tyX1_ok nmX1 hK hP hD hS hname 0 rfl rfl 2 (by decide) fl_X1_27 rfl rfl (by decide +kernel) rfl rfl (Nat.le_of_ble_eq_true rfl) dX1_init_101 (fun H locs hP hD hS => ?_)
          have hP : va_P D classes [(h0, .inr (1, [.int 0, .int (nI w), .int (nI n), .int 0, .int 0, .int 0, .int 0, .int 0, .int 0, .int 0, .int 0, .int 0, .int 0, .int 0, .int 0, .ref q1, .ref q2, .ref q3, .ref q4])), (q1, .inl (e1, 2064, .inl (fun _ => 0))), (q2, .inl (e2, 2064, .inl (fun _ => 0))), (q3, .inl (e3, 2064, .inl (fun _ => 0))), (q4, .inl (e4, 2064, .inl (fun _ => 0)))] H := hP
          have hD : va_D A [(h0, .inr (1, [.int 0, .int (nI w), .int (nI n), .int 0, .int 0, .int 0, .int 0, .int 0, .int 0, .int 0, .int 0, .int 0, .int 0, .int 0, .int 0, .ref q1, .ref q2, .ref q3, .ref q4])), (q1, .inl (e1, 2064, .inl (fun _ => 0))), (q2, .inl (e2, 2064, .inl (fun _ => 0))), (q3, .inl (e3, 2064, .inl (fun _ => 0))), (q4, .inl (e4, 2064, .inl (fun _ => 0)))] := hD
          exact hret ((fun k => match k with | 0 => h0 | 1 => q1 | 2 => q2 | 3 => q3 | _ => q4, fun k => match k with | 1 => e1 | 2 => e2 | 3 => e3 | _ => e4)) _ _ _ _ hK hP hD hS (rfl) dX1_init_104
        · refine lv_sipush (v := 2000) hx hb dX1_init_78 (by decide) ?_
          refine z_eq (show (2000) = nI sp from by first | (rw [← hs, if_pos (Int32.not_le.mp c3)]) | (rw [← hs, if_neg (Int32.not_lt.mpr c3), if_pos (Int32.not_le.mp c4)]) | (rw [← hs, if_neg (Int32.not_lt.mpr c3), if_neg (Int32.not_lt.mpr c4)])) ?_
          refine lv_goto (tgt := 85) hx hb dX1_init_81 (by decide) ?_
          refine lv_istore (lv' := [(4, .int (nI sp)), (3, .int (nI w)), (0, .ref h0), (1, .int w0), (2, .int s0)]) hx hb dX1_init_85 hl (by decide) rfl (fun ls hl => ?_)
          refine lv_aload_n hx hb dX1_init_87 rfl (lv_at hl 2 rfl) ?_
          refine lv_iload_n hx hb dX1_init_88 rfl (lv_at hl 1 rfl) ?_
          refine z_putF (ty := .int) C0 zt_x1 tyX1 tyX1_ok nmX1 hK hP hD hS hname 0 rfl rfl 1 (by decide) fl_X1_23 rfl rfl (by decide +kernel) rfl rfl (Nat.le_of_ble_eq_true rfl) dX1_init_89 (fun H locs hP hD hS => ?_)
          have hP : va_P D classes [(h0, .inr (1, [.int 0, .int (nI w), .int 0, .int 0, .int 0, .int 0, .int 0, .int 0, .int 0, .int 0, .int 0, .int 0, .int 0, .int 0, .int 0, .ref q1, .ref q2, .ref q3, .ref q4])), (q1, .inl (e1, 2064, .inl (fun _ => 0))), (q2, .inl (e2, 2064, .inl (fun _ => 0))), (q3, .inl (e3, 2064, .inl (fun _ => 0))), (q4, .inl (e4, 2064, .inl (fun _ => 0)))] H := hP
          have hD : va_D A [(h0, .inr (1, [.int 0, .int (nI w), .int 0, .int 0, .int 0, .int 0, .int 0, .int 0, .int 0, .int 0, .int 0, .int 0, .int 0, .int 0, .int 0, .ref q1, .ref q2, .ref q3, .ref q4])), (q1, .inl (e1, 2064, .inl (fun _ => 0))), (q2, .inl (e2, 2064, .inl (fun _ => 0))), (q3, .inl (e3, 2064, .inl (fun _ => 0))), (q4, .inl (e4, 2064, .inl (fun _ => 0)))] := hD
          refine lv_aload_n hx hb dX1_init_92 rfl (lv_at hl 2 rfl) ?_
          refine lv_iload_n hx hb dX1_init_93 rfl (lv_at hl 1 rfl) ?_
          refine lv_iload hx hb dX1_init_94 (lv_at hl 0 rfl) ?_
          refine lv_iload_n hx hb dX1_init_96 rfl (lv_at hl 1 rfl) ?_
          refine lv_idiv hx hb dX1_init_97 (nI_ne0 hw0 (by omega)) ?_
          refine z_eq (show ((nI sp) / (nI w)) = nI (sp / w) from pk_div (by omega) hw0 (by omega)) ?_
          refine lv_iconst (v := 1) hx hb dX1_init_98 (by decide) ?_
          refine lv_iadd hx hb dX1_init_99 ?_
          refine z_eq (show ((nI (sp / w)) + 1) = nI nr from by rw [hnr]; exact nI_1 _) ?_
          refine lv_imul hx hb dX1_init_100 ?_
          refine z_eq (show ((nI w) * (nI nr)) = nI n from by rw [hnn]; exact pk_mul _ _) ?_
          refine z_putF (ty := .int) C0 zt_x1 tyX1 tyX1_ok nmX1 hK hP hD hS hname 0 rfl rfl 2 (by decide) fl_X1_27 rfl rfl (by decide +kernel) rfl rfl (Nat.le_of_ble_eq_true rfl) dX1_init_101 (fun H locs hP hD hS => ?_)
          have hP : va_P D classes [(h0, .inr (1, [.int 0, .int (nI w), .int (nI n), .int 0, .int 0, .int 0, .int 0, .int 0, .int 0, .int 0, .int 0, .int 0, .int 0, .int 0, .int 0, .ref q1, .ref q2, .ref q3, .ref q4])), (q1, .inl (e1, 2064, .inl (fun _ => 0))), (q2, .inl (e2, 2064, .inl (fun _ => 0))), (q3, .inl (e3, 2064, .inl (fun _ => 0))), (q4, .inl (e4, 2064, .inl (fun _ => 0)))] H := hP
          have hD : va_D A [(h0, .inr (1, [.int 0, .int (nI w), .int (nI n), .int 0, .int 0, .int 0, .int 0, .int 0, .int 0, .int 0, .int 0, .int 0, .int 0, .int 0, .int 0, .ref q1, .ref q2, .ref q3, .ref q4])), (q1, .inl (e1, 2064, .inl (fun _ => 0))), (q2, .inl (e2, 2064, .inl (fun _ => 0))), (q3, .inl (e3, 2064, .inl (fun _ => 0))), (q4, .inl (e4, 2064, .inl (fun _ => 0)))] := hD
          exact hret ((fun k => match k with | 0 => h0 | 1 => q1 | 2 => q2 | 3 => q3 | _ => q4, fun k => match k with | 1 => e1 | 2 => e2 | 3 => e3 | _ => e4)) _ _ _ _ hK hP hD hS (rfl) dX1_init_104
      · refine lv_iconst (v := 1) hx hb dX1_init_67 (by decide) ?_
        refine z_eq (show (1) = nI sp from by first | (rw [← hs, if_pos (Int32.not_le.mp c3)]) | (rw [← hs, if_neg (Int32.not_lt.mpr c3), if_pos (Int32.not_le.mp c4)]) | (rw [← hs, if_neg (Int32.not_lt.mpr c3), if_neg (Int32.not_lt.mpr c4)])) ?_
        refine lv_goto (tgt := 85) hx hb dX1_init_68 (by decide) ?_
        refine lv_istore (lv' := [(4, .int (nI sp)), (3, .int (nI w)), (0, .ref h0), (1, .int w0), (2, .int s0)]) hx hb dX1_init_85 hl (by decide) rfl (fun ls hl => ?_)
        refine lv_aload_n hx hb dX1_init_87 rfl (lv_at hl 2 rfl) ?_
        refine lv_iload_n hx hb dX1_init_88 rfl (lv_at hl 1 rfl) ?_
        refine z_putF (ty := .int) C0 zt_x1 tyX1 tyX1_ok nmX1 hK hP hD hS hname 0 rfl rfl 1 (by decide) fl_X1_23 rfl rfl (by decide +kernel) rfl rfl (Nat.le_of_ble_eq_true rfl) dX1_init_89 (fun H locs hP hD hS => ?_)
        have hP : va_P D classes [(h0, .inr (1, [.int 0, .int (nI w), .int 0, .int 0, .int 0, .int 0, .int 0, .int 0, .int 0, .int 0, .int 0, .int 0, .int 0, .int 0, .int 0, .ref q1, .ref q2, .ref q3, .ref q4])), (q1, .inl (e1, 2064, .inl (fun _ => 0))), (q2, .inl (e2, 2064, .inl (fun _ => 0))), (q3, .inl (e3, 2064, .inl (fun _ => 0))), (q4, .inl (e4, 2064, .inl (fun _ => 0)))] H := hP
        have hD : va_D A [(h0, .inr (1, [.int 0, .int (nI w), .int 0, .int 0, .int 0, .int 0, .int 0, .int 0, .int 0, .int 0, .int 0, .int 0, .int 0, .int 0, .int 0, .ref q1, .ref q2, .ref q3, .ref q4])), (q1, .inl (e1, 2064, .inl (fun _ => 0))), (q2, .inl (e2, 2064, .inl (fun _ => 0))), (q3, .inl (e3, 2064, .inl (fun _ => 0))), (q4, .inl (e4, 2064, .inl (fun _ => 0)))] := hD
        refine lv_aload_n hx hb dX1_init_92 rfl (lv_at hl 2 rfl) ?_
        refine lv_iload_n hx hb dX1_init_93 rfl (lv_at hl 1 rfl) ?_
        refine lv_iload hx hb dX1_init_94 (lv_at hl 0 rfl) ?_
        refine lv_iload_n hx hb dX1_init_96 rfl (lv_at hl 1 rfl) ?_
        refine lv_idiv hx hb dX1_init_97 (nI_ne0 hw0 (by omega)) ?_
        refine z_eq (show ((nI sp) / (nI w)) = nI (sp / w) from pk_div (by omega) hw0 (by omega)) ?_
        refine lv_iconst (v := 1) hx hb dX1_init_98 (by decide) ?_
        refine lv_iadd hx hb dX1_init_99 ?_
        refine z_eq (show ((nI (sp / w)) + 1) = nI nr from by rw [hnr]; exact nI_1 _) ?_
        refine lv_imul hx hb dX1_init_100 ?_
        refine z_eq (show ((nI w) * (nI nr)) = nI n from by rw [hnn]; exact pk_mul _ _) ?_
        refine z_putF (ty := .int) C0 zt_x1 tyX1 tyX1_ok nmX1 hK hP hD hS hname 0 rfl rfl 2 (by decide) fl_X1_27 rfl rfl (by decide +kernel) rfl rfl (Nat.le_of_ble_eq_true rfl) dX1_init_101 (fun H locs hP hD hS => ?_)
        have hP : va_P D classes [(h0, .inr (1, [.int 0, .int (nI w), .int (nI n), .int 0, .int 0, .int 0, .int 0, .int 0, .int 0, .int 0, .int 0, .int 0, .int 0, .int 0, .int 0, .ref q1, .ref q2, .ref q3, .ref q4])), (q1, .inl (e1, 2064, .inl (fun _ => 0))), (q2, .inl (e2, 2064, .inl (fun _ => 0))), (q3, .inl (e3, 2064, .inl (fun _ => 0))), (q4, .inl (e4, 2064, .inl (fun _ => 0)))] H := hP
        have hD : va_D A [(h0, .inr (1, [.int 0, .int (nI w), .int (nI n), .int 0, .int 0, .int 0, .int 0, .int 0, .int 0, .int 0, .int 0, .int 0, .int 0, .int 0, .int 0, .ref q1, .ref q2, .ref q3, .ref q4])), (q1, .inl (e1, 2064, .inl (fun _ => 0))), (q2, .inl (e2, 2064, .inl (fun _ => 0))), (q3, .inl (e3, 2064, .inl (fun _ => 0))), (q4, .inl (e4, 2064, .inl (fun _ => 0)))] := hD
        exact hret ((fun k => match k with | 0 => h0 | 1 => q1 | 2 => q2 | 3 => q3 | _ => q4, fun k => match k with | 1 => e1 | 2 => e2 | 3 => e3 | _ => e4)) _ _ _ _ hK hP hD hS (rfl) dX1_init_104
    · refine lv_bipush (v := 64) hx hb dX1_init_55 (by decide) ?_
      refine z_eq (show (64) = nI w from by first | (rw [← hw, if_pos (Int32.not_le.mp c1)]) | (rw [← hw, if_neg (Int32.not_lt.mpr c1), if_pos (Int32.not_le.mp c2)]) | (rw [← hw, if_neg (Int32.not_lt.mpr c1), if_neg (Int32.not_lt.mpr c2)])) ?_
      refine lv_goto (tgt := 61) hx hb dX1_init_57 (by decide) ?_
      refine lv_istore_n (lv' := [(3, .int (nI w)), (0, .ref h0), (1, .int w0), (2, .int s0)]) hx hb dX1_init_61 rfl hl (by decide) rfl (fun ls hl => ?_)
      refine lv_iload_n hx hb dX1_init_62 rfl (lv_at hl 3 rfl) ?_
      refine lv_iconst (v := 1) hx hb dX1_init_63 (by decide) ?_
      refine lv_icmp_ge (tgt := 71) hx hb dX1_init_64 (by decide) (fun c3 => ?_) (fun c3 => ?_)
      · refine lv_iload_n hx hb dX1_init_71 rfl (lv_at hl 3 rfl) ?_
        refine lv_sipush (v := 2000) hx hb dX1_init_72 (by decide) ?_
        refine lv_icmp_le (tgt := 84) hx hb dX1_init_75 (by decide) (fun c4 => ?_) (fun c4 => ?_)
        · refine lv_iload_n hx hb dX1_init_84 rfl (lv_at hl 3 rfl) ?_
          refine z_eq (show (s0) = nI sp from by first | (rw [← hs, if_pos (Int32.not_le.mp c3)]) | (rw [← hs, if_neg (Int32.not_lt.mpr c3), if_pos (Int32.not_le.mp c4)]) | (rw [← hs, if_neg (Int32.not_lt.mpr c3), if_neg (Int32.not_lt.mpr c4)])) ?_
          refine lv_istore (lv' := [(4, .int (nI sp)), (3, .int (nI w)), (0, .ref h0), (1, .int w0), (2, .int s0)]) hx hb dX1_init_85 hl (by decide) rfl (fun ls hl => ?_)
          refine lv_aload_n hx hb dX1_init_87 rfl (lv_at hl 2 rfl) ?_
          refine lv_iload_n hx hb dX1_init_88 rfl (lv_at hl 1 rfl) ?_
          refine z_putF (ty := .int) C0 zt_x1 tyX1 tyX1_ok nmX1 hK hP hD hS hname 0 rfl rfl 1 (by decide) fl_X1_23 rfl rfl (by decide +kernel) rfl rfl (Nat.le_of_ble_eq_true rfl) dX1_init_89 (fun H locs hP hD hS => ?_)
          have hP : va_P D classes [(h0, .inr (1, [.int 0, .int (nI w), .int 0, .int 0, .int 0, .int 0, .int 0, .int 0, .int 0, .int 0, .int 0, .int 0, .int 0, .int 0, .int 0, .ref q1, .ref q2, .ref q3, .ref q4])), (q1, .inl (e1, 2064, .inl (fun _ => 0))), (q2, .inl (e2, 2064, .inl (fun _ => 0))), (q3, .inl (e3, 2064, .inl (fun _ => 0))), (q4, .inl (e4, 2064, .inl (fun _ => 0)))] H := hP
          have hD : va_D A [(h0, .inr (1, [.int 0, .int (nI w), .int 0, .int 0, .int 0, .int 0, .int 0, .int 0, .int 0, .int 0, .int 0, .int 0, .int 0, .int 0, .int 0, .ref q1, .ref q2, .ref q3, .ref q4])), (q1, .inl (e1, 2064, .inl (fun _ => 0))), (q2, .inl (e2, 2064, .inl (fun _ => 0))), (q3, .inl (e3, 2064, .inl (fun _ => 0))), (q4, .inl (e4, 2064, .inl (fun _ => 0)))] := hD
          refine lv_aload_n hx hb dX1_init_92 rfl (lv_at hl 2 rfl) ?_
          refine lv_iload_n hx hb dX1_init_93 rfl (lv_at hl 1 rfl) ?_
          refine lv_iload hx hb dX1_init_94 (lv_at hl 0 rfl) ?_
          refine lv_iload_n hx hb dX1_init_96 rfl (lv_at hl 1 rfl) ?_
          refine lv_idiv hx hb dX1_init_97 (nI_ne0 hw0 (by omega)) ?_
          refine z_eq (show ((nI sp) / (nI w)) = nI (sp / w) from pk_div (by omega) hw0 (by omega)) ?_
          refine lv_iconst (v := 1) hx hb dX1_init_98 (by decide) ?_
          refine lv_iadd hx hb dX1_init_99 ?_
          refine z_eq (show ((nI (sp / w)) + 1) = nI nr from by rw [hnr]; exact nI_1 _) ?_
          refine lv_imul hx hb dX1_init_100 ?_
          refine z_eq (show ((nI w) * (nI nr)) = nI n from by rw [hnn]; exact pk_mul _ _) ?_
          refine z_putF (ty := .int) C0 zt_x1 tyX1 tyX1_ok nmX1 hK hP hD hS hname 0 rfl rfl 2 (by decide) fl_X1_27 rfl rfl (by decide +kernel) rfl rfl (Nat.le_of_ble_eq_true rfl) dX1_init_101 (fun H locs hP hD hS => ?_)
          have hP : va_P D classes [(h0, .inr (1, [.int 0, .int (nI w), .int (nI n), .int 0, .int 0, .int 0, .int 0, .int 0, .int 0, .int 0, .int 0, .int 0, .int 0, .int 0, .int 0, .ref q1, .ref q2, .ref q3, .ref q4])), (q1, .inl (e1, 2064, .inl (fun _ => 0))), (q2, .inl (e2, 2064, .inl (fun _ => 0))), (q3, .inl (e3, 2064, .inl (fun _ => 0))), (q4, .inl (e4, 2064, .inl (fun _ => 0)))] H := hP
          have hD : va_D A [(h0, .inr (1, [.int 0, .int (nI w), .int (nI n), .int 0, .int 0, .int 0, .int 0, .int 0, .int 0, .int 0, .int 0, .int 0, .int 0, .int 0, .int 0, .ref q1, .ref q2, .ref q3, .ref q4])), (q1, .inl (e1, 2064, .inl (fun _ => 0))), (q2, .inl (e2, 2064, .inl (fun _ => 0))), (q3, .inl (e3, 2064, .inl (fun _ => 0))), (q4, .inl (e4, 2064, .inl (fun _ => 0)))] := hD
          exact hret ((fun k => match k with | 0 => h0 | 1 => q1 | 2 => q2 | 3 => q3 | _ => q4, fun k => match k with | 1 => e1 | 2 => e2 | 3 => e3 | _ => e4)) _ _ _ _ hK hP hD hS (rfl) dX1_init_104
        · refine lv_sipush (v := 2000) hx hb dX1_init_78 (by decide) ?_
          refine z_eq (show (2000) = nI sp from by first | (rw [← hs, if_pos (Int32.not_le.mp c3)]) | (rw [← hs, if_neg (Int32.not_lt.mpr c3), if_pos (Int32.not_le.mp c4)]) | (rw [← hs, if_neg (Int32.not_lt.mpr c3), if_neg (Int32.not_lt.mpr c4)])) ?_
          refine lv_goto (tgt := 85) hx hb dX1_init_81 (by decide) ?_
          refine lv_istore (lv' := [(4, .int (nI sp)), (3, .int (nI w)), (0, .ref h0), (1, .int w0), (2, .int s0)]) hx hb dX1_init_85 hl (by decide) rfl (fun ls hl => ?_)
          refine lv_aload_n hx hb dX1_init_87 rfl (lv_at hl 2 rfl) ?_
          refine lv_iload_n hx hb dX1_init_88 rfl (lv_at hl 1 rfl) ?_
          refine z_putF (ty := .int) C0 zt_x1 tyX1 tyX1_ok nmX1 hK hP hD hS hname 0 rfl rfl 1 (by decide) fl_X1_23 rfl rfl (by decide +kernel) rfl rfl (Nat.le_of_ble_eq_true rfl) dX1_init_89 (fun H locs hP hD hS => ?_)
          have hP : va_P D classes [(h0, .inr (1, [.int 0, .int (nI w), .int 0, .int 0, .int 0, .int 0, .int 0, .int 0, .int 0, .int 0, .int 0, .int 0, .int 0, .int 0, .int 0, .ref q1, .ref q2, .ref q3, .ref q4])), (q1, .inl (e1, 2064, .inl (fun _ => 0))), (q2, .inl (e2, 2064, .inl (fun _ => 0))), (q3, .inl (e3, 2064, .inl (fun _ => 0))), (q4, .inl (e4, 2064, .inl (fun _ => 0)))] H := hP
          have hD : va_D A [(h0, .inr (1, [.int 0, .int (nI w), .int 0, .int 0, .int 0, .int 0, .int 0, .int 0, .int 0, .int 0, .int 0, .int 0, .int 0, .int 0, .int 0, .ref q1, .ref q2, .ref q3, .ref q4])), (q1, .inl (e1, 2064, .inl (fun _ => 0))), (q2, .inl (e2, 2064, .inl (fun _ => 0))), (q3, .inl (e3, 2064, .inl (fun _ => 0))), (q4, .inl (e4, 2064, .inl (fun _ => 0)))] := hD
          refine lv_aload_n hx hb dX1_init_92 rfl (lv_at hl 2 rfl) ?_
          refine lv_iload_n hx hb dX1_init_93 rfl (lv_at hl 1 rfl) ?_
          refine lv_iload hx hb dX1_init_94 (lv_at hl 0 rfl) ?_
          refine lv_iload_n hx hb dX1_init_96 rfl (lv_at hl 1 rfl) ?_
          refine lv_idiv hx hb dX1_init_97 (nI_ne0 hw0 (by omega)) ?_
          refine z_eq (show ((nI sp) / (nI w)) = nI (sp / w) from pk_div (by omega) hw0 (by omega)) ?_
          refine lv_iconst (v := 1) hx hb dX1_init_98 (by decide) ?_
          refine lv_iadd hx hb dX1_init_99 ?_
          refine z_eq (show ((nI (sp / w)) + 1) = nI nr from by rw [hnr]; exact nI_1 _) ?_
          refine lv_imul hx hb dX1_init_100 ?_
          refine z_eq (show ((nI w) * (nI nr)) = nI n from by rw [hnn]; exact pk_mul _ _) ?_
          refine z_putF (ty := .int) C0 zt_x1 tyX1 tyX1_ok nmX1 hK hP hD hS hname 0 rfl rfl 2 (by decide) fl_X1_27 rfl rfl (by decide +kernel) rfl rfl (Nat.le_of_ble_eq_true rfl) dX1_init_101 (fun H locs hP hD hS => ?_)
          have hP : va_P D classes [(h0, .inr (1, [.int 0, .int (nI w), .int (nI n), .int 0, .int 0, .int 0, .int 0, .int 0, .int 0, .int 0, .int 0, .int 0, .int 0, .int 0, .int 0, .ref q1, .ref q2, .ref q3, .ref q4])), (q1, .inl (e1, 2064, .inl (fun _ => 0))), (q2, .inl (e2, 2064, .inl (fun _ => 0))), (q3, .inl (e3, 2064, .inl (fun _ => 0))), (q4, .inl (e4, 2064, .inl (fun _ => 0)))] H := hP
          have hD : va_D A [(h0, .inr (1, [.int 0, .int (nI w), .int (nI n), .int 0, .int 0, .int 0, .int 0, .int 0, .int 0, .int 0, .int 0, .int 0, .int 0, .int 0, .int 0, .ref q1, .ref q2, .ref q3, .ref q4])), (q1, .inl (e1, 2064, .inl (fun _ => 0))), (q2, .inl (e2, 2064, .inl (fun _ => 0))), (q3, .inl (e3, 2064, .inl (fun _ => 0))), (q4, .inl (e4, 2064, .inl (fun _ => 0)))] := hD
          exact hret ((fun k => match k with | 0 => h0 | 1 => q1 | 2 => q2 | 3 => q3 | _ => q4, fun k => match k with | 1 => e1 | 2 => e2 | 3 => e3 | _ => e4)) _ _ _ _ hK hP hD hS (rfl) dX1_init_104
      · refine lv_iconst (v := 1) hx hb dX1_init_67 (by decide) ?_
        refine z_eq (show (1) = nI sp from by first | (rw [← hs, if_pos (Int32.not_le.mp c3)]) | (rw [← hs, if_neg (Int32.not_lt.mpr c3), if_pos (Int32.not_le.mp c4)]) | (rw [← hs, if_neg (Int32.not_lt.mpr c3), if_neg (Int32.not_lt.mpr c4)])) ?_
        refine lv_goto (tgt := 85) hx hb dX1_init_68 (by decide) ?_
        refine lv_istore (lv' := [(4, .int (nI sp)), (3, .int (nI w)), (0, .ref h0), (1, .int w0), (2, .int s0)]) hx hb dX1_init_85 hl (by decide) rfl (fun ls hl => ?_)
        refine lv_aload_n hx hb dX1_init_87 rfl (lv_at hl 2 rfl) ?_
        refine lv_iload_n hx hb dX1_init_88 rfl (lv_at hl 1 rfl) ?_
        refine z_putF (ty := .int) C0 zt_x1 tyX1 tyX1_ok nmX1 hK hP hD hS hname 0 rfl rfl 1 (by decide) fl_X1_23 rfl rfl (by decide +kernel) rfl rfl (Nat.le_of_ble_eq_true rfl) dX1_init_89 (fun H locs hP hD hS => ?_)
        have hP : va_P D classes [(h0, .inr (1, [.int 0, .int (nI w), .int 0, .int 0, .int 0, .int 0, .int 0, .int 0, .int 0, .int 0, .int 0, .int 0, .int 0, .int 0, .int 0, .ref q1, .ref q2, .ref q3, .ref q4])), (q1, .inl (e1, 2064, .inl (fun _ => 0))), (q2, .inl (e2, 2064, .inl (fun _ => 0))), (q3, .inl (e3, 2064, .inl (fun _ => 0))), (q4, .inl (e4, 2064, .inl (fun _ => 0)))] H := hP
        have hD : va_D A [(h0, .inr (1, [.int 0, .int (nI w), .int 0, .int 0, .int 0, .int 0, .int 0, .int 0, .int 0, .int 0, .int 0, .int 0, .int 0, .int 0, .int 0, .ref q1, .ref q2, .ref q3, .ref q4])), (q1, .inl (e1, 2064, .inl (fun _ => 0))), (q2, .inl (e2, 2064, .inl (fun _ => 0))), (q3, .inl (e3, 2064, .inl (fun _ => 0))), (q4, .inl (e4, 2064, .inl (fun _ => 0)))] := hD
        refine lv_aload_n hx hb dX1_init_92 rfl (lv_at hl 2 rfl) ?_
        refine lv_iload_n hx hb dX1_init_93 rfl (lv_at hl 1 rfl) ?_
        refine lv_iload hx hb dX1_init_94 (lv_at hl 0 rfl) ?_
        refine lv_iload_n hx hb dX1_init_96 rfl (lv_at hl 1 rfl) ?_
        refine lv_idiv hx hb dX1_init_97 (nI_ne0 hw0 (by omega)) ?_
        refine z_eq (show ((nI sp) / (nI w)) = nI (sp / w) from pk_div (by omega) hw0 (by omega)) ?_
        refine lv_iconst (v := 1) hx hb dX1_init_98 (by decide) ?_
        refine lv_iadd hx hb dX1_init_99 ?_
        refine z_eq (show ((nI (sp / w)) + 1) = nI nr from by rw [hnr]; exact nI_1 _) ?_
        refine lv_imul hx hb dX1_init_100 ?_
        refine z_eq (show ((nI w) * (nI nr)) = nI n from by rw [hnn]; exact pk_mul _ _) ?_
        refine z_putF (ty := .int) C0 zt_x1 tyX1 tyX1_ok nmX1 hK hP hD hS hname 0 rfl rfl 2 (by decide) fl_X1_27 rfl rfl (by decide +kernel) rfl rfl (Nat.le_of_ble_eq_true rfl) dX1_init_101 (fun H locs hP hD hS => ?_)
        have hP : va_P D classes [(h0, .inr (1, [.int 0, .int (nI w), .int (nI n), .int 0, .int 0, .int 0, .int 0, .int 0, .int 0, .int 0, .int 0, .int 0, .int 0, .int 0, .int 0, .ref q1, .ref q2, .ref q3, .ref q4])), (q1, .inl (e1, 2064, .inl (fun _ => 0))), (q2, .inl (e2, 2064, .inl (fun _ => 0))), (q3, .inl (e3, 2064, .inl (fun _ => 0))), (q4, .inl (e4, 2064, .inl (fun _ => 0)))] H := hP
        have hD : va_D A [(h0, .inr (1, [.int 0, .int (nI w), .int (nI n), .int 0, .int 0, .int 0, .int 0, .int 0, .int 0, .int 0, .int 0, .int 0, .int 0, .int 0, .int 0, .ref q1, .ref q2, .ref q3, .ref q4])), (q1, .inl (e1, 2064, .inl (fun _ => 0))), (q2, .inl (e2, 2064, .inl (fun _ => 0))), (q3, .inl (e3, 2064, .inl (fun _ => 0))), (q4, .inl (e4, 2064, .inl (fun _ => 0)))] := hD
        exact hret ((fun k => match k with | 0 => h0 | 1 => q1 | 2 => q2 | 3 => q3 | _ => q4, fun k => match k with | 1 => e1 | 2 => e2 | 3 => e3 | _ => e4)) _ _ _ _ hK hP hD hS (rfl) dX1_init_104
  · refine lv_iconst (v := 1) hx hb dX1_init_45 (by decide) ?_
    refine z_eq (show (1) = nI w from by first | (rw [← hw, if_pos (Int32.not_le.mp c1)]) | (rw [← hw, if_neg (Int32.not_lt.mpr c1), if_pos (Int32.not_le.mp c2)]) | (rw [← hw, if_neg (Int32.not_lt.mpr c1), if_neg (Int32.not_lt.mpr c2)])) ?_
    refine lv_goto (tgt := 61) hx hb dX1_init_46 (by decide) ?_
    refine lv_istore_n (lv' := [(3, .int (nI w)), (0, .ref h0), (1, .int w0), (2, .int s0)]) hx hb dX1_init_61 rfl hl (by decide) rfl (fun ls hl => ?_)
    refine lv_iload_n hx hb dX1_init_62 rfl (lv_at hl 3 rfl) ?_
    refine lv_iconst (v := 1) hx hb dX1_init_63 (by decide) ?_
    refine lv_icmp_ge (tgt := 71) hx hb dX1_init_64 (by decide) (fun c3 => ?_) (fun c3 => ?_)
    · refine lv_iload_n hx hb dX1_init_71 rfl (lv_at hl 3 rfl) ?_
      refine lv_sipush (v := 2000) hx hb dX1_init_72 (by decide) ?_
      refine lv_icmp_le (tgt := 84) hx hb dX1_init_75 (by decide) (fun c4 => ?_) (fun c4 => ?_)
      · refine lv_iload_n hx hb dX1_init_84 rfl (lv_at hl 3 rfl) ?_
        refine z_eq (show (s0) = nI sp from by first | (rw [← hs, if_pos (Int32.not_le.mp c3)]) | (rw [← hs, if_neg (Int32.not_lt.mpr c3), if_pos (Int32.not_le.mp c4)]) | (rw [← hs, if_neg (Int32.not_lt.mpr c3), if_neg (Int32.not_lt.mpr c4)])) ?_
        refine lv_istore (lv' := [(4, .int (nI sp)), (3, .int (nI w)), (0, .ref h0), (1, .int w0), (2, .int s0)]) hx hb dX1_init_85 hl (by decide) rfl (fun ls hl => ?_)
        refine lv_aload_n hx hb dX1_init_87 rfl (lv_at hl 2 rfl) ?_
        refine lv_iload_n hx hb dX1_init_88 rfl (lv_at hl 1 rfl) ?_
        refine z_putF (ty := .int) C0 zt_x1 tyX1 tyX1_ok nmX1 hK hP hD hS hname 0 rfl rfl 1 (by decide) fl_X1_23 rfl rfl (by decide +kernel) rfl rfl (Nat.le_of_ble_eq_true rfl) dX1_init_89 (fun H locs hP hD hS => ?_)
        have hP : va_P D classes [(h0, .inr (1, [.int 0, .int (nI w), .int 0, .int 0, .int 0, .int 0, .int 0, .int 0, .int 0, .int 0, .int 0, .int 0, .int 0, .int 0, .int 0, .ref q1, .ref q2, .ref q3, .ref q4])), (q1, .inl (e1, 2064, .inl (fun _ => 0))), (q2, .inl (e2, 2064, .inl (fun _ => 0))), (q3, .inl (e3, 2064, .inl (fun _ => 0))), (q4, .inl (e4, 2064, .inl (fun _ => 0)))] H := hP
        have hD : va_D A [(h0, .inr (1, [.int 0, .int (nI w), .int 0, .int 0, .int 0, .int 0, .int 0, .int 0, .int 0, .int 0, .int 0, .int 0, .int 0, .int 0, .int 0, .ref q1, .ref q2, .ref q3, .ref q4])), (q1, .inl (e1, 2064, .inl (fun _ => 0))), (q2, .inl (e2, 2064, .inl (fun _ => 0))), (q3, .inl (e3, 2064, .inl (fun _ => 0))), (q4, .inl (e4, 2064, .inl (fun _ => 0)))] := hD
        refine lv_aload_n hx hb dX1_init_92 rfl (lv_at hl 2 rfl) ?_
        refine lv_iload_n hx hb dX1_init_93 rfl (lv_at hl 1 rfl) ?_
        refine lv_iload hx hb dX1_init_94 (lv_at hl 0 rfl) ?_
        refine lv_iload_n hx hb dX1_init_96 rfl (lv_at hl 1 rfl) ?_
        refine lv_idiv hx hb dX1_init_97 (nI_ne0 hw0 (by omega)) ?_
        refine z_eq (show ((nI sp) / (nI w)) = nI (sp / w) from pk_div (by omega) hw0 (by omega)) ?_
        refine lv_iconst (v := 1) hx hb dX1_init_98 (by decide) ?_
        refine lv_iadd hx hb dX1_init_99 ?_
        refine z_eq (show ((nI (sp / w)) + 1) = nI nr from by rw [hnr]; exact nI_1 _) ?_
        refine lv_imul hx hb dX1_init_100 ?_
        refine z_eq (show ((nI w) * (nI nr)) = nI n from by rw [hnn]; exact pk_mul _ _) ?_
        refine z_putF (ty := .int) C0 zt_x1 tyX1 tyX1_ok nmX1 hK hP hD hS hname 0 rfl rfl 2 (by decide) fl_X1_27 rfl rfl (by decide +kernel) rfl rfl (Nat.le_of_ble_eq_true rfl) dX1_init_101 (fun H locs hP hD hS => ?_)
        have hP : va_P D classes [(h0, .inr (1, [.int 0, .int (nI w), .int (nI n), .int 0, .int 0, .int 0, .int 0, .int 0, .int 0, .int 0, .int 0, .int 0, .int 0, .int 0, .int 0, .ref q1, .ref q2, .ref q3, .ref q4])), (q1, .inl (e1, 2064, .inl (fun _ => 0))), (q2, .inl (e2, 2064, .inl (fun _ => 0))), (q3, .inl (e3, 2064, .inl (fun _ => 0))), (q4, .inl (e4, 2064, .inl (fun _ => 0)))] H := hP
        have hD : va_D A [(h0, .inr (1, [.int 0, .int (nI w), .int (nI n), .int 0, .int 0, .int 0, .int 0, .int 0, .int 0, .int 0, .int 0, .int 0, .int 0, .int 0, .int 0, .ref q1, .ref q2, .ref q3, .ref q4])), (q1, .inl (e1, 2064, .inl (fun _ => 0))), (q2, .inl (e2, 2064, .inl (fun _ => 0))), (q3, .inl (e3, 2064, .inl (fun _ => 0))), (q4, .inl (e4, 2064, .inl (fun _ => 0)))] := hD
        exact hret ((fun k => match k with | 0 => h0 | 1 => q1 | 2 => q2 | 3 => q3 | _ => q4, fun k => match k with | 1 => e1 | 2 => e2 | 3 => e3 | _ => e4)) _ _ _ _ hK hP hD hS (rfl) dX1_init_104
      · refine lv_sipush (v := 2000) hx hb dX1_init_78 (by decide) ?_
        refine z_eq (show (2000) = nI sp from by first | (rw [← hs, if_pos (Int32.not_le.mp c3)]) | (rw [← hs, if_neg (Int32.not_lt.mpr c3), if_pos (Int32.not_le.mp c4)]) | (rw [← hs, if_neg (Int32.not_lt.mpr c3), if_neg (Int32.not_lt.mpr c4)])) ?_
        refine lv_goto (tgt := 85) hx hb dX1_init_81 (by decide) ?_
        refine lv_istore (lv' := [(4, .int (nI sp)), (3, .int (nI w)), (0, .ref h0), (1, .int w0), (2, .int s0)]) hx hb dX1_init_85 hl (by decide) rfl (fun ls hl => ?_)
        refine lv_aload_n hx hb dX1_init_87 rfl (lv_at hl 2 rfl) ?_
        refine lv_iload_n hx hb dX1_init_88 rfl (lv_at hl 1 rfl) ?_
        refine z_putF (ty := .int) C0 zt_x1 tyX1 tyX1_ok nmX1 hK hP hD hS hname 0 rfl rfl 1 (by decide) fl_X1_23 rfl rfl (by decide +kernel) rfl rfl (Nat.le_of_ble_eq_true rfl) dX1_init_89 (fun H locs hP hD hS => ?_)
        have hP : va_P D classes [(h0, .inr (1, [.int 0, .int (nI w), .int 0, .int 0, .int 0, .int 0, .int 0, .int 0, .int 0, .int 0, .int 0, .int 0, .int 0, .int 0, .int 0, .ref q1, .ref q2, .ref q3, .ref q4])), (q1, .inl (e1, 2064, .inl (fun _ => 0))), (q2, .inl (e2, 2064, .inl (fun _ => 0))), (q3, .inl (e3, 2064, .inl (fun _ => 0))), (q4, .inl (e4, 2064, .inl (fun _ => 0)))] H := hP
        have hD : va_D A [(h0, .inr (1, [.int 0, .int (nI w), .int 0, .int 0, .int 0, .int 0, .int 0, .int 0, .int 0, .int 0, .int 0, .int 0, .int 0, .int 0, .int 0, .ref q1, .ref q2, .ref q3, .ref q4])), (q1, .inl (e1, 2064, .inl (fun _ => 0))), (q2, .inl (e2, 2064, .inl (fun _ => 0))), (q3, .inl (e3, 2064, .inl (fun _ => 0))), (q4, .inl (e4, 2064, .inl (fun _ => 0)))] := hD
        refine lv_aload_n hx hb dX1_init_92 rfl (lv_at hl 2 rfl) ?_
        refine lv_iload_n hx hb dX1_init_93 rfl (lv_at hl 1 rfl) ?_
        refine lv_iload hx hb dX1_init_94 (lv_at hl 0 rfl) ?_
        refine lv_iload_n hx hb dX1_init_96 rfl (lv_at hl 1 rfl) ?_
        refine lv_idiv hx hb dX1_init_97 (nI_ne0 hw0 (by omega)) ?_
        refine z_eq (show ((nI sp) / (nI w)) = nI (sp / w) from pk_div (by omega) hw0 (by omega)) ?_
        refine lv_iconst (v := 1) hx hb dX1_init_98 (by decide) ?_
        refine lv_iadd hx hb dX1_init_99 ?_
        refine z_eq (show ((nI (sp / w)) + 1) = nI nr from by rw [hnr]; exact nI_1 _) ?_
        refine lv_imul hx hb dX1_init_100 ?_
        refine z_eq (show ((nI w) * (nI nr)) = nI n from by rw [hnn]; exact pk_mul _ _) ?_
        refine z_putF (ty := .int) C0 zt_x1 tyX1 tyX1_ok nmX1 hK hP hD hS hname 0 rfl rfl 2 (by decide) fl_X1_27 rfl rfl (by decide +kernel) rfl rfl (Nat.le_of_ble_eq_true rfl) dX1_init_101 (fun H locs hP hD hS => ?_)
        have hP : va_P D classes [(h0, .inr (1, [.int 0, .int (nI w), .int (nI n), .int 0, .int 0, .int 0, .int 0, .int 0, .int 0, .int 0, .int 0, .int 0, .int 0, .int 0, .int 0, .ref q1, .ref q2, .ref q3, .ref q4])), (q1, .inl (e1, 2064, .inl (fun _ => 0))), (q2, .inl (e2, 2064, .inl (fun _ => 0))), (q3, .inl (e3, 2064, .inl (fun _ => 0))), (q4, .inl (e4, 2064, .inl (fun _ => 0)))] H := hP
        have hD : va_D A [(h0, .inr (1, [.int 0, .int (nI w), .int (nI n), .int 0, .int 0, .int 0, .int 0, .int 0, .int 0, .int 0, .int 0, .int 0, .int 0, .int 0, .int 0, .ref q1, .ref q2, .ref q3, .ref q4])), (q1, .inl (e1, 2064, .inl (fun _ => 0))), (q2, .inl (e2, 2064, .inl (fun _ => 0))), (q3, .inl (e3, 2064, .inl (fun _ => 0))), (q4, .inl (e4, 2064, .inl (fun _ => 0)))] := hD
        exact hret ((fun k => match k with | 0 => h0 | 1 => q1 | 2 => q2 | 3 => q3 | _ => q4, fun k => match k with | 1 => e1 | 2 => e2 | 3 => e3 | _ => e4)) _ _ _ _ hK hP hD hS (rfl) dX1_init_104
    · refine lv_iconst (v := 1) hx hb dX1_init_67 (by decide) ?_
      refine z_eq (show (1) = nI sp from by first | (rw [← hs, if_pos (Int32.not_le.mp c3)]) | (rw [← hs, if_neg (Int32.not_lt.mpr c3), if_pos (Int32.not_le.mp c4)]) | (rw [← hs, if_neg (Int32.not_lt.mpr c3), if_neg (Int32.not_lt.mpr c4)])) ?_
      refine lv_goto (tgt := 85) hx hb dX1_init_68 (by decide) ?_
      refine lv_istore (lv' := [(4, .int (nI sp)), (3, .int (nI w)), (0, .ref h0), (1, .int w0), (2, .int s0)]) hx hb dX1_init_85 hl (by decide) rfl (fun ls hl => ?_)
      refine lv_aload_n hx hb dX1_init_87 rfl (lv_at hl 2 rfl) ?_
      refine lv_iload_n hx hb dX1_init_88 rfl (lv_at hl 1 rfl) ?_
      refine z_putF (ty := .int) C0 zt_x1 tyX1 tyX1_ok nmX1 hK hP hD hS hname 0 rfl rfl 1 (by decide) fl_X1_23 rfl rfl (by decide +kernel) rfl rfl (Nat.le_of_ble_eq_true rfl) dX1_init_89 (fun H locs hP hD hS => ?_)
      have hP : va_P D classes [(h0, .inr (1, [.int 0, .int (nI w), .int 0, .int 0, .int 0, .int 0, .int 0, .int 0, .int 0, .int 0, .int 0, .int 0, .int 0, .int 0, .int 0, .ref q1, .ref q2, .ref q3, .ref q4])), (q1, .inl (e1, 2064, .inl (fun _ => 0))), (q2, .inl (e2, 2064, .inl (fun _ => 0))), (q3, .inl (e3, 2064, .inl (fun _ => 0))), (q4, .inl (e4, 2064, .inl (fun _ => 0)))] H := hP
      have hD : va_D A [(h0, .inr (1, [.int 0, .int (nI w), .int 0, .int 0, .int 0, .int 0, .int 0, .int 0, .int 0, .int 0, .int 0, .int 0, .int 0, .int 0, .int 0, .ref q1, .ref q2, .ref q3, .ref q4])), (q1, .inl (e1, 2064, .inl (fun _ => 0))), (q2, .inl (e2, 2064, .inl (fun _ => 0))), (q3, .inl (e3, 2064, .inl (fun _ => 0))), (q4, .inl (e4, 2064, .inl (fun _ => 0)))] := hD
      refine lv_aload_n hx hb dX1_init_92 rfl (lv_at hl 2 rfl) ?_
      refine lv_iload_n hx hb dX1_init_93 rfl (lv_at hl 1 rfl) ?_
      refine lv_iload hx hb dX1_init_94 (lv_at hl 0 rfl) ?_
      refine lv_iload_n hx hb dX1_init_96 rfl (lv_at hl 1 rfl) ?_
      refine lv_idiv hx hb dX1_init_97 (nI_ne0 hw0 (by omega)) ?_
      refine z_eq (show ((nI sp) / (nI w)) = nI (sp / w) from pk_div (by omega) hw0 (by omega)) ?_
      refine lv_iconst (v := 1) hx hb dX1_init_98 (by decide) ?_
      refine lv_iadd hx hb dX1_init_99 ?_
      refine z_eq (show ((nI (sp / w)) + 1) = nI nr from by rw [hnr]; exact nI_1 _) ?_
      refine lv_imul hx hb dX1_init_100 ?_
      refine z_eq (show ((nI w) * (nI nr)) = nI n from by rw [hnn]; exact pk_mul _ _) ?_
      refine z_putF (ty := .int) C0 zt_x1 tyX1 tyX1_ok nmX1 hK hP hD hS hname 0 rfl rfl 2 (by decide) fl_X1_27 rfl rfl (by decide +kernel) rfl rfl (Nat.le_of_ble_eq_true rfl) dX1_init_101 (fun H locs hP hD hS => ?_)
      have hP : va_P D classes [(h0, .inr (1, [.int 0, .int (nI w), .int (nI n), .int 0, .int 0, .int 0, .int 0, .int 0, .int 0, .int 0, .int 0, .int 0, .int 0, .int 0, .int 0, .ref q1, .ref q2, .ref q3, .ref q4])), (q1, .inl (e1, 2064, .inl (fun _ => 0))), (q2, .inl (e2, 2064, .inl (fun _ => 0))), (q3, .inl (e3, 2064, .inl (fun _ => 0))), (q4, .inl (e4, 2064, .inl (fun _ => 0)))] H := hP
      have hD : va_D A [(h0, .inr (1, [.int 0, .int (nI w), .int (nI n), .int 0, .int 0, .int 0, .int 0, .int 0, .int 0, .int 0, .int 0, .int 0, .int 0, .int 0, .int 0, .ref q1, .ref q2, .ref q3, .ref q4])), (q1, .inl (e1, 2064, .inl (fun _ => 0))), (q2, .inl (e2, 2064, .inl (fun _ => 0))), (q3, .inl (e3, 2064, .inl (fun _ => 0))), (q4, .inl (e4, 2064, .inl (fun _ => 0)))] := hD
      exact hret ((fun k => match k with | 0 => h0 | 1 => q1 | 2 => q2 | 3 => q3 | _ => q4, fun k => match k with | 1 => e1 | 2 => e2 | 3 => e3 | _ => e4)) _ _ _ _ hK hP hD hS (rfl) dX1_init_104
end
section
/-! LAW: its static helpers -/
def ZL {S : Type} (l : Launch) (y : MethodName) (b : ByteArray) (k : Nat) (hh : List (Nat × Nat × Nat × Nat)) (rm : Room) (D : va_G) (cl : List vw_C) (tys : List (ClassId × FieldType)) (av : List Value) (W0 : va_W) (post : Int32 → S → Prop) (Wf : S → va_W) : Prop :=
  ∀ sz : Nat, Met l y (Cond.codeWith y b k (some .int) hh :: zt) rm (zPc D cl tys av W0 sz) (va_Qi post (zB D cl tys (va_A W0 sz) Wf) (va_A W0 sz)) rm.cells rm.slots (va_A W0 sz)
/-- the start of a helper whose call throws -/
abbrev zPx (D : va_G) (cl : List vw_C) (tys : List (ClassId × FieldType)) (av : List Value) (W0 : va_W) (sz : Nat) : Array Value → State → Prop := va_Pc av (fun U => U.heap.size = sz ∧ va_P D cl W0 U.heap ∧ va_K D cl tys U ∧ va_D (fun _ => True) W0 ∧ xh sz U)
def ZLx (l : Launch) (y : MethodName) (b : ByteArray) (k : Nat) (hh : List (Nat × Nat × Nat × Nat)) (rm : Room) (D : va_G) (cl : List vw_C) (tys : List (ClassId × FieldType)) (av : List Value) (W0 : va_W) : Prop :=
  ∀ sz : Nat, Met l y (Cond.codeWith y b k (some .int) hh :: zt) rm (zPx D cl tys av W0 sz) (va_Qi (S := Unit) (fun r _ => r = 1) (fun _ _ => True) (fun q => sz ≤ q)) 1 6 (fun q => sz ≤ q)
theorem zPx_blind {D : va_G} {cl : List vw_C} {tys : List (ClassId × FieldType)} {av : List Value} {W0 : va_W} {sz : Nat} : FrameBlind (zPx D cl tys av W0 sz) := fun a U g mk q => by
  obtain ⟨q0, q1, qP, qK, qD, qx⟩ := q
  exact ⟨q0, q1, qP, va_K.moved (u := U) (U := U.calling g mk a) (Vm.Alike.refl U.vm) qK, qD, xh_blind qx⟩
section ZLB
variable {l : Launch} {y : MethodName} {b : ByteArray} {k : Nat} {hh : List (Nat × Nat × Nat × Nat)} {rm : Room} {D : va_G} {cl : List vw_C} {tys : List (ClassId × FieldType)} {av : List Value} {W0 : va_W}
theorem ZL.of {S : Type} {post : Int32 → S → Prop} {Wf : S → va_W} (hy : plainName y.cls = true) (hlen : (lg_sl av).length ≤ k)
    (body : ∀ (p : Program) (e : Env) (s : State) (m : MethodId) (args : Array Value) (below : List Frame) (meth : Method) (c : Code) (A : Nat → Prop) (Q : State → Prop) (ls : Array Slot), CallFix p m c b k s args zt y.cls → va_K D cl tys s → va_P D cl W0 s.heap → va_D A W0 → va_S A s.heap s.heap [] → (∀ q, s.heap.size ≤ q → A q) → lv_has ls k (lv_args 0 av) →
      (∀ (v : Int32) (u : S) (H : Heap) (locs : List Loc) (pc : Nat) (ls : Array Slot), va_P D cl (Wf u) H → va_D A (Wf u) → va_S A s.heap H locs → post v u → decode b pc = .ok (.ireturn, 1) → W p l e rm s m args below meth c H locs rm.cells rm.slots Q (F0 m pc ls [.int v])) →
      W p l e rm s m args below meth c s.heap [] 0 0 Q (F0 m 0 ls [])) : ZL l y b k hh rm D cl tys av W0 post Wf := by
  intro sz
  refine va_MetW (cc := b) (maxL := k) (ret := some .int) hy rfl ?_
  intro p e s m args below meth c s₁ B hml hv
  obtain ⟨rfl, hsz, hP, hK, hD0⟩ := hv
  have hts := atoms_spec (ws := Cond.codeWith y b k (some .int) hh :: zt) B.pre
  subst hsz
  rw [lg_entry_eq]
  exact body p e s m _ below meth c _ _ _ ⟨B.exec, B.bytes, hml, findClass_of_methodNamed B.named, fun w hw => hts w (List.mem_cons_of_mem _ hw)⟩ hK hP (hD0.self (sz := s.heap.size)) va_S.rf (fun q h => Or.inr h) (lv_entry av hlen)
    (fun v u H locs pc ls hP hD hS hw hdg => W.iret B.exec B.bytes B.returns (fun t ht hW => ⟨⟨v, u, rfl, hw, by rw [ht]; exact hP, va_K.moved hW.alike hK, hD⟩, hS.F ht⟩) hS.2.2 hdg B.notSynchronized)
theorem ZLx.of (hy : plainName y.cls = true) (hlen : (lg_sl av).length ≤ k)
    (body : ∀ (p : Program) (e : Env) (s : State) (m : MethodId) (args : Array Value) (below : List Frame) (meth : Method) (c : Code) (Q : State → Prop) (ls : Array Slot), CallFix p m c b k s args zt y.cls → c.exceptionTable.toList = tableOf hh → va_K D cl tys s → va_P D cl W0 s.heap → va_D (fun _ => True) W0 → xh s.heap.size s → lv_has ls k (lv_args 0 av) →
      (∀ (H : Heap) (locs : List Loc) (pc : Nat) (ls : Array Slot), va_S (fun q => s.heap.size ≤ q) s.heap H locs → decode b pc = .ok (.ireturn, 1) → W p l e rm s m args below meth c H locs 1 6 Q (F0 m pc ls [.int 1])) →
      W p l e rm s m args below meth c s.heap [] 0 0 Q (F0 m 0 ls [])) : ZLx l y b k hh rm D cl tys av W0 := by
  intro sz
  refine va_MetW (cc := b) (maxL := k) (ret := some .int) hy rfl ?_
  intro p e s m args below meth c s₁ B hml hv
  obtain ⟨rfl, hsz, hP, hK, hD0, hxh⟩ := hv
  have hts := atoms_spec (ws := Cond.codeWith y b k (some .int) hh :: zt) B.pre
  subst hsz
  rw [lg_entry_eq]
  exact body p e s m _ below meth c _ _ ⟨B.exec, B.bytes, hml, findClass_of_methodNamed B.named, fun w hw => hts w (List.mem_cons_of_mem _ hw)⟩ (vx_table (x := y) B (hts _ List.mem_cons_self)) hK hP hD0 hxh (lv_entry av hlen)
    (fun H locs pc ls hS hdg => W.iret B.exec B.bytes B.returns (fun t ht hW => ⟨⟨1, (), rfl, rfl, trivial⟩, hS.F ht⟩) hS.2.2 hdg B.notSynchronized)
end ZLB
section ZLC
variable {p : Program} {l : Launch} {e : Env} {R : Room} {s : State} {m : MethodId} {args : Array Value} {below : List Frame} {meth : Method} {c : Code} {H : Heap} {locs : List Loc} {cells slots : Nat} {Q : State → Prop}
variable {cc : ByteArray} {pc : Nat} {ls : Array Slot} {rest : List Value} {D : va_G} {cl : List vw_C} {A : Nat → Prop} {a : Nat} {tys tys0 : List (ClassId × FieldType)} {W0 : va_W} {nL : Nat} {own : String}
variable {y : MethodName} {b : ByteArray} {k n idx : Nat} {rm : Room}
/-- a call that throws, caught by the only row of the table -/
theorem zx_callV {As : List Value} {st0 : List Value} {q0 ci : Nat} {fs : List Value} {q : vw_C} (x : ExceptionTableEntry) (C0 : CallFix p m c cc nL s args zt own) (hM : ZX l y b k rm (.ref a :: As)) (hv : zv own idx y b k (some .int) n) (hR : rm.frames + 1 ≤ R.frames ∧ 8 + (k + 11) + rm.locals ≤ R.locals) (h0 : rm.cells = 1 ∧ rm.slots = 6) (hn : As.length = n)
    (hK : va_K D cl tys0 s) (hP : va_P D cl W0 s.heap) (hxh : xh s.heap.size s) (hone : c.exceptionTable.toList = [x]) (hx : covers x pc = true) (hx0 : x.catchType ≠ 0) (hlink : Cond.classLink own x.catchType IAE ∈ zt) (hc : cl[ci]? = some q) (hq : q.1 = y.cls) (he : W0[q0]? = some (a, .inr (ci, fs))) (hsize : ls.size = nL) (hst : st0 = As.reverse ++ .ref a :: rest) (hW : (rest.map fun v => v.category).sum ≤ 8) (hdg : decode cc pc = .ok (.invokevirtual idx, 3)) (hcs : cells + 1 ≤ R.cells ∧ slots + 6 ≤ R.slots)
    (kk : ∀ (q9 : Nat) (H1 : Heap) (locs1 : List Loc), va_S (fun q => s.heap.size ≤ q) s.heap H1 locs1 → W p l e R s m args below meth c H1 locs1 (cells + 1) (slots + 6) Q (F0 m x.handlerPc ls [.ref q9])) : W p l e R s m args below meth c s.heap [] cells slots Q (F0 m pc ls st0) := by
  have hrec := va_recv hK hP hc he
  rw [hq] at hrec
  have hcw := zv_cw (R := R) (rm := rm) hv C0.2.2.2.2 hR
  rw [h0.1, h0.2] at hcw
  refine vx_calli (A0 := fun q => s.heap.size ≤ q) (H0 := s.heap) (vx_runV (As := As) (rest := rest) C0 (hM s.heap.size) hcw ⟨fun a U g mk q => ⟨q.1, q.2.1, xh_blind q.2.2⟩, hrec, fun U hU hW => ⟨rfl, by rw [hU], xh_at hxh hW hU (Nat.le_refl _) (fun q _ => rfl)⟩⟩ rfl hn hsize hst (lv_room hW) hdg ⟨hcs.1, hcs.2⟩) va_S.rf (fun q _ h => h.elim) (fun q h => h) (fun q _ h => h) ?_ ?_
  · intro E ce q9 u t H1 locs1 ht hal hp hE hz hk hS1 hce hcv hcl
    subst hE
    exact vy_catch C0.2.2.2.1 x hone hx hx0 (C0.2.2.2.2 _ hlink) (xc_moved (args' := args) (Vm.Alike.refl _) hxh.2.2.1 _ List.mem_cons_self) hce hcv hcl (kk q9 H1 locs1 hS1)
  · intro r u t H1 locs1 ht hal hp
    exact hp.elim
end ZLC
/-- cell(script, k) -/
abbrev rL_cell : Room := { frames := 0, cells := 0, slots := 0, locals := 0 }
abbrev zPs (av : List Value) (b L : Nat) (xs : Nat → Int32) (sz : Nat) : Array Value → State → Prop := va_Pc av (fun U => U.heap.size = sz ∧ va_X b L xs U U.heap ∧ b < sz)
theorem zPs_blind {av : List Value} {b L : Nat} {xs : Nat → Int32} {sz : Nat} : FrameBlind (zPs av b L xs sz) := fun a U g mk q => ⟨q.1, q.2.1, va_X.moved (U := U.calling g mk a) (Vm.Alike.refl U.vm) q.2.2.1, q.2.2.2⟩
set_option maxHeartbeats 4000000 in
set_option maxRecDepth 100000 in
theorem l_cell (l : Launch) (b L : Nat) (xs : Nat → Int32) (j : Nat) (hL : L < 2 ^ 31) (hj : j < 2 ^ 31) (sz : Nat) : Met l yL_cell (Cond.code yL_cell cL_cell 2 (some .int) :: zt) rL_cell (zPs [.ref b, .int (nI j)] b L xs sz) (vp_Si (fun r => r = if L ≤ j then 0 else xs j)) 0 0 (fun _ => False) := by
  refine Met.ofW (cc := cL_cell) (maxL := 2) (ret := some .int) (by decide +kernel) rfl ?_
  intro p e s m args below meth c s₁ B hml hv
  obtain ⟨rfl, hsz, hX, hbl⟩ := hv
  have hx := B.exec
  have hb := B.bytes
  have hr := B.returns
  have hlocks := B.notSynchronized
  have hl := lv_entry ([.ref b, .int (nI j)]) (n := 2) (Nat.le_of_ble_eq_true rfl)
  rw [lg_entry_eq]
  generalize (lg_sl ([.ref b, .int (nI j)]) ++ List.replicate (2 - (lg_sl ([.ref b, .int (nI j)])).length) Slot.unset).toArray = ls at hl ⊢
  have hl : lv_has ls 2 [(0, .ref b), (1, .int (nI j))] := hl
  have hS : va_S (fun _ => False) s.heap s.heap [] := va_S.rf
  subst hsz
  refine lv_iload_n hx hb dL_cell_0 rfl (lv_at hl 1 rfl) ?_
  refine lv_aload_n hx hb dL_cell_1 rfl (lv_at hl 0 rfl) ?_
  refine va_slen hx hb hX hbl (fun h => h) hS dL_cell_2 ?_
  refine lv_icmp_ge (tgt := 12) hx hb dL_cell_3 (by decide) (fun c1 => ?_) (fun c1 => ?_)
  · have c1 : L ≤ j := zle c1 hL hj
    refine lv_iconst (v := 0) hx hb dL_cell_12 (by decide) ?_
    exact W.iret hx hb hr (fun t ht hW => ⟨0, rfl, by rw [if_pos c1], ht⟩) (fun q hq => absurd hq List.not_mem_nil) dL_cell_13 hlocks
  · have c1 : j < L := znle c1 hL hj
    refine lv_aload_n hx hb dL_cell_6 rfl (lv_at hl 0 rfl) ?_
    refine lv_iload_n hx hb dL_cell_7 rfl (lv_at hl 1 rfl) ?_
    refine va_sld hx hb hX hbl (fun h => h) hS (vp_in_nI c1 hL) dL_cell_8 ?_
    refine lv_goto (tgt := 13) hx hb dL_cell_9 (by decide) ?_
    exact W.iret hx hb hr (fun t ht hW => ⟨_, rfl, by rw [if_neg (by omega), nI_clamp hj], ht⟩) (fun q hq => absurd hq List.not_mem_nil) dL_cell_13 hlocks
abbrev rL_feedMany : Room := { frames := 6, cells := 0, slots := 0, locals := 137 }
abbrev rL_feedMany_x : Room := { frames := 7, cells := 1, slots := 6, locals := 108 }
set_option maxHeartbeats 4000000 in
set_option maxRecDepth 100000 in
theorem l_feedMany_k {S : Type} {post : Int32 → S → Prop} {Wf : S → va_W} (l : Launch) (D : va_G) (a oa : Nat) (oc : ClassId) (tys0 : List (ClassId × FieldType)) (g : Nat → Int64) (W0 : va_W) (fs : List Value) (he : W0[0]? = some (a, .inr (0, fs))) (k1 k2 k3 k4 : Int32) (hM : ZI l yX0_feedMany cX0_feedMany 7 rX_feedMany D classes tys0 [.ref a, .int k1, .int k2, .int k3, .int k4] W0 post Wf) : ZL (S := S × (Nat → Int64)) l yL_feedMany cL_feedMany 7 [(0, 14, 17, 13)] rL_feedMany D classes ((oc, .long) :: tys0) [.ref a, .int k1, .int k2, .int k3, .int k4, .ref oa] ((oa, .inl (oc, 1, .inr (.inl g))) :: W0) (fun r u => r = 0 ∧ ∃ v, post v u.1 ∧ u.2 0 = v.toInt64) (fun u => (oa, .inl (oc, 1, .inr (.inl u.2))) :: Wf u.1) := by
  refine ZL.of (by decide +kernel) (Nat.le_of_ble_eq_true rfl) ?_
  intro p e s m args below meth c A Q ls C0 hK hP hD hS hA hl hret
  have hx := C0.1
  have hb := C0.2.1
  have hl : lv_has ls 7 [(0, .ref a), (1, .int k1), (2, .int k2), (3, .int k3), (4, .int k4), (5, .ref oa)] := hl
  have hK0 : va_K D classes tys0 s := ⟨hK.1, fun i q h => hK.2 (i + 1) q (by simpa using h)⟩
  refine lv_aload hx hb dL_feedMany_0 (lv_at hl 5 rfl) ?_
  refine lv_iconst (v := 0) hx hb dL_feedMany_2 (by decide) ?_
  refine lv_aload_n hx hb dL_feedMany_3 rfl (lv_at hl 0 rfl) ?_
  refine lv_iload_n hx hb dL_feedMany_4 rfl (lv_at hl 1 rfl) ?_
  refine lv_iload_n hx hb dL_feedMany_5 rfl (lv_at hl 2 rfl) ?_
  refine lv_iload_n hx hb dL_feedMany_6 rfl (lv_at hl 3 rfl) ?_
  refine lv_iload hx hb dL_feedMany_7 (lv_at hl 4 rfl) ?_
  refine zi_callV (As := [.int k1, .int k2, .int k3, .int k4]) (rest := [.int 0, .ref oa]) (q0 := 0) (ci := 0) [(oa, .inl (oc, 1, .inr (.inl g)))] [] C0 hM zv_L_X0_feedMany ⟨by decide, by decide⟩ ⟨rfl, rfl⟩ rfl hK0 (by rw [List.append_nil]; exact hP) (by rw [List.append_nil]; exact hD) hS hA rfl rfl he hl.1 rfl (Nat.le_of_ble_eq_true rfl) dL_feedMany_9 ⟨Nat.zero_le _, Nat.zero_le _⟩ (fun r u H locs hw hP hD hS => ?_)
  rw [List.append_nil] at hP hD
  have hP : va_P D classes ((oa, .inl (oc, 1, .inr (.inl g))) :: Wf u) H := hP
  have hD : va_D A ((oa, .inl (oc, 1, .inr (.inl g))) :: Wf u) := hD
  refine lv_i2l (v := r.toInt64) hx hb dL_feedMany_12 rfl ?_
  refine va_last hx hb hK hP hD hS 0 0 rfl rfl (vp_in_nI (n := 0) (N := 1) (by decide) (by decide)) dL_feedMany_13 (fun H locs hP hD hS => ?_)
  have hP : va_P D classes ((oa, .inl (oc, 1, .inr (.inl (vp_updL g (0 : Int32).toNatClampNeg r.toInt64)))) :: Wf u) H := hP
  have hD : va_D A ((oa, .inl (oc, 1, .inr (.inl (vp_updL g (0 : Int32).toNatClampNeg r.toInt64)))) :: Wf u) := hD
  refine lv_goto (tgt := 21) hx hb dL_feedMany_14 (by decide) ?_
  refine lv_iconst (v := 0) hx hb dL_feedMany_21 (by decide) ?_
  exact hret _ ((u, vp_updL g (0 : Int32).toNatClampNeg r.toInt64)) _ _ _ _ hP hD hS ⟨rfl, r, hw, by show vp_updL g (0 : Int32).toNatClampNeg r.toInt64 0 = _; rw [sb_cl0]; exact pk_uLs⟩ dL_feedMany_22
set_option maxHeartbeats 4000000 in
set_option maxRecDepth 100000 in
theorem l_feedMany_x (l : Launch) (D : va_G) (a oa : Nat) (oc : ClassId) (tys0 : List (ClassId × FieldType)) (g : Nat → Int64) (W0 : va_W) (fs : List Value) (he : W0[0]? = some (a, .inr (0, fs))) (k1 k2 k3 k4 : Int32) (hl9 : l.stackTraces = false) (hbad : k4 < 0 ∨ ¬ k4 ≤ 200) : ZLx l yL_feedMany cL_feedMany 7 [(0, 14, 17, 13)] rL_feedMany_x D classes ((oc, .long) :: tys0) [.ref a, .int k1, .int k2, .int k3, .int k4, .ref oa] ((oa, .inl (oc, 1, .inr (.inl g))) :: W0) := by
  refine ZLx.of (by decide +kernel) (Nat.le_of_ble_eq_true rfl) ?_
  intro p e s m args below meth c Q ls C0 htab hK hP hD hxh hl hret
  have hx := C0.1
  have hb := C0.2.1
  have hl : lv_has ls 7 [(0, .ref a), (1, .int k1), (2, .int k2), (3, .int k3), (4, .int k4), (5, .ref oa)] := hl
  have hK0 : va_K D classes tys0 s := ⟨hK.1, fun i q h => hK.2 (i + 1) q (by simpa using h)⟩
  refine lv_aload hx hb dL_feedMany_0 (lv_at hl 5 rfl) ?_
  refine lv_iconst (v := 0) hx hb dL_feedMany_2 (by decide) ?_
  refine lv_aload_n hx hb dL_feedMany_3 rfl (lv_at hl 0 rfl) ?_
  refine lv_iload_n hx hb dL_feedMany_4 rfl (lv_at hl 1 rfl) ?_
  refine lv_iload_n hx hb dL_feedMany_5 rfl (lv_at hl 2 rfl) ?_
  refine lv_iload_n hx hb dL_feedMany_6 rfl (lv_at hl 3 rfl) ?_
  refine lv_iload hx hb dL_feedMany_7 (lv_at hl 4 rfl) ?_
  refine zx_callV (As := [.int k1, .int k2, .int k3, .int k4]) (rest := [.int 0, .ref oa]) (q0 := 0) (ci := 0) (⟨0, 14, 17, 13⟩ : ExceptionTableEntry) C0 (c_feedMany_x l hl9 a k1 k2 k3 k4 hbad) zv_L_X0_feedMany ⟨by decide, by decide⟩ ⟨rfl, rfl⟩ rfl hK0 (z_subP (w1 := [(oa, .inl (oc, 1, .inr (.inl g)))]) (w2 := []) (by rw [List.append_nil]; exact hP)) hxh htab rfl (by decide) zk_l13 rfl rfl he hl.1 rfl (Nat.le_of_ble_eq_true rfl) dL_feedMany_9 ⟨by decide, by decide⟩ (fun q9 H locs hS => ?_)
  refine lv_astore (lv' := [(6, .ref q9), (0, .ref a), (1, .int k1), (2, .int k2), (3, .int k3), (4, .int k4), (5, .ref oa)]) hx hb dL_feedMany_17 hl (by decide) rfl (fun ls hl => ?_)
  refine lv_iconst (v := 1) hx hb dL_feedMany_19 (by decide) ?_
  exact hret _ _ _ _ hS dL_feedMany_20
abbrev rL_group : Room := { frames := 2, cells := 0, slots := 0, locals := 42 }
abbrev rL_group_x : Room := { frames := 7, cells := 1, slots := 6, locals := 103 }
set_option maxHeartbeats 4000000 in
set_option maxRecDepth 100000 in
theorem l_group_k {post : Int32 → Prop} (l : Launch) (D : va_G) (a oa : Nat) (oc : ClassId) (tys0 : List (ClassId × FieldType)) (g : Nat → Int64) (W0 : va_W) (fs : List Value) (he : W0[0]? = some (a, .inr (0, fs))) (k1 : Int32) (hM : ZR l yX0_group cX0_group 2 rX_group D classes tys0 [.ref a, .int k1] W0 post) : ZL (S := Nat → Int64) l yL_group cL_group 4 [(0, 9, 12, 13)] rL_group D classes ((oc, .long) :: tys0) [.ref a, .int k1, .ref oa] ((oa, .inl (oc, 1, .inr (.inl g))) :: W0) (fun r u => r = 0 ∧ ∃ v, post v ∧ u 0 = v.toInt64) (fun u => (oa, .inl (oc, 1, .inr (.inl u))) :: W0) := by
  refine ZL.of (by decide +kernel) (Nat.le_of_ble_eq_true rfl) ?_
  intro p e s m args below meth c A Q ls C0 hK hP hD hS hA hl hret
  have hx := C0.1
  have hb := C0.2.1
  have hl : lv_has ls 4 [(0, .ref a), (1, .int k1), (2, .ref oa)] := hl
  have hK0 : va_K D classes tys0 s := ⟨hK.1, fun i q h => hK.2 (i + 1) q (by simpa using h)⟩
  refine lv_aload_n hx hb dL_group_0 rfl (lv_at hl 2 rfl) ?_
  refine lv_iconst (v := 0) hx hb dL_group_1 (by decide) ?_
  refine lv_aload_n hx hb dL_group_2 rfl (lv_at hl 0 rfl) ?_
  refine lv_iload_n hx hb dL_group_3 rfl (lv_at hl 1 rfl) ?_
  refine zr_callV (As := [.int k1]) (rest := [.int 0, .ref oa]) (q0 := 0) (ci := 0) (A := A) C0 hM zv_L_X0_group ⟨by decide, by decide⟩ ⟨rfl, rfl⟩ rfl hK0 (z_subP (w1 := [(oa, .inl (oc, 1, .inr (.inl g)))]) (w2 := []) (by rw [List.append_nil]; exact hP)) (z_subD (w1 := [(oa, .inl (oc, 1, .inr (.inl g)))]) (w2 := []) (by rw [List.append_nil]; exact hD)) rfl rfl he hl.1 rfl (Nat.le_of_ble_eq_true rfl) dL_group_4 ⟨Nat.zero_le _, Nat.zero_le _⟩ (fun r hw => ?_)
  refine lv_i2l (v := r.toInt64) hx hb dL_group_7 rfl ?_
  refine va_last hx hb hK hP hD hS 0 0 rfl rfl (vp_in_nI (n := 0) (N := 1) (by decide) (by decide)) dL_group_8 (fun H locs hP hD hS => ?_)
  have hP : va_P D classes ((oa, .inl (oc, 1, .inr (.inl (vp_updL g (0 : Int32).toNatClampNeg r.toInt64)))) :: W0) H := hP
  have hD : va_D A ((oa, .inl (oc, 1, .inr (.inl (vp_updL g (0 : Int32).toNatClampNeg r.toInt64)))) :: W0) := hD
  refine lv_goto (tgt := 15) hx hb dL_group_9 (by decide) ?_
  refine lv_iconst (v := 0) hx hb dL_group_15 (by decide) ?_
  exact hret _ (vp_updL g (0 : Int32).toNatClampNeg r.toInt64) _ _ _ _ hP hD hS ⟨rfl, r, hw, by show vp_updL g (0 : Int32).toNatClampNeg r.toInt64 0 = _; rw [sb_cl0]; exact pk_uLs⟩ dL_group_16
set_option maxHeartbeats 4000000 in
set_option maxRecDepth 100000 in
theorem l_group_x (l : Launch) (D : va_G) (a oa : Nat) (oc : ClassId) (tys0 : List (ClassId × FieldType)) (g : Nat → Int64) (W0 : va_W) (fs : List Value) (he : W0[0]? = some (a, .inr (0, fs))) (k1 : Int32) (hl9 : l.stackTraces = false) (hbad : k1 < 0 ∨ ¬ k1 < 4) : ZLx l yL_group cL_group 4 [(0, 9, 12, 13)] rL_group_x D classes ((oc, .long) :: tys0) [.ref a, .int k1, .ref oa] ((oa, .inl (oc, 1, .inr (.inl g))) :: W0) := by
  refine ZLx.of (by decide +kernel) (Nat.le_of_ble_eq_true rfl) ?_
  intro p e s m args below meth c Q ls C0 htab hK hP hD hxh hl hret
  have hx := C0.1
  have hb := C0.2.1
  have hl : lv_has ls 4 [(0, .ref a), (1, .int k1), (2, .ref oa)] := hl
  have hK0 : va_K D classes tys0 s := ⟨hK.1, fun i q h => hK.2 (i + 1) q (by simpa using h)⟩
  refine lv_aload_n hx hb dL_group_0 rfl (lv_at hl 2 rfl) ?_
  refine lv_iconst (v := 0) hx hb dL_group_1 (by decide) ?_
  refine lv_aload_n hx hb dL_group_2 rfl (lv_at hl 0 rfl) ?_
  refine lv_iload_n hx hb dL_group_3 rfl (lv_at hl 1 rfl) ?_
  refine zx_callV (As := [.int k1]) (rest := [.int 0, .ref oa]) (q0 := 0) (ci := 0) (⟨0, 9, 12, 13⟩ : ExceptionTableEntry) C0 (c_group_x l hl9 a k1 hbad) zv_L_X0_group ⟨by decide, by decide⟩ ⟨rfl, rfl⟩ rfl hK0 (z_subP (w1 := [(oa, .inl (oc, 1, .inr (.inl g)))]) (w2 := []) (by rw [List.append_nil]; exact hP)) hxh htab rfl (by decide) zk_l13 rfl rfl he hl.1 rfl (Nat.le_of_ble_eq_true rfl) dL_group_4 ⟨by decide, by decide⟩ (fun q9 H locs hS => ?_)
  refine lv_astore_n (lv' := [(3, .ref q9), (0, .ref a), (1, .int k1), (2, .ref oa)]) hx hb dL_group_12 rfl hl (by decide) rfl (fun ls hl => ?_)
  refine lv_iconst (v := 1) hx hb dL_group_13 (by decide) ?_
  exact hret _ _ _ _ hS dL_group_14
abbrev rL_count : Room := { frames := 2, cells := 0, slots := 0, locals := 41 }
abbrev rL_count_x : Room := { frames := 7, cells := 1, slots := 6, locals := 103 }
set_option maxHeartbeats 4000000 in
set_option maxRecDepth 100000 in
theorem l_count_k {post : Int32 → Prop} (l : Launch) (D : va_G) (a oa : Nat) (oc : ClassId) (tys0 : List (ClassId × FieldType)) (g : Nat → Int64) (W0 : va_W) (fs : List Value) (he : W0[0]? = some (a, .inr (0, fs))) (k1 : Int32) (hM : ZR l yX0_count cX0_count 2 rX_count D classes tys0 [.ref a, .int k1] W0 post) : ZL (S := Nat → Int64) l yL_count cL_count 4 [(0, 9, 12, 13)] rL_count D classes ((oc, .long) :: tys0) [.ref a, .int k1, .ref oa] ((oa, .inl (oc, 1, .inr (.inl g))) :: W0) (fun r u => r = 0 ∧ ∃ v, post v ∧ u 0 = v.toInt64) (fun u => (oa, .inl (oc, 1, .inr (.inl u))) :: W0) := by
  refine ZL.of (by decide +kernel) (Nat.le_of_ble_eq_true rfl) ?_
  intro p e s m args below meth c A Q ls C0 hK hP hD hS hA hl hret
  have hx := C0.1
  have hb := C0.2.1
  have hl : lv_has ls 4 [(0, .ref a), (1, .int k1), (2, .ref oa)] := hl
  have hK0 : va_K D classes tys0 s := ⟨hK.1, fun i q h => hK.2 (i + 1) q (by simpa using h)⟩
  refine lv_aload_n hx hb dL_count_0 rfl (lv_at hl 2 rfl) ?_
  refine lv_iconst (v := 0) hx hb dL_count_1 (by decide) ?_
  refine lv_aload_n hx hb dL_count_2 rfl (lv_at hl 0 rfl) ?_
  refine lv_iload_n hx hb dL_count_3 rfl (lv_at hl 1 rfl) ?_
  refine zr_callV (As := [.int k1]) (rest := [.int 0, .ref oa]) (q0 := 0) (ci := 0) (A := A) C0 hM zv_L_X0_count ⟨by decide, by decide⟩ ⟨rfl, rfl⟩ rfl hK0 (z_subP (w1 := [(oa, .inl (oc, 1, .inr (.inl g)))]) (w2 := []) (by rw [List.append_nil]; exact hP)) (z_subD (w1 := [(oa, .inl (oc, 1, .inr (.inl g)))]) (w2 := []) (by rw [List.append_nil]; exact hD)) rfl rfl he hl.1 rfl (Nat.le_of_ble_eq_true rfl) dL_count_4 ⟨Nat.zero_le _, Nat.zero_le _⟩ (fun r hw => ?_)
  refine lv_i2l (v := r.toInt64) hx hb dL_count_7 rfl ?_
  refine va_last hx hb hK hP hD hS 0 0 rfl rfl (vp_in_nI (n := 0) (N := 1) (by decide) (by decide)) dL_count_8 (fun H locs hP hD hS => ?_)
  have hP : va_P D classes ((oa, .inl (oc, 1, .inr (.inl (vp_updL g (0 : Int32).toNatClampNeg r.toInt64)))) :: W0) H := hP
  have hD : va_D A ((oa, .inl (oc, 1, .inr (.inl (vp_updL g (0 : Int32).toNatClampNeg r.toInt64)))) :: W0) := hD
  refine lv_goto (tgt := 15) hx hb dL_count_9 (by decide) ?_
  refine lv_iconst (v := 0) hx hb dL_count_15 (by decide) ?_
  exact hret _ (vp_updL g (0 : Int32).toNatClampNeg r.toInt64) _ _ _ _ hP hD hS ⟨rfl, r, hw, by show vp_updL g (0 : Int32).toNatClampNeg r.toInt64 0 = _; rw [sb_cl0]; exact pk_uLs⟩ dL_count_16
set_option maxHeartbeats 4000000 in
set_option maxRecDepth 100000 in
theorem l_count_x (l : Launch) (D : va_G) (a oa : Nat) (oc : ClassId) (tys0 : List (ClassId × FieldType)) (g : Nat → Int64) (W0 : va_W) (fs : List Value) (he : W0[0]? = some (a, .inr (0, fs))) (k1 : Int32) (hl9 : l.stackTraces = false) (hbad : k1 < 0 ∨ ¬ k1 < 4) : ZLx l yL_count cL_count 4 [(0, 9, 12, 13)] rL_count_x D classes ((oc, .long) :: tys0) [.ref a, .int k1, .ref oa] ((oa, .inl (oc, 1, .inr (.inl g))) :: W0) := by
  refine ZLx.of (by decide +kernel) (Nat.le_of_ble_eq_true rfl) ?_
  intro p e s m args below meth c Q ls C0 htab hK hP hD hxh hl hret
  have hx := C0.1
  have hb := C0.2.1
  have hl : lv_has ls 4 [(0, .ref a), (1, .int k1), (2, .ref oa)] := hl
  have hK0 : va_K D classes tys0 s := ⟨hK.1, fun i q h => hK.2 (i + 1) q (by simpa using h)⟩
  refine lv_aload_n hx hb dL_count_0 rfl (lv_at hl 2 rfl) ?_
  refine lv_iconst (v := 0) hx hb dL_count_1 (by decide) ?_
  refine lv_aload_n hx hb dL_count_2 rfl (lv_at hl 0 rfl) ?_
  refine lv_iload_n hx hb dL_count_3 rfl (lv_at hl 1 rfl) ?_
  refine zx_callV (As := [.int k1]) (rest := [.int 0, .ref oa]) (q0 := 0) (ci := 0) (⟨0, 9, 12, 13⟩ : ExceptionTableEntry) C0 (c_count_x l hl9 a k1 hbad) zv_L_X0_count ⟨by decide, by decide⟩ ⟨rfl, rfl⟩ rfl hK0 (z_subP (w1 := [(oa, .inl (oc, 1, .inr (.inl g)))]) (w2 := []) (by rw [List.append_nil]; exact hP)) hxh htab rfl (by decide) zk_l13 rfl rfl he hl.1 rfl (Nat.le_of_ble_eq_true rfl) dL_count_4 ⟨by decide, by decide⟩ (fun q9 H locs hS => ?_)
  refine lv_astore_n (lv' := [(3, .ref q9), (0, .ref a), (1, .int k1), (2, .ref oa)]) hx hb dL_count_12 rfl hl (by decide) rfl (fun ls hl => ?_)
  refine lv_iconst (v := 1) hx hb dL_count_13 (by decide) ?_
  exact hret _ _ _ _ hS dL_count_14
end
section
/-! THE CLAIM OUT OF ONE WALK OF THE LAW'S BODY. Your part is whole_start (and what it stands on); all else here is the same for every law, but numbers. -/
def R_law : String := "ExternalSorterLaw"
def lw_P (b : Addr) (xs : List Int32) (args : Array Value) (s : State) : Prop := args = #[.ref b] ∧ s.IntsAt b xs ∧ xs.length ≤ 2562 ∧ (Jvm.Cond.and given_1 narrow_1).before args s = true
def lw_Q (_ : Array Value) (s : State) (o : Outcome) (t : State) : Prop := o = .returned (some (.int 1)) ∧ Framed s o t [] 601024 7293000
def lw_Z (below : List Frame) (a : Array Value) (s : State) : State → Prop := fun t => ∃ o, t.status = .running ∧ Ended t below o ∧ lw_Q a s o t
/-- the law's own end, with 1 on the stack, nothing written that was there before, its room as the claim has it -/
theorem lw_ret {p : Program} {l : Launch} {e : Env} {s : State} {m : MethodId} {below : List Frame} {meth : Method} {c : Code} {b : Nat} (hx : p.tables.exec = Jvm.exec) (hb : c.code = code) (hr : meth.sig.returnType = ret) (hlocks : meth.locks = false) {pc : Nat} {H : Heap} {ls : Array Slot} (hdg : decode code pc = .ok (.ireturn, 1)) : W p l e room_1 s m #[Value.ref b] below meth c H [] 601024 7293000 (lw_Z below #[Value.ref b] s) (F0 m pc ls [.int 1]) := by
  intro T hT X
  obtain ⟨fs, hret, hrun, hended, hW, hframe⟩ := X.leave (v := some (.int 1)) (hlocks := hlocks) (fun h => by rw [hr] at h; cases h)
  have hmeth' : T.vm.method? m = some meth := X.method'
  refine ⟨T.setFrames fs, ?_, .returned (some (.int 1)), hrun, hended, rfl, ⟨_, rfl⟩, hW, hframe⟩
  jvm_step X.here [X.here.top, hx, hb, hdg, hmeth', hr, ret, narrow_b1]
  (try refine ⟨rfl, ?_⟩); (try refine ⟨rfl, ?_⟩)
  first | (intro acts; rw [hret _ acts rfl rfl rfl]) | rw [hret _ _ rfl rfl rfl]
  exact Steps.refl _
/-- what holds at the law's entry: the machine, the code, the tables' words (any of lw_tbl by 'hts w (by decide +kernel)'), the script of L ints xs at the cell b, what the Statement gives of the start (any of its parts by flat_of_before) -/
def lw_At (p : Program) (s : State) (m : MethodId) (meth : Method) (c : Code) (b L : Nat) (xs : Nat → Int32) : Prop :=
  p.tables.exec = Jvm.exec ∧ c.code = code ∧ meth.sig.returnType = ret ∧ c.maxLocals = 7 ∧ s.vm.findClass R_law = some m.cls ∧ (∀ w ∈ lw_tbl, w.before #[Value.ref b] s = true) ∧ va_X b L xs s s.heap ∧ b < s.heap.size ∧ meth.locks = false ∧ (Jvm.Cond.and given_1 narrow_1).before #[Value.ref b] s = true
/-! LAW 1: rows for its calls; what holds between class and reference at the loop's head -/
def zsw (own : String) (idx : Nat) (y : MethodName) (b : ByteArray) (k : Nat) (hh : List (Nat × Nat × Nat × Nat)) (n : Nat) : Prop :=
  Cond.codeWith y b k (some .int) hh ∈ zt ∧ Cond.methodLink own idx y ∈ zt ∧ Cond.initialized y.cls ∈ zt ∧ (y.cls ≠ "java/lang/invoke/MethodHandle" ∧ y.cls ≠ "java/lang/invoke/VarHandle" ∧ (parseMethodDescriptor y.desc).map (fun d => d.parameters.length) = some n) ∧ Cond.static y ∈ zt
theorem zsw_cw {R : Room} {s : State} {args : Array Value} {own : String} {idx k n : Nat} {y : MethodName} {b : ByteArray} {hh : List (Nat × Nat × Nat × Nat)} {rm : Room} (h : zsw own idx y b k hh n) (hts : ∀ w ∈ zt, w.before args s = true) (hR : rm.frames + 1 ≤ R.frames ∧ 8 + (k + 11) + rm.locals ≤ R.locals) :
    vx_CSW R s args own idx y b k (some .int) hh (Cond.codeWith y b k (some .int) hh :: zt) rm rm.cells rm.slots n := by
  have hG : GoodIn zt (Cond.codeWith y b k (some .int) hh :: zt) := by
    intro w hw
    rcases List.mem_cons.mp hw with e | hw
    · subst e
      exact ⟨h.1, good_of_word (List.mem_filter.mp h.1).2⟩
    · exact ⟨hw, good_of_word (List.mem_filter.mp hw).2⟩
  refine ⟨⟨rfl, rfl, hR.1, hR.2, pay_in hts hG, List.mem_cons_self⟩, hts _ h.1, hts _ h.2.2.1, ⟨h.2.2.2.1.1, h.2.2.2.1.2.1⟩, fun sig e => ?_, hts _ h.2.1, hts _ h.2.2.2.2⟩
  have h2 := h.2.2.2.1.2.2
  rw [e] at h2
  exact (Option.some.inj h2).symm
section ZLD
variable {p : Program} {l : Launch} {e : Env} {R : Room} {s : State} {m : MethodId} {args : Array Value} {below : List Frame} {meth : Method} {c : Code} {H : Heap} {locs : List Loc} {cells slots : Nat} {Q : State → Prop}
variable {cc : ByteArray} {pc : Nat} {ls : Array Slot} {rest : List Value} {D : va_G} {cl : List vw_C} {A : Nat → Prop} {a : Nat} {tys tys0 : List (ClassId × FieldType)} {W0 : va_W} {nL : Nat} {own : String}
variable {y : MethodName} {b : ByteArray} {k n idx : Nat} {rm : Room} {hh : List (Nat × Nat × Nat × Nat)}
theorem zl_call {S : Type} {post : Int32 → S → Prop} {Wf : S → va_W} {As : List Value} {st0 : List Value} (w1 w2 : va_W) (C0 : CallFix p m c cc nL s args zt own) (hM : ZL l y b k hh rm D cl tys0 As W0 post Wf) (hv : zsw own idx y b k hh n) (hR : rm.frames + 1 ≤ R.frames ∧ 8 + (k + 11) + rm.locals ≤ R.locals) (h0 : rm.cells = 0 ∧ rm.slots = 0) (hn : As.length = n)
    (hK : va_K D cl tys0 s) (hP : va_P D cl (w1 ++ (W0 ++ w2)) H) (hD : va_D A (w1 ++ (W0 ++ w2))) (hS : va_S A s.heap H locs) (hA : ∀ q, s.heap.size ≤ q → A q) (hsize : ls.size = nL) (hst : st0 = As.reverse ++ rest) (hW : (rest.map fun v => v.category).sum ≤ 8) (hdg : decode cc pc = .ok (.invokestatic idx, 3)) (hcs : cells ≤ R.cells ∧ slots ≤ R.slots)
    (kk : ∀ (r : Int32) (u : S) (H1 : Heap) (locs1 : List Loc), post r u → va_P D cl (w1 ++ (Wf u ++ w2)) H1 → va_D A (w1 ++ (Wf u ++ w2)) → va_S A s.heap H1 locs1 → W p l e R s m args below meth c H1 locs1 cells slots Q (F0 m (pc + 3) ls (.int r :: rest))) : W p l e R s m args below meth c H locs cells slots Q (F0 m pc ls st0) := by
  have hP0 := z_subP hP
  have hD0 := z_subD hD
  have hM0 := hM H.size
  rw [h0.1, h0.2] at hM0
  have hcw := zsw_cw (R := R) (rm := rm) hv C0.2.2.2.2 hR
  rw [h0.1, h0.2] at hcw
  have hF := z_freeA hD hS hA
  exact va_calli (vx_runSW (As := As) (rest := rest) C0 hM0 hcw ⟨zPc_blind, fun U hU hW => ⟨rfl, by rw [hU], by rw [hU]; exact hP0, va_K.moved hW.alike hK, hD0.weaken (fun _ _ _ _ => trivial)⟩⟩ rfl hn hsize hst (lv_room hW) hdg ⟨hcs.1, hcs.2⟩) hS (fun q _ h => hF q h) hF (fun r u t H1 locs1 ht _ hw hB _ hk1 hS1 => by
    obtain ⟨g1, -, g3⟩ := hB
    rw [ht] at g1
    obtain ⟨f1, f2⟩ := z_frame hP hD hk1 hF g1 g3
    exact kk r u H1 locs1 hw f1 f2 hS1)
theorem zl_callX {As : List Value} {st0 : List Value} (w1 w2 : va_W) (C0 : CallFix p m c cc nL s args zt own) (hM : ZLx l y b k hh rm D cl tys0 As W0) (hv : zsw own idx y b k hh n) (hR : rm.frames + 1 ≤ R.frames ∧ 8 + (k + 11) + rm.locals ≤ R.locals) (h0 : rm.cells = 1 ∧ rm.slots = 6) (hn : As.length = n)
    (hK : va_K D cl tys0 s) (hP : va_P D cl (w1 ++ (W0 ++ w2)) H) (hD : va_D A (w1 ++ (W0 ++ w2))) (hS : va_S A s.heap H locs) (hA : ∀ q, s.heap.size ≤ q → A q) (hA2 : ∀ q, A q → s.heap.size ≤ q) (hxh : xh s.heap.size s) (hsize : ls.size = nL) (hst : st0 = As.reverse ++ rest) (hW : (rest.map fun v => v.category).sum ≤ 8) (hdg : decode cc pc = .ok (.invokestatic idx, 3)) (hcs : cells + 1 ≤ R.cells ∧ slots + 6 ≤ R.slots)
    (kk : ∀ (H1 : Heap) (locs1 : List Loc), va_P D cl (w1 ++ (W0 ++ w2)) H1 → va_S A s.heap H1 locs1 → W p l e R s m args below meth c H1 locs1 (cells + 1) (slots + 6) Q (F0 m (pc + 3) ls (.int 1 :: rest))) : W p l e R s m args below meth c H locs cells slots Q (F0 m pc ls st0) := by
  have hP0 := z_subP hP
  have hD0 := z_subD hD
  have hcw := zsw_cw (R := R) (rm := rm) hv C0.2.2.2.2 hR
  rw [h0.1, h0.2] at hcw
  refine va_calli (vx_runSW (As := As) (rest := rest) C0 (hM H.size) hcw ⟨zPx_blind, fun U hU hW => ⟨rfl, by rw [hU], by rw [hU]; exact hP0, va_K.moved hW.alike hK, hD0.weaken (fun _ _ _ _ => trivial), xh_at hxh hW hU hS.1 (fun q hq => hS.2.1 q hq (fun z => absurd (hA2 q z) (Nat.not_le.mpr hq)))⟩⟩ rfl hn hsize hst (lv_room hW) hdg ⟨hcs.1, hcs.2⟩) hS (fun q h1 h2 => absurd h2 (Nat.not_le.mpr h1)) (fun q h => hA q (Nat.le_trans hS.1 h)) (fun r u t H1 locs1 ht _ hw _ _ hk1 hS1 => ?_)
  subst hw
  exact kk H1 locs1 (hP.kept (fun i q hq => hk1 q.1 (hP i q hq).lt (Nat.not_le.mpr (hP i q hq).lt))) hS1
theorem z_sld {b L j : Nat} {xs : Nat → Int32} (C0 : CallFix p m c cc nL s args zt own) (hX : va_X b L xs s s.heap) (hbl : b < s.heap.size) (hbA : ¬ A b) (hS : va_S A s.heap H locs) (hj : j < L) (hL : L < 2 ^ 31) (hdg : decode cc pc = .ok (.iaload, 1))
    (kk : W p l e R s m args below meth c H locs cells slots Q (F0 m (pc + 1) ls (.int (xs j) :: rest))) : W p l e R s m args below meth c H locs cells slots Q (F0 m pc ls (.int (nI j) :: .ref b :: rest)) :=
  va_sld C0.1 C0.2.1 hX hbl hbA hS (vp_in_nI hj hL) hdg (by rw [nI_clamp (by omega)]; exact kk)
theorem z_cell {b L j : Nat} {xs : Nat → Int32} (C0 : CallFix p m c cc nL s args zt RL) (hX : va_X b L xs s s.heap) (hbl : b < s.heap.size) (hbA : ¬ A b) (hS : va_S A s.heap H locs) (hL : L < 2 ^ 31) (hj : j < 2 ^ 31) (hsize : ls.size = nL) (hW : (rest.map fun v => v.category).sum ≤ 8) (hR : 1 ≤ R.frames ∧ 21 ≤ R.locals) (hdg : decode cc pc = .ok (.invokestatic 22, 3)) (hcs : cells ≤ R.cells ∧ slots ≤ R.slots)
    (kk : W p l e R s m args below meth c H locs cells slots Q (F0 m (pc + 3) ls (.int (if L ≤ j then 0 else xs j) :: rest))) : W p l e R s m args below meth c H locs cells slots Q (F0 m pc ls (.int (nI j) :: .ref b :: rest)) := by
  have hkb : H[b]? = s.heap[b]? := hS.2.1 b hbl hbA
  exact vp_callSi (W.runS (As := [.ref b, .int (nI j)]) (rest := rest) C0 (l_cell l b L xs j hL hj H.size) (zs_cw (R := R) (rm := rL_cell) zs_L_L_cell C0.2.2.2.2 ⟨hR.1, hR.2⟩) ⟨zPs_blind, fun U hU hW => ⟨rfl, by rw [hU], by rw [hU]; exact (va_X.moved hW.alike hX).kept hkb, Nat.lt_of_lt_of_le hbl hS.1⟩⟩ rfl rfl hsize rfl (lv_room hW) hdg ⟨hcs.1, hcs.2⟩) (fun r er => by subst er; exact kk)
theorem zn_call {S : Type} {post : S → Prop} {Wf : S → va_W} {Tf : S → List (ClassId × FieldType)} {As : List Value} {st0 : List Value} (w1 : va_W) (C0 : CallFix p m c cc nL s args zt own) (hM : ZN l y b k rm D cl (.ref a :: As) W0 post Wf Tf) (hv : zn own idx y b k none n) (hy : y.name = "<init>") (hR : rm.frames + 1 ≤ R.frames ∧ 8 + (k + 11) + rm.locals ≤ R.locals) (hn : As.length = n)
    (hK : va_K D cl tys s) (hP : va_P D cl (w1 ++ (W0 ++ [])) H) (hD : va_D A (w1 ++ (W0 ++ []))) (hS : va_S A s.heap H locs) (hA : ∀ q, s.heap.size ≤ q → A q) (hsize : ls.size = nL) (hst : st0 = As.reverse ++ .ref a :: rest) (hW : (rest.map fun v => v.category).sum ≤ 8) (hdg : decode cc pc = .ok (.invokespecial idx, 3)) (hcs : cells + rm.cells ≤ R.cells ∧ slots + rm.slots ≤ R.slots)
    (kk : ∀ (u : S) (H1 : Heap) (locs1 : List Loc), post u → va_K D cl (tys ++ Tf u) s → va_P D cl (w1 ++ (Wf u ++ [])) H1 → va_D A (w1 ++ (Wf u ++ [])) → va_S A s.heap H1 locs1 → W p l e R s m args below meth c H1 locs1 (cells + rm.cells) (slots + rm.slots) Q (F0 m (pc + 3) ls rest)) : W p l e R s m args below meth c H locs cells slots Q (F0 m pc ls st0) := by
  have hP0 := z_subP hP
  have hD0 := z_subD hD
  have hts := C0.2.2.2.2
  have hF := z_freeA hD hS hA
  have hKe : va_K D cl [] s := hK.sub [] rfl
  have hcw : CallB R s args own idx y b k none (Cond.code y b k none :: zt) rm rm.cells rm.slots n ∧ y.name = "<init>" ∧ (Cond.instanceMethod y).before args s = true := ⟨callB_of n hts (zt_code hv.1) rfl rfl rfl (hts _ hv.2.2.1) (hts _ hv.2.1) hv.2.2.2.1 hR, hy, hts _ hv.2.2.2.2⟩
  exact va_callv (va_runI (As := As) (rest := rest) C0 (hM H.size) hcw ⟨zPc_blind, fun U hU hW => ⟨rfl, by rw [hU], by rw [hU]; exact hP0, va_K.moved hW.alike hKe, hD0.weaken (fun _ _ _ _ => trivial)⟩⟩ rfl hn hsize hst (lv_room hW) hdg hcs) hS (fun q _ h => hF q h) hF (fun u t H1 locs1 ht hal hw hB _ hk1 hS1 => by
    obtain ⟨g1, g2, g3⟩ := hB
    rw [ht] at g1
    obtain ⟨f1, f2⟩ := z_frame hP hD hk1 hF g1 g3
    exact kk u H1 locs1 hw (hK.app (va_K.moved hal.symm g2)) f1 f2 hS1)
end ZLD
set_option maxRecDepth 20000 in
theorem zw_feedMany : zsw RL 43 yL_feedMany cL_feedMany 7 [(0, 14, 17, 13)] 6 := ⟨zt_of (List.mem_append_left _ (by decide +kernel)) (by decide +kernel), zt_of (List.mem_append_left _ (by decide +kernel)) (by decide +kernel), zt_of (List.mem_append_left _ (by decide +kernel)) (by decide +kernel), ⟨by decide +kernel, by decide +kernel, by decide +kernel⟩, zt_of (List.mem_append_left _ (by decide +kernel)) (by decide +kernel)⟩
set_option maxRecDepth 20000 in
theorem zw_group : zsw RL 75 yL_group cL_group 4 [(0, 9, 12, 13)] 3 := ⟨zt_of (List.mem_append_left _ (by decide +kernel)) (by decide +kernel), zt_of (List.mem_append_left _ (by decide +kernel)) (by decide +kernel), zt_of (List.mem_append_left _ (by decide +kernel)) (by decide +kernel), ⟨by decide +kernel, by decide +kernel, by decide +kernel⟩, zt_of (List.mem_append_left _ (by decide +kernel)) (by decide +kernel)⟩
set_option maxRecDepth 20000 in
theorem zw_count : zsw RL 79 yL_count cL_count 4 [(0, 9, 12, 13)] 3 := ⟨zt_of (List.mem_append_left _ (by decide +kernel)) (by decide +kernel), zt_of (List.mem_append_left _ (by decide +kernel)) (by decide +kernel), zt_of (List.mem_append_left _ (by decide +kernel)) (by decide +kernel), ⟨by decide +kernel, by decide +kernel, by decide +kernel⟩, zt_of (List.mem_append_left _ (by decide +kernel)) (by decide +kernel)⟩
/-- the sizes -/
def lS (w n nr : Nat) : Prop := 0 < w ∧ w ≤ 64 ∧ nr ≤ 2001 ∧ n = w * nr ∧ n ≤ 2064
theorem lS.cap {w n nr f : Nat} (h : lS w n nr) (hf : f ≤ n) : f ≤ w * 2048 := by
  obtain ⟨h1, h2, h3, h4, h5⟩ := h
  have : w * nr ≤ w * 2048 := Nat.mul_le_mul_left _ (by omega)
  omega
theorem lS.runs {w n nr r f : Nat} (h : lS w n nr) (hf : f ≤ n) (hr : 0 < f → r * w < f) : rnn r f ≤ nr ∧ (0 < f → r < nr) := by
  obtain ⟨h1, h2, h3, h4, h5⟩ := h
  have key : 0 < f → r < nr := fun z => by
    have h6 := hr z
    have h7 : r * w < nr * w := by rw [Nat.mul_comm nr w]; omega
    exact Nat.lt_of_mul_lt_mul_right h7
  refine ⟨?_, key⟩
  unfold rnn
  split
  · omega
  · exact key (by omega)
/-- what is current, on both sides -/
def lC (G : Nat → Int32) (ck cv cur nk nv gc gu gl gm : Int32) : Prop :=
  (cur = 0 ∧ ck = 0 ∧ cv = 0 ∧ ∀ j, j < 4 → G j = 0) ∨ (cur = 1 ∧ ck = nk ∧ cv = nv ∧ ∀ j, j < 4 → G j = 0) ∨ (cur = 2 ∧ ck = nk ∧ cv = 0 ∧ (G 0, G 1, G 2, G 3) = (gc, gu, gl, gm))
/-- class and reference agree -/
def li (w n : Nat) (K O RL G OM : Nat → Int32) (f r c0 : Nat) (se op ck cv held cur nk nv gc gu gl gm : Int32) : Prop :=
  f ≤ n ∧ xW w r f ∧ (0 < f → r * w < f) ∧ held = nI (f - r * w) ∧ lC G ck cv cur nk nv gc gu gl gm ∧
  ((se = 0 ∧ c0 = 0 ∧ cur = 0 ∧ xO w n K O r f) ∨ (se = 1 ∧ c0 ≤ f ∧ ∃ o : Nat → Nat, xF K O f o ∧ xF K OM f o ∧ xR w r f c0 o RL op))
theorem rnx_le {w r f : Nat} (h : xW w r f) : rnx w r f * w ≤ f := by
  obtain ⟨h1, h2⟩ := h
  unfold rnx
  split
  · exact h1
  · rw [Nat.succ_mul]; omega
theorem fm_le {w r f : Nat} (h : xW w r f) (hw : 0 < w) (h0 : 0 < f → r * w < f) : ∀ j, 0 < f + j → fm_r w r f j * w < f + j
  | 0, hj => h0 hj
  | j + 1, _ => by
    have := rnx_le (xW_fm h hw j)
    show rnx w (fm_r w r f j) (f + j) * w < f + (j + 1)
    omega
/-- how far rows of a kind go is one number -/
theorem gm_uniq {P : Nat → Prop} {c0 f a b : Nat} (ha : c0 + a ≤ f) (ha1 : ∀ i, i < a → P (c0 + i)) (ha2 : c0 + a = f ∨ ¬ P (c0 + a)) (hb : c0 + b ≤ f) (hb1 : ∀ i, i < b → P (c0 + i)) (hb2 : c0 + b = f ∨ ¬ P (c0 + b)) : a = b := by
  rcases Nat.lt_trichotomy a b with q | q | q
  · rcases ha2 with z | z
    · omega
    · exact absurd (hb1 a q) z
  · exact q
  · rcases hb2 with z | z
    · omega
    · exact absurd (ha1 b q) z
theorem w43 {x : Int32} (h : ¬ x < 4) : ¬ x ≤ 3 := fun z => h (by
  have := Int32.le_iff_toInt_le.mp z
  exact Int32.lt_iff_toInt_lt.mpr (by
    have e1 : (3 : Int32).toInt = 3 := by decide
    have e2 : (4 : Int32).toInt = 4 := by decide
    omega))
theorem w34 {x : Int32} (h : x < 4) : x ≤ 3 := Int32.le_iff_toInt_le.mpr (by
  have := Int32.lt_iff_toInt_lt.mp h
  have e1 : (3 : Int32).toInt = 3 := by decide
  have e2 : (4 : Int32).toInt = 4 := by decide
  omega)
theorem cmp_eq {x y : Int64} (h : x = y) : lg_cmp x y = 0 := by
  subst h
  unfold lg_cmp
  rw [if_neg Int64.lt_irrefl, if_pos rfl]
abbrev ow (oa : Nat) (oc : ClassId) (g : Nat → Int64) : Nat × va_E := (oa, .inl (oc, 1, .inr (.inl g)))
abbrev lwd (ad : Nat → Nat) (cs : Nat → ClassId) (bd : Nat → Nat) (cr : Nat → ClassId) (oa : Nat) (oc : ClassId) (w n nr : Nat) (K V O M RL G OM LF : Nat → Int32) (f r c0 : Nat) (se op ck cv th held cur nk nv gc gu gl gm : Int32) (g : Nat → Int64) : va_W :=
  ow oa oc g :: (xw ad cs w n nr K V O M RL G (nI f) (nI r) se (nI c0) op ck cv ++ mw bd cr w n K V OM LF th (nI f) (nI r) held se (nI c0) cur nk nv gc gu gl gm)
abbrev lt9 (cs cr : Nat → ClassId) (oc : ClassId) : List (ClassId × FieldType) := (oc, .long) :: (xt cs ++ mt cr)
/-- what the law stands on -/
def LC (p : Program) (s : State) (m : MethodId) (c : Code) (b L : Nat) (xs : Nat → Int32) (D : va_G) (cs cr : Nat → ClassId) (oc : ClassId) : Prop :=
  CallFix p m c cL_law 7 s #[Value.ref b] zt RL ∧ va_X b L xs s s.heap ∧ b < s.heap.size ∧ va_K D classes (lt9 cs cr oc) s ∧ xh s.heap.size s
/-- the law behind a case: at the loop's step -/
def LB (p : Program) (l : Launch) (e : Env) (s : State) (m : MethodId) (below : List Frame) (meth : Method) (c : Code) (b : Nat) (D : va_G) (ad : Nat → Nat) (cs : Nat → ClassId) (bd : Nat → Nat) (cr : Nat → ClassId) (oa : Nat) (oc : ClassId) (w n nr i : Nat) : Prop :=
  ∀ (K V O M RL G OM LF : Nat → Int32) (f r c0 : Nat) (se op ck cv th held cur nk nv gc gu gl gm : Int32) (g : Nat → Int64) (H : Heap) (locs : List Loc) (ls : Array Slot), li w n K O RL G OM f r c0 se op ck cv held cur nk nv gc gu gl gm →
    va_P D classes (lwd ad cs bd cr oa oc w n nr K V O M RL G OM LF f r c0 se op ck cv th held cur nk nv gc gu gl gm g) H → va_D (fun q => s.heap.size ≤ q) (lwd ad cs bd cr oa oc w n nr K V O M RL G OM LF f r c0 se op ck cv th held cur nk nv gc gu gl gm g) → va_S (fun q => s.heap.size ≤ q) s.heap H locs →
    lv_has ls 7 [(0, .ref b), (1, .ref (ad 0)), (2, .ref (bd 0)), (3, .ref oa), (4, .int (nI i))] → W p l e room_1 s m #[Value.ref b] below meth c H locs (15 + i) (20006 + 6 * i) (lw_Z below #[Value.ref b] s) (F0 m 458 ls [])
end
section
set_option maxHeartbeats 8000000 in
set_option maxRecDepth 100000 in
theorem law_0 {p : Program} {l : Launch} {e : Env} {s : State} {m : MethodId} {below : List Frame} {meth : Method} {c : Code} {b L : Nat} {xs : Nat → Int32} {D : va_G} {ad : Nat → Nat} {cs : Nat → ClassId} {bd : Nat → Nat} {cr : Nat → ClassId} {oa : Nat} {oc : ClassId} {w n nr i : Nat} (hC : LC p s m c b L xs D cs cr oc) (hl9 : l.stackTraces = false) (hi : i + 5 ≤ L) (hL : L ≤ 2562) (hz : lS w n nr) (hB : LB p l e s m below meth c b D ad cs bd cr oa oc w n nr i) (K V O M RL G OM LF : Nat → Int32) (f r c0 : Nat) (se op ck cv th held cur nk nv gc gu gl gm : Int32) (g : Nat → Int64) (H : Heap) (locs : List Loc) (ls : Array Slot) (hI : li w n K O RL G OM f r c0 se op ck cv held cur nk nv gc gu gl gm) (hP : va_P D classes (lwd ad cs bd cr oa oc w n nr K V O M RL G OM LF f r c0 se op ck cv th held cur nk nv gc gu gl gm g) H) (hD : va_D (fun q => s.heap.size ≤ q) (lwd ad cs bd cr oa oc w n nr K V O M RL G OM LF f r c0 se op ck cv th held cur nk nv gc gu gl gm g)) (hS : va_S (fun q => s.heap.size ≤ q) s.heap H locs) (hl : lv_has ls 7 [(0, .ref b), (1, .ref (ad 0)), (2, .ref (bd 0)), (3, .ref oa), (4, .int (nI i))]) : W p l e room_1 s m #[Value.ref b] below meth c H locs (14 + i) (20000 + 6 * i) (lw_Z below #[Value.ref b] s) (F0 m 116 ls []) := by
  obtain ⟨C0, hX, hbl, hK, hxh⟩ := hC
  have hx := C0.1
  have hb := C0.2.1
  have hbA : ¬ (fun q => s.heap.size ≤ q) b := Nat.not_le.mpr hbl
  have hA : ∀ q, s.heap.size ≤ q → (fun q => s.heap.size ≤ q) q := fun _ h => h
  have hKx : va_K D classes (xt cs) s := hK.sub [1, 2, 3, 4, 5, 6] rfl
  have hKm : va_K D classes (mt cr) s := hK.sub [7, 8, 9, 10] rfl
  have hKh : va_K D classes ((oc, .long) :: xt cs) s := hK.sub [0, 1, 2, 3, 4, 5, 6] rfl
  obtain ⟨z1, z2, z3, z4, z5⟩ := id hz
  obtain ⟨l1, l2, l3, l4, l5, l6⟩ := hI
  subst l4
  have hP : va_P D classes ((ow oa oc g) :: ((xw ad cs w n nr K V O M RL G (nI f) (nI r) se (nI c0) op ck cv) ++ (mw bd cr w n K V OM LF th (nI f) (nI r) (nI (f - r * w)) se (nI c0) cur nk nv gc gu gl gm))) H := hP
  have hD : va_D (fun q => s.heap.size ≤ q) ((ow oa oc g) :: ((xw ad cs w n nr K V O M RL G (nI f) (nI r) se (nI c0) op ck cv) ++ (mw bd cr w n K V OM LF th (nI f) (nI r) (nI (f - r * w)) se (nI c0) cur nk nv gc gu gl gm))) := hD
  refine lv_aload_n hx hb dL_law_116 rfl (lv_at hl 1 rfl) ?_
  refine zv_callV (As := []) (rest := []) (q0 := 0) (ci := 0) [(ow oa oc g)] (mw bd cr w n K V OM LF th (nI f) (nI r) (nI (f - r * w)) se (nI c0) cur nk nv gc gu gl gm) C0 (c_reset l D ad cs w n nr (by omega) (by omega) K V O M RL G (nI f) (nI r) se (nI c0) op ck cv) zv_L_X0_reset ⟨by decide, by decide⟩ ⟨rfl, rfl⟩ rfl hKx hP hD hS hA rfl rfl rfl hl.1 rfl (Nat.le_of_ble_eq_true rfl) dL_law_117 ⟨show 14 + i ≤ 601024 by omega, show 20000 + 6 * i ≤ 7293000 by omega⟩ (fun G1 H locs hg hP hD hS => ?_)
  have hP : va_P D classes ((ow oa oc g) :: ((xw ad cs w n nr K V O M RL G1 (nI 0) (nI 0) 0 (nI 0) 0 0 0) ++ (mw bd cr w n K V OM LF th (nI f) (nI r) (nI (f - r * w)) se (nI c0) cur nk nv gc gu gl gm))) H := hP
  have hD : va_D (fun q => s.heap.size ≤ q) ((ow oa oc g) :: ((xw ad cs w n nr K V O M RL G1 (nI 0) (nI 0) 0 (nI 0) 0 0 0) ++ (mw bd cr w n K V OM LF th (nI f) (nI r) (nI (f - r * w)) se (nI c0) cur nk nv gc gu gl gm))) := hD
  refine lv_aload_n hx hb dL_law_120 rfl (lv_at hl 2 rfl) ?_
  refine zv_callV (As := []) (rest := []) (q0 := 0) (ci := 1) ((ow oa oc g) :: (xw ad cs w n nr K V O M RL G1 (nI 0) (nI 0) 0 (nI 0) 0 0 0)) [] C0 (m_reset l D bd cr w n K V OM LF th (nI f) (nI r) (nI (f - r * w)) se (nI c0) cur nk nv gc gu gl gm) zv_L_X1_reset ⟨by decide, by decide⟩ ⟨rfl, rfl⟩ rfl hKm hP hD hS hA rfl rfl rfl hl.1 rfl (Nat.le_of_ble_eq_true rfl) dL_law_121 ⟨show 14 + i ≤ 601024 by omega, show 20000 + 6 * i ≤ 7293000 by omega⟩ (fun u_ H locs h_ hP hD hS => ?_)
  have hP : va_P D classes ((ow oa oc g) :: ((xw ad cs w n nr K V O M RL G1 (nI 0) (nI 0) 0 (nI 0) 0 0 0) ++ (mw bd cr w n K V OM LF 0 (nI 0) (nI 0) 0 0 (nI 0) 0 nk nv gc gu gl gm))) H := hP
  have hD : va_D (fun q => s.heap.size ≤ q) ((ow oa oc g) :: ((xw ad cs w n nr K V O M RL G1 (nI 0) (nI 0) 0 (nI 0) 0 0 0) ++ (mw bd cr w n K V OM LF 0 (nI 0) (nI 0) 0 0 (nI 0) 0 nk nv gc gu gl gm))) := hD
  refine lv_goto (tgt := 458) hx hb dL_law_124 (by decide) ?_
  refine W.widen (k := 15 + i) (n := 20006 + 6 * i) (by omega) (by omega) ?_
  exact hB K V O M RL G1 OM LF 0 0 0 0 0 0 0 0 0 0 nk nv gc gu gl gm g _ _ _ (⟨Nat.zero_le _, ⟨by omega, by omega⟩, fun h => absurd h (Nat.lt_irrefl 0), by rw [Nat.zero_mul]; rfl, Or.inl ⟨rfl, rfl, rfl, hg⟩, Or.inl ⟨rfl, rfl, rfl, xO_0 w n K O⟩⟩) hP hD hS (lv_sub hl [0, 1, 2, 3, 4] rfl)
set_option maxHeartbeats 8000000 in
set_option maxRecDepth 100000 in
theorem law_1 {p : Program} {l : Launch} {e : Env} {s : State} {m : MethodId} {below : List Frame} {meth : Method} {c : Code} {b L : Nat} {xs : Nat → Int32} {D : va_G} {ad : Nat → Nat} {cs : Nat → ClassId} {bd : Nat → Nat} {cr : Nat → ClassId} {oa : Nat} {oc : ClassId} {w n nr i : Nat} (hC : LC p s m c b L xs D cs cr oc) (hl9 : l.stackTraces = false) (hi : i + 5 ≤ L) (hL : L ≤ 2562) (hz : lS w n nr) (hB : LB p l e s m below meth c b D ad cs bd cr oa oc w n nr i) (K V O M RL G OM LF : Nat → Int32) (f r c0 : Nat) (se op ck cv th held cur nk nv gc gu gl gm : Int32) (g : Nat → Int64) (H : Heap) (locs : List Loc) (ls : Array Slot) (hI : li w n K O RL G OM f r c0 se op ck cv held cur nk nv gc gu gl gm) (hP : va_P D classes (lwd ad cs bd cr oa oc w n nr K V O M RL G OM LF f r c0 se op ck cv th held cur nk nv gc gu gl gm g) H) (hD : va_D (fun q => s.heap.size ≤ q) (lwd ad cs bd cr oa oc w n nr K V O M RL G OM LF f r c0 se op ck cv th held cur nk nv gc gu gl gm g)) (hS : va_S (fun q => s.heap.size ≤ q) s.heap H locs) (hl : lv_has ls 7 [(0, .ref b), (1, .ref (ad 0)), (2, .ref (bd 0)), (3, .ref oa), (4, .int (nI i))]) : W p l e room_1 s m #[Value.ref b] below meth c H locs (14 + i) (20000 + 6 * i) (lw_Z below #[Value.ref b] s) (F0 m 127 ls []) := by
  obtain ⟨C0, hX, hbl, hK, hxh⟩ := hC
  have hx := C0.1
  have hb := C0.2.1
  have hbA : ¬ (fun q => s.heap.size ≤ q) b := Nat.not_le.mpr hbl
  have hA : ∀ q, s.heap.size ≤ q → (fun q => s.heap.size ≤ q) q := fun _ h => h
  have hKx : va_K D classes (xt cs) s := hK.sub [1, 2, 3, 4, 5, 6] rfl
  have hKm : va_K D classes (mt cr) s := hK.sub [7, 8, 9, 10] rfl
  have hKh : va_K D classes ((oc, .long) :: xt cs) s := hK.sub [0, 1, 2, 3, 4, 5, 6] rfl
  obtain ⟨z1, z2, z3, z4, z5⟩ := id hz
  obtain ⟨l1, l2, l3, l4, l5, l6⟩ := hI
  subst l4
  rcases l6 with ⟨rfl, rfl, rfl, h6⟩ | ⟨rfl, h7, o, h8, h9, h10⟩
  · rcases Nat.lt_or_ge f n with q | q
    · have hP : va_P D classes ((ow oa oc g) :: ((xw ad cs w n nr K V O M RL G (nI f) (nI r) 0 (nI 0) op ck cv) ++ (mw bd cr w n K V OM LF th (nI f) (nI r) (nI (f - r * w)) 0 (nI 0) 0 nk nv gc gu gl gm))) H := hP
      have hD : va_D (fun q => s.heap.size ≤ q) ((ow oa oc g) :: ((xw ad cs w n nr K V O M RL G (nI f) (nI r) 0 (nI 0) op ck cv) ++ (mw bd cr w n K V OM LF th (nI f) (nI r) (nI (f - r * w)) 0 (nI 0) 0 nk nv gc gu gl gm))) := hD
      refine lv_aload_n hx hb dL_law_127 rfl (lv_at hl 1 rfl) ?_
      refine lv_aload_n hx hb dL_law_128 rfl (lv_at hl 0 rfl) ?_
      refine lv_iload hx hb dL_law_129 (lv_at hl 4 rfl) ?_
      refine lv_iconst (v := 1) hx hb dL_law_131 (by decide) ?_
      refine lv_iadd hx hb dL_law_132 ?_
      refine z_eq (show nI i + 1 = nI (i + 1) from nI_add i 1) ?_
      refine z_sld (j := (i + 1)) C0 hX hbl hbA hS (by omega) (by omega) dL_law_133 ?_
      refine lv_aload_n hx hb dL_law_134 rfl (lv_at hl 0 rfl) ?_
      refine lv_iload hx hb dL_law_135 (lv_at hl 4 rfl) ?_
      refine lv_iconst (v := 2) hx hb dL_law_137 (by decide) ?_
      refine lv_iadd hx hb dL_law_138 ?_
      refine z_eq (show nI i + 2 = nI (i + 2) from nI_add i 2) ?_
      refine z_sld (j := (i + 2)) C0 hX hbl hbA hS (by omega) (by omega) dL_law_139 ?_
      refine zi_callV (As := [.int (xs (i + 1)), .int (xs (i + 2))]) (rest := []) (q0 := 0) (ci := 0) [(ow oa oc g)] (mw bd cr w n K V OM LF th (nI f) (nI r) (nI (f - r * w)) 0 (nI 0) 0 nk nv gc gu gl gm) C0 (c_feed l D ad cs w n nr (by omega) (by omega) K V O M RL G (nI 0) op ck cv (xs (i + 1)) (xs (i + 2)) r f q (by omega) z1 (by omega) h6) zv_L_X0_feed ⟨by decide, by decide⟩ ⟨rfl, rfl⟩ rfl hKx hP hD hS hA rfl rfl rfl hl.1 rfl (Nat.le_of_ble_eq_true rfl) dL_law_140 ⟨show 14 + i ≤ 601024 by omega, show 20000 + 6 * i ≤ 7293000 by omega⟩ (fun v1 u1 H locs h1 hP hD hS => ?_)
      obtain ⟨O1, r1⟩ := u1
      obtain ⟨a1, a2, a3⟩ := h1
      dsimp only at a2 a3 hP hD
      subst a2
      have hP : va_P D classes ((ow oa oc g) :: ((xw ad cs w n nr (upd K f (xs (i + 1))) (upd V f (xs (i + 2))) O1 M RL G (nI (f + 1)) (nI (rnx w r f)) 0 (nI 0) op ck cv) ++ (mw bd cr w n K V OM LF th (nI f) (nI r) (nI (f - r * w)) 0 (nI 0) 0 nk nv gc gu gl gm))) H := hP
      have hD : va_D (fun q => s.heap.size ≤ q) ((ow oa oc g) :: ((xw ad cs w n nr (upd K f (xs (i + 1))) (upd V f (xs (i + 2))) O1 M RL G (nI (f + 1)) (nI (rnx w r f)) 0 (nI 0) op ck cv) ++ (mw bd cr w n K V OM LF th (nI f) (nI r) (nI (f - r * w)) 0 (nI 0) 0 nk nv gc gu gl gm))) := hD
      refine lv_aload_n hx hb dL_law_143 rfl (lv_at hl 2 rfl) ?_
      refine lv_aload_n hx hb dL_law_144 rfl (lv_at hl 0 rfl) ?_
      refine lv_iload hx hb dL_law_145 (lv_at hl 4 rfl) ?_
      refine lv_iconst (v := 1) hx hb dL_law_147 (by decide) ?_
      refine lv_iadd hx hb dL_law_148 ?_
      refine z_eq (show nI i + 1 = nI (i + 1) from nI_add i 1) ?_
      refine z_sld (j := (i + 1)) C0 hX hbl hbA hS (by omega) (by omega) dL_law_149 ?_
      refine lv_aload_n hx hb dL_law_150 rfl (lv_at hl 0 rfl) ?_
      refine lv_iload hx hb dL_law_151 (lv_at hl 4 rfl) ?_
      refine lv_iconst (v := 2) hx hb dL_law_153 (by decide) ?_
      refine lv_iadd hx hb dL_law_154 ?_
      refine z_eq (show nI i + 2 = nI (i + 2) from nI_add i 2) ?_
      refine z_sld (j := (i + 2)) C0 hX hbl hbA hS (by omega) (by omega) dL_law_155 ?_
      refine zi_callV (As := [.int (xs (i + 1)), .int (xs (i + 2))]) (rest := [.int v1]) (q0 := 0) (ci := 1) ((ow oa oc g) :: (xw ad cs w n nr (upd K f (xs (i + 1))) (upd V f (xs (i + 2))) O1 M RL G (nI (f + 1)) (nI (rnx w r f)) 0 (nI 0) op ck cv)) [] C0 (m_feed l D bd cr w n K V OM LF th (nI 0) 0 nk nv gc gu gl gm (xs (i + 1)) (xs (i + 2)) r f q z5 (by omega) l2) zv_L_X1_feed ⟨by decide, by decide⟩ ⟨rfl, rfl⟩ rfl hKm hP hD hS hA rfl rfl rfl hl.1 rfl (Nat.le_of_ble_eq_true rfl) dL_law_156 ⟨show 14 + i ≤ 601024 by omega, show 20000 + 6 * i ≤ 7293000 by omega⟩ (fun v2 r2 H locs h2 hP hD hS => ?_)
      obtain ⟨b1, b2⟩ := h2
      subst b2
      have hP : va_P D classes ((ow oa oc g) :: ((xw ad cs w n nr (upd K f (xs (i + 1))) (upd V f (xs (i + 2))) O1 M RL G (nI (f + 1)) (nI (rnx w r f)) 0 (nI 0) op ck cv) ++ (mw bd cr w n (upd K f (xs (i + 1))) (upd V f (xs (i + 2))) OM LF 0 (nI (f + 1)) (nI (rnx w r f)) (nI (f + 1 - rnx w r f * w)) 0 (nI 0) 0 nk nv gc gu gl gm))) H := hP
      have hD : va_D (fun q => s.heap.size ≤ q) ((ow oa oc g) :: ((xw ad cs w n nr (upd K f (xs (i + 1))) (upd V f (xs (i + 2))) O1 M RL G (nI (f + 1)) (nI (rnx w r f)) 0 (nI 0) op ck cv) ++ (mw bd cr w n (upd K f (xs (i + 1))) (upd V f (xs (i + 2))) OM LF 0 (nI (f + 1)) (nI (rnx w r f)) (nI (f + 1 - rnx w r f * w)) 0 (nI 0) 0 nk nv gc gu gl gm))) := hD
      refine lv_icmp_eq (tgt := 458) hx hb dL_law_159 (by decide) (fun _ => ?_) (fun hne => absurd (a1.trans b1.symm) hne)
      refine W.widen (k := 15 + i) (n := 20006 + 6 * i) (by omega) (by omega) ?_
      exact hB (upd K f (xs (i + 1))) (upd V f (xs (i + 2))) O1 M RL G OM LF (f + 1) (rnx w r f) 0 0 op ck cv 0 (nI (f + 1 - rnx w r f * w)) 0 nk nv gc gu gl gm g _ _ _ (⟨by omega, xW_nx l2 z1, fun _ => by have := rnx_le l2; omega, rfl, l5, Or.inl ⟨rfl, rfl, rfl, a3⟩⟩) hP hD hS (lv_sub hl [0, 1, 2, 3, 4] rfl)
    · have ef : n = f := by omega
      subst ef
      have hP : va_P D classes ((ow oa oc g) :: ((xw ad cs w n nr K V O M RL G (nI n) (nI r) 0 (nI 0) op ck cv) ++ (mw bd cr w n K V OM LF th (nI n) (nI r) (nI (n - r * w)) 0 (nI 0) 0 nk nv gc gu gl gm))) H := hP
      have hD : va_D (fun q => s.heap.size ≤ q) ((ow oa oc g) :: ((xw ad cs w n nr K V O M RL G (nI n) (nI r) 0 (nI 0) op ck cv) ++ (mw bd cr w n K V OM LF th (nI n) (nI r) (nI (n - r * w)) 0 (nI 0) 0 nk nv gc gu gl gm))) := hD
      refine lv_aload_n hx hb dL_law_127 rfl (lv_at hl 1 rfl) ?_
      refine lv_aload_n hx hb dL_law_128 rfl (lv_at hl 0 rfl) ?_
      refine lv_iload hx hb dL_law_129 (lv_at hl 4 rfl) ?_
      refine lv_iconst (v := 1) hx hb dL_law_131 (by decide) ?_
      refine lv_iadd hx hb dL_law_132 ?_
      refine z_eq (show nI i + 1 = nI (i + 1) from nI_add i 1) ?_
      refine z_sld (j := (i + 1)) C0 hX hbl hbA hS (by omega) (by omega) dL_law_133 ?_
      refine lv_aload_n hx hb dL_law_134 rfl (lv_at hl 0 rfl) ?_
      refine lv_iload hx hb dL_law_135 (lv_at hl 4 rfl) ?_
      refine lv_iconst (v := 2) hx hb dL_law_137 (by decide) ?_
      refine lv_iadd hx hb dL_law_138 ?_
      refine z_eq (show nI i + 2 = nI (i + 2) from nI_add i 2) ?_
      refine z_sld (j := (i + 2)) C0 hX hbl hbA hS (by omega) (by omega) dL_law_139 ?_
      refine zi_callV (As := [.int (xs (i + 1)), .int (xs (i + 2))]) (rest := []) (q0 := 0) (ci := 0) [(ow oa oc g)] (mw bd cr w n K V OM LF th (nI n) (nI r) (nI (n - r * w)) 0 (nI 0) 0 nk nv gc gu gl gm) C0 (c_feed_f l D ad cs w n nr (by omega) (by omega) K V O M RL G (nI r) (nI 0) op ck cv (xs (i + 1)) (xs (i + 2))) zv_L_X0_feed ⟨by decide, by decide⟩ ⟨rfl, rfl⟩ rfl hKx hP hD hS hA rfl rfl rfl hl.1 rfl (Nat.le_of_ble_eq_true rfl) dL_law_140 ⟨show 14 + i ≤ 601024 by omega, show 20000 + 6 * i ≤ 7293000 by omega⟩ (fun v1 _ H locs h1 hP hD hS => ?_)
      have hP : va_P D classes ((ow oa oc g) :: ((xw ad cs w n nr K V O M RL G (nI n) (nI r) 0 (nI 0) op ck cv) ++ (mw bd cr w n K V OM LF th (nI n) (nI r) (nI (n - r * w)) 0 (nI 0) 0 nk nv gc gu gl gm))) H := hP
      have hD : va_D (fun q => s.heap.size ≤ q) ((ow oa oc g) :: ((xw ad cs w n nr K V O M RL G (nI n) (nI r) 0 (nI 0) op ck cv) ++ (mw bd cr w n K V OM LF th (nI n) (nI r) (nI (n - r * w)) 0 (nI 0) 0 nk nv gc gu gl gm))) := hD
      refine lv_aload_n hx hb dL_law_143 rfl (lv_at hl 2 rfl) ?_
      refine lv_aload_n hx hb dL_law_144 rfl (lv_at hl 0 rfl) ?_
      refine lv_iload hx hb dL_law_145 (lv_at hl 4 rfl) ?_
      refine lv_iconst (v := 1) hx hb dL_law_147 (by decide) ?_
      refine lv_iadd hx hb dL_law_148 ?_
      refine z_eq (show nI i + 1 = nI (i + 1) from nI_add i 1) ?_
      refine z_sld (j := (i + 1)) C0 hX hbl hbA hS (by omega) (by omega) dL_law_149 ?_
      refine lv_aload_n hx hb dL_law_150 rfl (lv_at hl 0 rfl) ?_
      refine lv_iload hx hb dL_law_151 (lv_at hl 4 rfl) ?_
      refine lv_iconst (v := 2) hx hb dL_law_153 (by decide) ?_
      refine lv_iadd hx hb dL_law_154 ?_
      refine z_eq (show nI i + 2 = nI (i + 2) from nI_add i 2) ?_
      refine z_sld (j := (i + 2)) C0 hX hbl hbA hS (by omega) (by omega) dL_law_155 ?_
      refine zi_callV (As := [.int (xs (i + 1)), .int (xs (i + 2))]) (rest := [.int v1]) (q0 := 0) (ci := 1) ((ow oa oc g) :: (xw ad cs w n nr K V O M RL G (nI n) (nI r) 0 (nI 0) op ck cv)) [] C0 (m_feed_f l D bd cr w n K V OM LF th (nI r) (nI (n - r * w)) (nI 0) 0 nk nv gc gu gl gm (xs (i + 1)) (xs (i + 2))) zv_L_X1_feed ⟨by decide, by decide⟩ ⟨rfl, rfl⟩ rfl hKm hP hD hS hA rfl rfl rfl hl.1 rfl (Nat.le_of_ble_eq_true rfl) dL_law_156 ⟨show 14 + i ≤ 601024 by omega, show 20000 + 6 * i ≤ 7293000 by omega⟩ (fun v2 _ H locs h2 hP hD hS => ?_)
      have hP : va_P D classes ((ow oa oc g) :: ((xw ad cs w n nr K V O M RL G (nI n) (nI r) 0 (nI 0) op ck cv) ++ (mw bd cr w n K V OM LF 0 (nI n) (nI r) (nI (n - r * w)) 0 (nI 0) 0 nk nv gc gu gl gm))) H := hP
      have hD : va_D (fun q => s.heap.size ≤ q) ((ow oa oc g) :: ((xw ad cs w n nr K V O M RL G (nI n) (nI r) 0 (nI 0) op ck cv) ++ (mw bd cr w n K V OM LF 0 (nI n) (nI r) (nI (n - r * w)) 0 (nI 0) 0 nk nv gc gu gl gm))) := hD
      refine lv_icmp_eq (tgt := 458) hx hb dL_law_159 (by decide) (fun _ => ?_) (fun hne => absurd (h1.trans h2.symm) hne)
      refine W.widen (k := 15 + i) (n := 20006 + 6 * i) (by omega) (by omega) ?_
      exact hB K V O M RL G OM LF n r 0 0 op ck cv 0 (nI (n - r * w)) 0 nk nv gc gu gl gm g _ _ _ (⟨Nat.le_refl _, l2, l3, rfl, l5, Or.inl ⟨rfl, rfl, rfl, h6⟩⟩) hP hD hS (lv_sub hl [0, 1, 2, 3, 4] rfl)
  · have hP : va_P D classes ((ow oa oc g) :: ((xw ad cs w n nr K V O M RL G (nI f) (nI r) 1 (nI c0) op ck cv) ++ (mw bd cr w n K V OM LF th (nI f) (nI r) (nI (f - r * w)) 1 (nI c0) cur nk nv gc gu gl gm))) H := hP
    have hD : va_D (fun q => s.heap.size ≤ q) ((ow oa oc g) :: ((xw ad cs w n nr K V O M RL G (nI f) (nI r) 1 (nI c0) op ck cv) ++ (mw bd cr w n K V OM LF th (nI f) (nI r) (nI (f - r * w)) 1 (nI c0) cur nk nv gc gu gl gm))) := hD
    refine lv_aload_n hx hb dL_law_127 rfl (lv_at hl 1 rfl) ?_
    refine lv_aload_n hx hb dL_law_128 rfl (lv_at hl 0 rfl) ?_
    refine lv_iload hx hb dL_law_129 (lv_at hl 4 rfl) ?_
    refine lv_iconst (v := 1) hx hb dL_law_131 (by decide) ?_
    refine lv_iadd hx hb dL_law_132 ?_
    refine z_eq (show nI i + 1 = nI (i + 1) from nI_add i 1) ?_
    refine z_sld (j := (i + 1)) C0 hX hbl hbA hS (by omega) (by omega) dL_law_133 ?_
    refine lv_aload_n hx hb dL_law_134 rfl (lv_at hl 0 rfl) ?_
    refine lv_iload hx hb dL_law_135 (lv_at hl 4 rfl) ?_
    refine lv_iconst (v := 2) hx hb dL_law_137 (by decide) ?_
    refine lv_iadd hx hb dL_law_138 ?_
    refine z_eq (show nI i + 2 = nI (i + 2) from nI_add i 2) ?_
    refine z_sld (j := (i + 2)) C0 hX hbl hbA hS (by omega) (by omega) dL_law_139 ?_
    refine zi_callV (As := [.int (xs (i + 1)), .int (xs (i + 2))]) (rest := []) (q0 := 0) (ci := 0) [(ow oa oc g)] (mw bd cr w n K V OM LF th (nI f) (nI r) (nI (f - r * w)) 1 (nI c0) cur nk nv gc gu gl gm) C0 (c_feed_s l D ad cs w n nr (by omega) (by omega) K V O M RL G (nI f) (nI r) (nI c0) op ck cv (xs (i + 1)) (xs (i + 2))) zv_L_X0_feed ⟨by decide, by decide⟩ ⟨rfl, rfl⟩ rfl hKx hP hD hS hA rfl rfl rfl hl.1 rfl (Nat.le_of_ble_eq_true rfl) dL_law_140 ⟨show 14 + i ≤ 601024 by omega, show 20000 + 6 * i ≤ 7293000 by omega⟩ (fun v1 _ H locs h1 hP hD hS => ?_)
    have hP : va_P D classes ((ow oa oc g) :: ((xw ad cs w n nr K V O M RL G (nI f) (nI r) 1 (nI c0) op ck cv) ++ (mw bd cr w n K V OM LF th (nI f) (nI r) (nI (f - r * w)) 1 (nI c0) cur nk nv gc gu gl gm))) H := hP
    have hD : va_D (fun q => s.heap.size ≤ q) ((ow oa oc g) :: ((xw ad cs w n nr K V O M RL G (nI f) (nI r) 1 (nI c0) op ck cv) ++ (mw bd cr w n K V OM LF th (nI f) (nI r) (nI (f - r * w)) 1 (nI c0) cur nk nv gc gu gl gm))) := hD
    refine lv_aload_n hx hb dL_law_143 rfl (lv_at hl 2 rfl) ?_
    refine lv_aload_n hx hb dL_law_144 rfl (lv_at hl 0 rfl) ?_
    refine lv_iload hx hb dL_law_145 (lv_at hl 4 rfl) ?_
    refine lv_iconst (v := 1) hx hb dL_law_147 (by decide) ?_
    refine lv_iadd hx hb dL_law_148 ?_
    refine z_eq (show nI i + 1 = nI (i + 1) from nI_add i 1) ?_
    refine z_sld (j := (i + 1)) C0 hX hbl hbA hS (by omega) (by omega) dL_law_149 ?_
    refine lv_aload_n hx hb dL_law_150 rfl (lv_at hl 0 rfl) ?_
    refine lv_iload hx hb dL_law_151 (lv_at hl 4 rfl) ?_
    refine lv_iconst (v := 2) hx hb dL_law_153 (by decide) ?_
    refine lv_iadd hx hb dL_law_154 ?_
    refine z_eq (show nI i + 2 = nI (i + 2) from nI_add i 2) ?_
    refine z_sld (j := (i + 2)) C0 hX hbl hbA hS (by omega) (by omega) dL_law_155 ?_
    refine zi_callV (As := [.int (xs (i + 1)), .int (xs (i + 2))]) (rest := [.int v1]) (q0 := 0) (ci := 1) ((ow oa oc g) :: (xw ad cs w n nr K V O M RL G (nI f) (nI r) 1 (nI c0) op ck cv)) [] C0 (m_feed_s l D bd cr w n K V OM LF th (nI f) (nI r) (nI (f - r * w)) (nI c0) cur nk nv gc gu gl gm (xs (i + 1)) (xs (i + 2))) zv_L_X1_feed ⟨by decide, by decide⟩ ⟨rfl, rfl⟩ rfl hKm hP hD hS hA rfl rfl rfl hl.1 rfl (Nat.le_of_ble_eq_true rfl) dL_law_156 ⟨show 14 + i ≤ 601024 by omega, show 20000 + 6 * i ≤ 7293000 by omega⟩ (fun v2 _ H locs h2 hP hD hS => ?_)
    have hP : va_P D classes ((ow oa oc g) :: ((xw ad cs w n nr K V O M RL G (nI f) (nI r) 1 (nI c0) op ck cv) ++ (mw bd cr w n K V OM LF 0 (nI f) (nI r) (nI (f - r * w)) 1 (nI c0) cur nk nv gc gu gl gm))) H := hP
    have hD : va_D (fun q => s.heap.size ≤ q) ((ow oa oc g) :: ((xw ad cs w n nr K V O M RL G (nI f) (nI r) 1 (nI c0) op ck cv) ++ (mw bd cr w n K V OM LF 0 (nI f) (nI r) (nI (f - r * w)) 1 (nI c0) cur nk nv gc gu gl gm))) := hD
    refine lv_icmp_eq (tgt := 458) hx hb dL_law_159 (by decide) (fun _ => ?_) (fun hne => absurd (h1.trans h2.symm) hne)
    refine W.widen (k := 15 + i) (n := 20006 + 6 * i) (by omega) (by omega) ?_
    exact hB K V O M RL G OM LF f r c0 1 op ck cv 0 (nI (f - r * w)) cur nk nv gc gu gl gm g _ _ _ (⟨l1, l2, l3, rfl, l5, Or.inr ⟨rfl, h7, o, h8, h9, h10⟩⟩) hP hD hS (lv_sub hl [0, 1, 2, 3, 4] rfl)
set_option maxHeartbeats 8000000 in
set_option maxRecDepth 100000 in
theorem law_3 {p : Program} {l : Launch} {e : Env} {s : State} {m : MethodId} {below : List Frame} {meth : Method} {c : Code} {b L : Nat} {xs : Nat → Int32} {D : va_G} {ad : Nat → Nat} {cs : Nat → ClassId} {bd : Nat → Nat} {cr : Nat → ClassId} {oa : Nat} {oc : ClassId} {w n nr i : Nat} (hC : LC p s m c b L xs D cs cr oc) (hl9 : l.stackTraces = false) (hi : i + 5 ≤ L) (hL : L ≤ 2562) (hz : lS w n nr) (hB : LB p l e s m below meth c b D ad cs bd cr oa oc w n nr i) (K V O M RL G OM LF : Nat → Int32) (f r c0 : Nat) (se op ck cv th held cur nk nv gc gu gl gm : Int32) (g : Nat → Int64) (H : Heap) (locs : List Loc) (ls : Array Slot) (hI : li w n K O RL G OM f r c0 se op ck cv held cur nk nv gc gu gl gm) (hP : va_P D classes (lwd ad cs bd cr oa oc w n nr K V O M RL G OM LF f r c0 se op ck cv th held cur nk nv gc gu gl gm g) H) (hD : va_D (fun q => s.heap.size ≤ q) (lwd ad cs bd cr oa oc w n nr K V O M RL G OM LF f r c0 se op ck cv th held cur nk nv gc gu gl gm g)) (hS : va_S (fun q => s.heap.size ≤ q) s.heap H locs) (hl : lv_has ls 7 [(0, .ref b), (1, .ref (ad 0)), (2, .ref (bd 0)), (3, .ref oa), (4, .int (nI i))]) : W p l e room_1 s m #[Value.ref b] below meth c H locs (14 + i) (20000 + 6 * i) (lw_Z below #[Value.ref b] s) (F0 m 256 ls []) := by
  obtain ⟨C0, hX, hbl, hK, hxh⟩ := hC
  have hx := C0.1
  have hb := C0.2.1
  have hbA : ¬ (fun q => s.heap.size ≤ q) b := Nat.not_le.mpr hbl
  have hA : ∀ q, s.heap.size ≤ q → (fun q => s.heap.size ≤ q) q := fun _ h => h
  have hKx : va_K D classes (xt cs) s := hK.sub [1, 2, 3, 4, 5, 6] rfl
  have hKm : va_K D classes (mt cr) s := hK.sub [7, 8, 9, 10] rfl
  have hKh : va_K D classes ((oc, .long) :: xt cs) s := hK.sub [0, 1, 2, 3, 4, 5, 6] rfl
  obtain ⟨z1, z2, z3, z4, z5⟩ := id hz
  obtain ⟨l1, l2, l3, l4, l5, l6⟩ := hI
  subst l4
  rcases l6 with ⟨rfl, rfl, rfl, h6⟩ | ⟨rfl, h7, o, h8, h9, h10⟩
  · have hP : va_P D classes ((ow oa oc g) :: ((xw ad cs w n nr K V O M RL G (nI f) (nI r) 0 (nI 0) op ck cv) ++ (mw bd cr w n K V OM LF th (nI f) (nI r) (nI (f - r * w)) 0 (nI 0) 0 nk nv gc gu gl gm))) H := hP
    have hD : va_D (fun q => s.heap.size ≤ q) ((ow oa oc g) :: ((xw ad cs w n nr K V O M RL G (nI f) (nI r) 0 (nI 0) op ck cv) ++ (mw bd cr w n K V OM LF th (nI f) (nI r) (nI (f - r * w)) 0 (nI 0) 0 nk nv gc gu gl gm))) := hD
    refine lv_aload_n hx hb dL_law_256 rfl (lv_at hl 1 rfl) ?_
    refine zi_callV (As := []) (rest := []) (q0 := 0) (ci := 0) [(ow oa oc g)] (mw bd cr w n K V OM LF th (nI f) (nI r) (nI (f - r * w)) 0 (nI 0) 0 nk nv gc gu gl gm) C0 (c_seal l D ad cs w n nr (by omega) (by omega) K V O M RL G (nI 0) op ck cv r f (by omega) z1 (by omega) h6 l3 (by rcases Nat.eq_zero_or_pos f with q | q; (have h := l2.1; rw [q] at h; have : r * 1 ≤ r * w := Nat.mul_le_mul_left _ z1; omega); (have := (hz.runs l1 l3).2 q; omega)) (hz.runs l1 l3).1 (hz.cap l1)) zv_L_X0_seal ⟨by decide, by decide⟩ ⟨rfl, rfl⟩ rfl hKx hP hD hS hA rfl rfl rfl hl.1 rfl (Nat.le_of_ble_eq_true rfl) dL_law_257 ⟨show 14 + i ≤ 601024 by omega, show 20000 + 6 * i ≤ 7293000 by omega⟩ (fun v1 u1 H locs h1 hP hD hS => ?_)
    obtain ⟨O1, M1, RL1⟩ := u1
    obtain ⟨a1, o, a2, a3⟩ := h1
    dsimp only at a2 a3 hP hD
    have hP : va_P D classes ((ow oa oc g) :: ((xw ad cs w n nr K V O1 M1 RL1 G (nI f) (nI r) 1 (nI 0) (nI (rnn r f)) ck cv) ++ (mw bd cr w n K V OM LF th (nI f) (nI r) (nI (f - r * w)) 0 (nI 0) 0 nk nv gc gu gl gm))) H := hP
    have hD : va_D (fun q => s.heap.size ≤ q) ((ow oa oc g) :: ((xw ad cs w n nr K V O1 M1 RL1 G (nI f) (nI r) 1 (nI 0) (nI (rnn r f)) ck cv) ++ (mw bd cr w n K V OM LF th (nI f) (nI r) (nI (f - r * w)) 0 (nI 0) 0 nk nv gc gu gl gm))) := hD
    refine lv_aload_n hx hb dL_law_260 rfl (lv_at hl 2 rfl) ?_
    refine zi_callV (As := []) (rest := [.int v1]) (q0 := 0) (ci := 1) ((ow oa oc g) :: (xw ad cs w n nr K V O1 M1 RL1 G (nI f) (nI r) 1 (nI 0) (nI (rnn r f)) ck cv)) [] C0 (m_seal l D bd cr w n K V OM LF th (nI r) (nI (f - r * w)) (nI 0) 0 nk nv gc gu gl gm f (by omega)) zv_L_X1_seal ⟨by decide, by decide⟩ ⟨rfl, rfl⟩ rfl hKm hP hD hS hA rfl rfl rfl hl.1 rfl (Nat.le_of_ble_eq_true rfl) dL_law_261 ⟨show 14 + i ≤ 601024 by omega, show 20000 + 6 * i ≤ 7293000 by omega⟩ (fun v2 OM1 H locs h2 hP hD hS => ?_)
    obtain ⟨b1, o2, b2⟩ := h2
    have hP : va_P D classes ((ow oa oc g) :: ((xw ad cs w n nr K V O1 M1 RL1 G (nI f) (nI r) 1 (nI 0) (nI (rnn r f)) ck cv) ++ (mw bd cr w n K V OM1 LF 0 (nI f) (nI r) (nI (f - r * w)) 1 (nI 0) 0 nk nv gc gu gl gm))) H := hP
    have hD : va_D (fun q => s.heap.size ≤ q) ((ow oa oc g) :: ((xw ad cs w n nr K V O1 M1 RL1 G (nI f) (nI r) 1 (nI 0) (nI (rnn r f)) ck cv) ++ (mw bd cr w n K V OM1 LF 0 (nI f) (nI r) (nI (f - r * w)) 1 (nI 0) 0 nk nv gc gu gl gm))) := hD
    refine lv_icmp_eq (tgt := 458) hx hb dL_law_264 (by decide) (fun _ => ?_) (fun hne => absurd (a1.trans b1.symm) hne)
    refine W.widen (k := 15 + i) (n := 20006 + 6 * i) (by omega) (by omega) ?_
    exact hB K V O1 M1 RL1 G OM1 LF f r 0 1 (nI (rnn r f)) ck cv 0 (nI (f - r * w)) 0 nk nv gc gu gl gm g _ _ _ (⟨l1, l2, l3, rfl, l5, Or.inr ⟨rfl, Nat.zero_le _, o, a2, xF_uniq a2 b2, a3⟩⟩) hP hD hS (lv_sub hl [0, 1, 2, 3, 4] rfl)
  · have hP : va_P D classes ((ow oa oc g) :: ((xw ad cs w n nr K V O M RL G (nI f) (nI r) 1 (nI c0) op ck cv) ++ (mw bd cr w n K V OM LF th (nI f) (nI r) (nI (f - r * w)) 1 (nI c0) cur nk nv gc gu gl gm))) H := hP
    have hD : va_D (fun q => s.heap.size ≤ q) ((ow oa oc g) :: ((xw ad cs w n nr K V O M RL G (nI f) (nI r) 1 (nI c0) op ck cv) ++ (mw bd cr w n K V OM LF th (nI f) (nI r) (nI (f - r * w)) 1 (nI c0) cur nk nv gc gu gl gm))) := hD
    refine lv_aload_n hx hb dL_law_256 rfl (lv_at hl 1 rfl) ?_
    refine zi_callV (As := []) (rest := []) (q0 := 0) (ci := 0) [(ow oa oc g)] (mw bd cr w n K V OM LF th (nI f) (nI r) (nI (f - r * w)) 1 (nI c0) cur nk nv gc gu gl gm) C0 (c_seal_s l D ad cs w n nr (by omega) (by omega) K V O M RL G (nI f) (nI r) (nI c0) op ck cv) zv_L_X0_seal ⟨by decide, by decide⟩ ⟨rfl, rfl⟩ rfl hKx hP hD hS hA rfl rfl rfl hl.1 rfl (Nat.le_of_ble_eq_true rfl) dL_law_257 ⟨show 14 + i ≤ 601024 by omega, show 20000 + 6 * i ≤ 7293000 by omega⟩ (fun v1 _ H locs h1 hP hD hS => ?_)
    have hP : va_P D classes ((ow oa oc g) :: ((xw ad cs w n nr K V O M RL G (nI f) (nI r) 1 (nI c0) op ck cv) ++ (mw bd cr w n K V OM LF th (nI f) (nI r) (nI (f - r * w)) 1 (nI c0) cur nk nv gc gu gl gm))) H := hP
    have hD : va_D (fun q => s.heap.size ≤ q) ((ow oa oc g) :: ((xw ad cs w n nr K V O M RL G (nI f) (nI r) 1 (nI c0) op ck cv) ++ (mw bd cr w n K V OM LF th (nI f) (nI r) (nI (f - r * w)) 1 (nI c0) cur nk nv gc gu gl gm))) := hD
    refine lv_aload_n hx hb dL_law_260 rfl (lv_at hl 2 rfl) ?_
    refine zi_callV (As := []) (rest := [.int v1]) (q0 := 0) (ci := 1) ((ow oa oc g) :: (xw ad cs w n nr K V O M RL G (nI f) (nI r) 1 (nI c0) op ck cv)) [] C0 (m_seal_s l D bd cr w n K V OM LF th (nI f) (nI r) (nI (f - r * w)) (nI c0) cur nk nv gc gu gl gm) zv_L_X1_seal ⟨by decide, by decide⟩ ⟨rfl, rfl⟩ rfl hKm hP hD hS hA rfl rfl rfl hl.1 rfl (Nat.le_of_ble_eq_true rfl) dL_law_261 ⟨show 14 + i ≤ 601024 by omega, show 20000 + 6 * i ≤ 7293000 by omega⟩ (fun v2 _ H locs h2 hP hD hS => ?_)
    have hP : va_P D classes ((ow oa oc g) :: ((xw ad cs w n nr K V O M RL G (nI f) (nI r) 1 (nI c0) op ck cv) ++ (mw bd cr w n K V OM LF 0 (nI f) (nI r) (nI (f - r * w)) 1 (nI c0) cur nk nv gc gu gl gm))) H := hP
    have hD : va_D (fun q => s.heap.size ≤ q) ((ow oa oc g) :: ((xw ad cs w n nr K V O M RL G (nI f) (nI r) 1 (nI c0) op ck cv) ++ (mw bd cr w n K V OM LF 0 (nI f) (nI r) (nI (f - r * w)) 1 (nI c0) cur nk nv gc gu gl gm))) := hD
    refine lv_icmp_eq (tgt := 458) hx hb dL_law_264 (by decide) (fun _ => ?_) (fun hne => absurd (h1.trans h2.symm) hne)
    refine W.widen (k := 15 + i) (n := 20006 + 6 * i) (by omega) (by omega) ?_
    exact hB K V O M RL G OM LF f r c0 1 op ck cv 0 (nI (f - r * w)) cur nk nv gc gu gl gm g _ _ _ (⟨l1, l2, l3, rfl, l5, Or.inr ⟨rfl, h7, o, h8, h9, h10⟩⟩) hP hD hS (lv_sub hl [0, 1, 2, 3, 4] rfl)
set_option maxHeartbeats 8000000 in
set_option maxRecDepth 100000 in
theorem law_4 {p : Program} {l : Launch} {e : Env} {s : State} {m : MethodId} {below : List Frame} {meth : Method} {c : Code} {b L : Nat} {xs : Nat → Int32} {D : va_G} {ad : Nat → Nat} {cs : Nat → ClassId} {bd : Nat → Nat} {cr : Nat → ClassId} {oa : Nat} {oc : ClassId} {w n nr i : Nat} (hC : LC p s m c b L xs D cs cr oc) (hl9 : l.stackTraces = false) (hi : i + 5 ≤ L) (hL : L ≤ 2562) (hz : lS w n nr) (hB : LB p l e s m below meth c b D ad cs bd cr oa oc w n nr i) (K V O M RL G OM LF : Nat → Int32) (f r c0 : Nat) (se op ck cv th held cur nk nv gc gu gl gm : Int32) (g : Nat → Int64) (H : Heap) (locs : List Loc) (ls : Array Slot) (hI : li w n K O RL G OM f r c0 se op ck cv held cur nk nv gc gu gl gm) (hP : va_P D classes (lwd ad cs bd cr oa oc w n nr K V O M RL G OM LF f r c0 se op ck cv th held cur nk nv gc gu gl gm g) H) (hD : va_D (fun q => s.heap.size ≤ q) (lwd ad cs bd cr oa oc w n nr K V O M RL G OM LF f r c0 se op ck cv th held cur nk nv gc gu gl gm g)) (hS : va_S (fun q => s.heap.size ≤ q) s.heap H locs) (hl : lv_has ls 7 [(0, .ref b), (1, .ref (ad 0)), (2, .ref (bd 0)), (3, .ref oa), (4, .int (nI i))]) : W p l e room_1 s m #[Value.ref b] below meth c H locs (14 + i) (20000 + 6 * i) (lw_Z below #[Value.ref b] s) (F0 m 269 ls []) := by
  obtain ⟨C0, hX, hbl, hK, hxh⟩ := hC
  have hx := C0.1
  have hb := C0.2.1
  have hbA : ¬ (fun q => s.heap.size ≤ q) b := Nat.not_le.mpr hbl
  have hA : ∀ q, s.heap.size ≤ q → (fun q => s.heap.size ≤ q) q := fun _ h => h
  have hKx : va_K D classes (xt cs) s := hK.sub [1, 2, 3, 4, 5, 6] rfl
  have hKm : va_K D classes (mt cr) s := hK.sub [7, 8, 9, 10] rfl
  have hKh : va_K D classes ((oc, .long) :: xt cs) s := hK.sub [0, 1, 2, 3, 4, 5, 6] rfl
  obtain ⟨z1, z2, z3, z4, z5⟩ := id hz
  obtain ⟨l1, l2, l3, l4, l5, l6⟩ := hI
  subst l4
  rcases l6 with ⟨rfl, rfl, rfl, h6⟩ | ⟨rfl, h7, o, h8, h9, h10⟩
  · have hP : va_P D classes ((ow oa oc g) :: ((xw ad cs w n nr K V O M RL G (nI f) (nI r) 0 (nI 0) op ck cv) ++ (mw bd cr w n K V OM LF th (nI f) (nI r) (nI (f - r * w)) 0 (nI 0) 0 nk nv gc gu gl gm))) H := hP
    have hD : va_D (fun q => s.heap.size ≤ q) ((ow oa oc g) :: ((xw ad cs w n nr K V O M RL G (nI f) (nI r) 0 (nI 0) op ck cv) ++ (mw bd cr w n K V OM LF th (nI f) (nI r) (nI (f - r * w)) 0 (nI 0) 0 nk nv gc gu gl gm))) := hD
    refine lv_aload_n hx hb dL_law_269 rfl (lv_at hl 1 rfl) ?_
    refine zi_callV (As := []) (rest := []) (q0 := 0) (ci := 0) [(ow oa oc g)] (mw bd cr w n K V OM LF th (nI f) (nI r) (nI (f - r * w)) 0 (nI 0) 0 nk nv gc gu gl gm) C0 (c_nextRow_u l D ad cs w n nr (by omega) (by omega) K V O M RL G (nI f) (nI r) (nI 0) op ck cv) zv_L_X0_nextRow ⟨by decide, by decide⟩ ⟨rfl, rfl⟩ rfl hKx hP hD hS hA rfl rfl rfl hl.1 rfl (Nat.le_of_ble_eq_true rfl) dL_law_270 ⟨show 14 + i ≤ 601024 by omega, show 20000 + 6 * i ≤ 7293000 by omega⟩ (fun v1 _ H locs h1 hP hD hS => ?_)
    have hP : va_P D classes ((ow oa oc g) :: ((xw ad cs w n nr K V O M RL G (nI f) (nI r) 0 (nI 0) op ck cv) ++ (mw bd cr w n K V OM LF th (nI f) (nI r) (nI (f - r * w)) 0 (nI 0) 0 nk nv gc gu gl gm))) H := hP
    have hD : va_D (fun q => s.heap.size ≤ q) ((ow oa oc g) :: ((xw ad cs w n nr K V O M RL G (nI f) (nI r) 0 (nI 0) op ck cv) ++ (mw bd cr w n K V OM LF th (nI f) (nI r) (nI (f - r * w)) 0 (nI 0) 0 nk nv gc gu gl gm))) := hD
    refine lv_aload_n hx hb dL_law_273 rfl (lv_at hl 2 rfl) ?_
    refine zi_callV (As := []) (rest := [.int v1]) (q0 := 0) (ci := 1) ((ow oa oc g) :: (xw ad cs w n nr K V O M RL G (nI f) (nI r) 0 (nI 0) op ck cv)) [] C0 (m_nextRow_u l D bd cr w n K V OM LF th (nI f) (nI r) (nI (f - r * w)) (nI 0) 0 nk nv gc gu gl gm) zv_L_X1_nextRow ⟨by decide, by decide⟩ ⟨rfl, rfl⟩ rfl hKm hP hD hS hA rfl rfl rfl hl.1 rfl (Nat.le_of_ble_eq_true rfl) dL_law_274 ⟨show 14 + i ≤ 601024 by omega, show 20000 + 6 * i ≤ 7293000 by omega⟩ (fun v2 _ H locs h2 hP hD hS => ?_)
    have hP : va_P D classes ((ow oa oc g) :: ((xw ad cs w n nr K V O M RL G (nI f) (nI r) 0 (nI 0) op ck cv) ++ (mw bd cr w n K V OM LF 0 (nI f) (nI r) (nI (f - r * w)) 0 (nI 0) 0 nk nv gc gu gl gm))) H := hP
    have hD : va_D (fun q => s.heap.size ≤ q) ((ow oa oc g) :: ((xw ad cs w n nr K V O M RL G (nI f) (nI r) 0 (nI 0) op ck cv) ++ (mw bd cr w n K V OM LF 0 (nI f) (nI r) (nI (f - r * w)) 0 (nI 0) 0 nk nv gc gu gl gm))) := hD
    refine lv_icmp_eq (tgt := 458) hx hb dL_law_277 (by decide) (fun _ => ?_) (fun hne => absurd (h1.trans h2.symm) hne)
    refine W.widen (k := 15 + i) (n := 20006 + 6 * i) (by omega) (by omega) ?_
    exact hB K V O M RL G OM LF f r 0 0 op ck cv 0 (nI (f - r * w)) 0 nk nv gc gu gl gm g _ _ _ (⟨l1, l2, l3, rfl, l5, Or.inl ⟨rfl, rfl, rfl, h6⟩⟩) hP hD hS (lv_sub hl [0, 1, 2, 3, 4] rfl)
  · rcases Nat.lt_or_ge c0 f with q | q
    · have hP : va_P D classes ((ow oa oc g) :: ((xw ad cs w n nr K V O M RL G (nI f) (nI r) 1 (nI c0) op ck cv) ++ (mw bd cr w n K V OM LF th (nI f) (nI r) (nI (f - r * w)) 1 (nI c0) cur nk nv gc gu gl gm))) H := hP
      have hD : va_D (fun q => s.heap.size ≤ q) ((ow oa oc g) :: ((xw ad cs w n nr K V O M RL G (nI f) (nI r) 1 (nI c0) op ck cv) ++ (mw bd cr w n K V OM LF th (nI f) (nI r) (nI (f - r * w)) 1 (nI c0) cur nk nv gc gu gl gm))) := hD
      refine lv_aload_n hx hb dL_law_269 rfl (lv_at hl 1 rfl) ?_
      refine zi_callV (As := []) (rest := []) (q0 := 0) (ci := 0) [(ow oa oc g)] (mw bd cr w n K V OM LF th (nI f) (nI r) (nI (f - r * w)) 1 (nI c0) cur nk nv gc gu gl gm) C0 (c_nextRow l D ad cs w n nr (by omega) (by omega) K V O M RL G (nI r) op ck cv r f c0 o l1 (by omega) z1 (by omega) h8 h10 l2.2 (hz.runs l1 l3).1 q) zv_L_X0_nextRow ⟨by decide, by decide⟩ ⟨rfl, rfl⟩ rfl hKx hP hD hS hA rfl rfl rfl hl.1 rfl (Nat.le_of_ble_eq_true rfl) dL_law_270 ⟨show 14 + i ≤ 601024 by omega, show 20000 + 6 * i ≤ 7293000 by omega⟩ (fun v1 u1 H locs h1 hP hD hS => ?_)
      obtain ⟨G1, RL1, op1⟩ := u1
      obtain ⟨a1, a2, a3⟩ := h1
      dsimp only at a2 a3 hP hD
      have hP : va_P D classes ((ow oa oc g) :: ((xw ad cs w n nr K V O M RL1 G1 (nI f) (nI r) 1 (nI (c0 + 1)) op1 (K (o c0)) (V (o c0))) ++ (mw bd cr w n K V OM LF th (nI f) (nI r) (nI (f - r * w)) 1 (nI c0) cur nk nv gc gu gl gm))) H := hP
      have hD : va_D (fun q => s.heap.size ≤ q) ((ow oa oc g) :: ((xw ad cs w n nr K V O M RL1 G1 (nI f) (nI r) 1 (nI (c0 + 1)) op1 (K (o c0)) (V (o c0))) ++ (mw bd cr w n K V OM LF th (nI f) (nI r) (nI (f - r * w)) 1 (nI c0) cur nk nv gc gu gl gm))) := hD
      refine lv_aload_n hx hb dL_law_273 rfl (lv_at hl 2 rfl) ?_
      refine zi_callV (As := []) (rest := [.int v1]) (q0 := 0) (ci := 1) ((ow oa oc g) :: (xw ad cs w n nr K V O M RL1 G1 (nI f) (nI r) 1 (nI (c0 + 1)) op1 (K (o c0)) (V (o c0)))) [] C0 (m_nextRow l D bd cr w n K V OM LF th (nI r) (nI (f - r * w)) cur nk nv gc gu gl gm f c0 o (by omega) h9 q) zv_L_X1_nextRow ⟨by decide, by decide⟩ ⟨rfl, rfl⟩ rfl hKm hP hD hS hA rfl rfl rfl hl.1 rfl (Nat.le_of_ble_eq_true rfl) dL_law_274 ⟨show 14 + i ≤ 601024 by omega, show 20000 + 6 * i ≤ 7293000 by omega⟩ (fun v2 _ H locs h2 hP hD hS => ?_)
      have hP : va_P D classes ((ow oa oc g) :: ((xw ad cs w n nr K V O M RL1 G1 (nI f) (nI r) 1 (nI (c0 + 1)) op1 (K (o c0)) (V (o c0))) ++ (mw bd cr w n K V OM LF 0 (nI f) (nI r) (nI (f - r * w)) 1 (nI (c0 + 1)) 1 (K (o c0)) (V (o c0)) gc gu gl gm))) H := hP
      have hD : va_D (fun q => s.heap.size ≤ q) ((ow oa oc g) :: ((xw ad cs w n nr K V O M RL1 G1 (nI f) (nI r) 1 (nI (c0 + 1)) op1 (K (o c0)) (V (o c0))) ++ (mw bd cr w n K V OM LF 0 (nI f) (nI r) (nI (f - r * w)) 1 (nI (c0 + 1)) 1 (K (o c0)) (V (o c0)) gc gu gl gm))) := hD
      refine lv_icmp_eq (tgt := 458) hx hb dL_law_277 (by decide) (fun _ => ?_) (fun hne => absurd (a1.trans h2.symm) hne)
      refine W.widen (k := 15 + i) (n := 20006 + 6 * i) (by omega) (by omega) ?_
      exact hB K V O M RL1 G1 OM LF f r (c0 + 1) 1 op1 (K (o c0)) (V (o c0)) 0 (nI (f - r * w)) 1 (K (o c0)) (V (o c0)) gc gu gl gm g _ _ _ (⟨l1, l2, l3, rfl, Or.inr (Or.inl ⟨rfl, rfl, rfl, a2⟩), Or.inr ⟨rfl, by omega, o, h8, h9, a3⟩⟩) hP hD hS (lv_sub hl [0, 1, 2, 3, 4] rfl)
    · have ef : c0 = f := by omega
      subst ef
      have hP : va_P D classes ((ow oa oc g) :: ((xw ad cs w n nr K V O M RL G (nI c0) (nI r) 1 (nI c0) op ck cv) ++ (mw bd cr w n K V OM LF th (nI c0) (nI r) (nI (c0 - r * w)) 1 (nI c0) cur nk nv gc gu gl gm))) H := hP
      have hD : va_D (fun q => s.heap.size ≤ q) ((ow oa oc g) :: ((xw ad cs w n nr K V O M RL G (nI c0) (nI r) 1 (nI c0) op ck cv) ++ (mw bd cr w n K V OM LF th (nI c0) (nI r) (nI (c0 - r * w)) 1 (nI c0) cur nk nv gc gu gl gm))) := hD
      refine lv_aload_n hx hb dL_law_269 rfl (lv_at hl 1 rfl) ?_
      refine zi_callV (As := []) (rest := []) (q0 := 0) (ci := 0) [(ow oa oc g)] (mw bd cr w n K V OM LF th (nI c0) (nI r) (nI (c0 - r * w)) 1 (nI c0) cur nk nv gc gu gl gm) C0 (c_nextRow_e l D ad cs w n nr (by omega) (by omega) K V O M RL G (nI r) op ck cv c0 l1) zv_L_X0_nextRow ⟨by decide, by decide⟩ ⟨rfl, rfl⟩ rfl hKx hP hD hS hA rfl rfl rfl hl.1 rfl (Nat.le_of_ble_eq_true rfl) dL_law_270 ⟨show 14 + i ≤ 601024 by omega, show 20000 + 6 * i ≤ 7293000 by omega⟩ (fun v1 G1 H locs h1 hP hD hS => ?_)
      have hP : va_P D classes ((ow oa oc g) :: ((xw ad cs w n nr K V O M RL G1 (nI c0) (nI r) 1 (nI c0) op 0 0) ++ (mw bd cr w n K V OM LF th (nI c0) (nI r) (nI (c0 - r * w)) 1 (nI c0) cur nk nv gc gu gl gm))) H := hP
      have hD : va_D (fun q => s.heap.size ≤ q) ((ow oa oc g) :: ((xw ad cs w n nr K V O M RL G1 (nI c0) (nI r) 1 (nI c0) op 0 0) ++ (mw bd cr w n K V OM LF th (nI c0) (nI r) (nI (c0 - r * w)) 1 (nI c0) cur nk nv gc gu gl gm))) := hD
      refine lv_aload_n hx hb dL_law_273 rfl (lv_at hl 2 rfl) ?_
      refine zi_callV (As := []) (rest := [.int v1]) (q0 := 0) (ci := 1) ((ow oa oc g) :: (xw ad cs w n nr K V O M RL G1 (nI c0) (nI r) 1 (nI c0) op 0 0)) [] C0 (m_nextRow_e l D bd cr w n K V OM LF th (nI r) (nI (c0 - r * w)) cur nk nv gc gu gl gm c0) zv_L_X1_nextRow ⟨by decide, by decide⟩ ⟨rfl, rfl⟩ rfl hKm hP hD hS hA rfl rfl rfl hl.1 rfl (Nat.le_of_ble_eq_true rfl) dL_law_274 ⟨show 14 + i ≤ 601024 by omega, show 20000 + 6 * i ≤ 7293000 by omega⟩ (fun v2 _ H locs h2 hP hD hS => ?_)
      have hP : va_P D classes ((ow oa oc g) :: ((xw ad cs w n nr K V O M RL G1 (nI c0) (nI r) 1 (nI c0) op 0 0) ++ (mw bd cr w n K V OM LF 0 (nI c0) (nI r) (nI (c0 - r * w)) 1 (nI c0) 0 nk nv gc gu gl gm))) H := hP
      have hD : va_D (fun q => s.heap.size ≤ q) ((ow oa oc g) :: ((xw ad cs w n nr K V O M RL G1 (nI c0) (nI r) 1 (nI c0) op 0 0) ++ (mw bd cr w n K V OM LF 0 (nI c0) (nI r) (nI (c0 - r * w)) 1 (nI c0) 0 nk nv gc gu gl gm))) := hD
      refine lv_icmp_eq (tgt := 458) hx hb dL_law_277 (by decide) (fun _ => ?_) (fun hne => absurd (h1.1.trans h2.symm) hne)
      refine W.widen (k := 15 + i) (n := 20006 + 6 * i) (by omega) (by omega) ?_
      exact hB K V O M RL G1 OM LF c0 r c0 1 op 0 0 0 (nI (c0 - r * w)) 0 nk nv gc gu gl gm g _ _ _ (⟨l1, l2, l3, rfl, Or.inl ⟨rfl, rfl, rfl, h1.2⟩, Or.inr ⟨rfl, h7, o, h8, h9, h10⟩⟩) hP hD hS (lv_sub hl [0, 1, 2, 3, 4] rfl)
set_option maxHeartbeats 8000000 in
set_option maxRecDepth 100000 in
theorem law_5 {p : Program} {l : Launch} {e : Env} {s : State} {m : MethodId} {below : List Frame} {meth : Method} {c : Code} {b L : Nat} {xs : Nat → Int32} {D : va_G} {ad : Nat → Nat} {cs : Nat → ClassId} {bd : Nat → Nat} {cr : Nat → ClassId} {oa : Nat} {oc : ClassId} {w n nr i : Nat} (hC : LC p s m c b L xs D cs cr oc) (hl9 : l.stackTraces = false) (hi : i + 5 ≤ L) (hL : L ≤ 2562) (hz : lS w n nr) (hB : LB p l e s m below meth c b D ad cs bd cr oa oc w n nr i) (K V O M RL G OM LF : Nat → Int32) (f r c0 : Nat) (se op ck cv th held cur nk nv gc gu gl gm : Int32) (g : Nat → Int64) (H : Heap) (locs : List Loc) (ls : Array Slot) (hI : li w n K O RL G OM f r c0 se op ck cv held cur nk nv gc gu gl gm) (hP : va_P D classes (lwd ad cs bd cr oa oc w n nr K V O M RL G OM LF f r c0 se op ck cv th held cur nk nv gc gu gl gm g) H) (hD : va_D (fun q => s.heap.size ≤ q) (lwd ad cs bd cr oa oc w n nr K V O M RL G OM LF f r c0 se op ck cv th held cur nk nv gc gu gl gm g)) (hS : va_S (fun q => s.heap.size ≤ q) s.heap H locs) (hl : lv_has ls 7 [(0, .ref b), (1, .ref (ad 0)), (2, .ref (bd 0)), (3, .ref oa), (4, .int (nI i))]) : W p l e room_1 s m #[Value.ref b] below meth c H locs (14 + i) (20000 + 6 * i) (lw_Z below #[Value.ref b] s) (F0 m 282 ls []) := by
  obtain ⟨C0, hX, hbl, hK, hxh⟩ := hC
  have hx := C0.1
  have hb := C0.2.1
  have hbA : ¬ (fun q => s.heap.size ≤ q) b := Nat.not_le.mpr hbl
  have hA : ∀ q, s.heap.size ≤ q → (fun q => s.heap.size ≤ q) q := fun _ h => h
  have hKx : va_K D classes (xt cs) s := hK.sub [1, 2, 3, 4, 5, 6] rfl
  have hKm : va_K D classes (mt cr) s := hK.sub [7, 8, 9, 10] rfl
  have hKh : va_K D classes ((oc, .long) :: xt cs) s := hK.sub [0, 1, 2, 3, 4, 5, 6] rfl
  obtain ⟨z1, z2, z3, z4, z5⟩ := id hz
  obtain ⟨l1, l2, l3, l4, l5, l6⟩ := hI
  subst l4
  rcases l6 with ⟨rfl, rfl, rfl, h6⟩ | ⟨rfl, h7, o, h8, h9, h10⟩
  · have hP : va_P D classes ((ow oa oc g) :: ((xw ad cs w n nr K V O M RL G (nI f) (nI r) 0 (nI 0) op ck cv) ++ (mw bd cr w n K V OM LF th (nI f) (nI r) (nI (f - r * w)) 0 (nI 0) 0 nk nv gc gu gl gm))) H := hP
    have hD : va_D (fun q => s.heap.size ≤ q) ((ow oa oc g) :: ((xw ad cs w n nr K V O M RL G (nI f) (nI r) 0 (nI 0) op ck cv) ++ (mw bd cr w n K V OM LF th (nI f) (nI r) (nI (f - r * w)) 0 (nI 0) 0 nk nv gc gu gl gm))) := hD
    refine lv_aload_n hx hb dL_law_282 rfl (lv_at hl 1 rfl) ?_
    refine zi_callV (As := []) (rest := []) (q0 := 0) (ci := 0) [(ow oa oc g)] (mw bd cr w n K V OM LF th (nI f) (nI r) (nI (f - r * w)) 0 (nI 0) 0 nk nv gc gu gl gm) C0 (c_nextGroup_u l D ad cs w n nr (by omega) (by omega) K V O M RL G (nI f) (nI r) (nI 0) op ck cv) zv_L_X0_nextGroup ⟨by decide, by decide⟩ ⟨rfl, rfl⟩ rfl hKx hP hD hS hA rfl rfl rfl hl.1 rfl (Nat.le_of_ble_eq_true rfl) dL_law_283 ⟨show 14 + i ≤ 601024 by omega, show 20000 + 6 * i ≤ 7293000 by omega⟩ (fun v1 _ H locs h1 hP hD hS => ?_)
    have hP : va_P D classes ((ow oa oc g) :: ((xw ad cs w n nr K V O M RL G (nI f) (nI r) 0 (nI 0) op ck cv) ++ (mw bd cr w n K V OM LF th (nI f) (nI r) (nI (f - r * w)) 0 (nI 0) 0 nk nv gc gu gl gm))) H := hP
    have hD : va_D (fun q => s.heap.size ≤ q) ((ow oa oc g) :: ((xw ad cs w n nr K V O M RL G (nI f) (nI r) 0 (nI 0) op ck cv) ++ (mw bd cr w n K V OM LF th (nI f) (nI r) (nI (f - r * w)) 0 (nI 0) 0 nk nv gc gu gl gm))) := hD
    refine lv_aload_n hx hb dL_law_286 rfl (lv_at hl 2 rfl) ?_
    refine zi_callV (As := []) (rest := [.int v1]) (q0 := 0) (ci := 1) ((ow oa oc g) :: (xw ad cs w n nr K V O M RL G (nI f) (nI r) 0 (nI 0) op ck cv)) [] C0 (m_nextGroup_u l D bd cr w n K V OM LF th (nI f) (nI r) (nI (f - r * w)) (nI 0) 0 nk nv gc gu gl gm) zv_L_X1_nextGroup ⟨by decide, by decide⟩ ⟨rfl, rfl⟩ rfl hKm hP hD hS hA rfl rfl rfl hl.1 rfl (Nat.le_of_ble_eq_true rfl) dL_law_287 ⟨show 14 + i ≤ 601024 by omega, show 20000 + 6 * i ≤ 7293000 by omega⟩ (fun v2 _ H locs h2 hP hD hS => ?_)
    have hP : va_P D classes ((ow oa oc g) :: ((xw ad cs w n nr K V O M RL G (nI f) (nI r) 0 (nI 0) op ck cv) ++ (mw bd cr w n K V OM LF 0 (nI f) (nI r) (nI (f - r * w)) 0 (nI 0) 0 nk nv gc gu gl gm))) H := hP
    have hD : va_D (fun q => s.heap.size ≤ q) ((ow oa oc g) :: ((xw ad cs w n nr K V O M RL G (nI f) (nI r) 0 (nI 0) op ck cv) ++ (mw bd cr w n K V OM LF 0 (nI f) (nI r) (nI (f - r * w)) 0 (nI 0) 0 nk nv gc gu gl gm))) := hD
    refine lv_icmp_eq (tgt := 458) hx hb dL_law_290 (by decide) (fun _ => ?_) (fun hne => absurd (h1.trans h2.symm) hne)
    refine W.widen (k := 15 + i) (n := 20006 + 6 * i) (by omega) (by omega) ?_
    exact hB K V O M RL G OM LF f r 0 0 op ck cv 0 (nI (f - r * w)) 0 nk nv gc gu gl gm g _ _ _ (⟨l1, l2, l3, rfl, l5, Or.inl ⟨rfl, rfl, rfl, h6⟩⟩) hP hD hS (lv_sub hl [0, 1, 2, 3, 4] rfl)
  · rcases Nat.lt_or_ge c0 f with q | q
    · have hP : va_P D classes ((ow oa oc g) :: ((xw ad cs w n nr K V O M RL G (nI f) (nI r) 1 (nI c0) op ck cv) ++ (mw bd cr w n K V OM LF th (nI f) (nI r) (nI (f - r * w)) 1 (nI c0) cur nk nv gc gu gl gm))) H := hP
      have hD : va_D (fun q => s.heap.size ≤ q) ((ow oa oc g) :: ((xw ad cs w n nr K V O M RL G (nI f) (nI r) 1 (nI c0) op ck cv) ++ (mw bd cr w n K V OM LF th (nI f) (nI r) (nI (f - r * w)) 1 (nI c0) cur nk nv gc gu gl gm))) := hD
      refine lv_aload_n hx hb dL_law_282 rfl (lv_at hl 1 rfl) ?_
      refine zi_callV (As := []) (rest := []) (q0 := 0) (ci := 0) [(ow oa oc g)] (mw bd cr w n K V OM LF th (nI f) (nI r) (nI (f - r * w)) 1 (nI c0) cur nk nv gc gu gl gm) C0 (c_nextGroup l D ad cs w n nr (by omega) (by omega) K V O M RL G (nI r) op ck cv r f c0 o l1 (by omega) z1 (by omega) h8 h10 l2.2 (hz.runs l1 l3).1 q) zv_L_X0_nextGroup ⟨by decide, by decide⟩ ⟨rfl, rfl⟩ rfl hKx hP hD hS hA rfl rfl rfl hl.1 rfl (Nat.le_of_ble_eq_true rfl) dL_law_283 ⟨show 14 + i ≤ 601024 by omega, show 20000 + 6 * i ≤ 7293000 by omega⟩ (fun v1 u1 H locs h1 hP hD hS => ?_)
      obtain ⟨G1, RL1, op1, mx⟩ := u1
      obtain ⟨a1, a2, a3, a4, a5, a6⟩ := h1
      dsimp only at a2 a3 a4 a5 a6 hP hD
      have hP : va_P D classes ((ow oa oc g) :: ((xw ad cs w n nr K V O M RL1 G1 (nI f) (nI r) 1 (nI (c0 + mx)) op1 (K (o c0)) 0) ++ (mw bd cr w n K V OM LF th (nI f) (nI r) (nI (f - r * w)) 1 (nI c0) cur nk nv gc gu gl gm))) H := hP
      have hD : va_D (fun q => s.heap.size ≤ q) ((ow oa oc g) :: ((xw ad cs w n nr K V O M RL1 G1 (nI f) (nI r) 1 (nI (c0 + mx)) op1 (K (o c0)) 0) ++ (mw bd cr w n K V OM LF th (nI f) (nI r) (nI (f - r * w)) 1 (nI c0) cur nk nv gc gu gl gm))) := hD
      refine lv_aload_n hx hb dL_law_286 rfl (lv_at hl 2 rfl) ?_
      refine zi_callV (As := []) (rest := [.int v1]) (q0 := 0) (ci := 1) ((ow oa oc g) :: (xw ad cs w n nr K V O M RL1 G1 (nI f) (nI r) 1 (nI (c0 + mx)) op1 (K (o c0)) 0)) [] C0 (m_nextGroup l D bd cr w n K V OM LF th (nI r) (nI (f - r * w)) cur nk nv gc gu gl gm f c0 o (by omega) h9 q) zv_L_X1_nextGroup ⟨by decide, by decide⟩ ⟨rfl, rfl⟩ rfl hKm hP hD hS hA rfl rfl rfl hl.1 rfl (Nat.le_of_ble_eq_true rfl) dL_law_287 ⟨show 14 + i ≤ 601024 by omega, show 20000 + 6 * i ≤ 7293000 by omega⟩ (fun v2 u2 H locs h2 hP hD hS => ?_)
      obtain ⟨my, gc1, gu1, gl1, gm1⟩ := u2
      obtain ⟨b1, b2, b3, b4, b5⟩ := h2
      dsimp only at b2 b3 b4 b5 hP hD
      have em : mx = my := gm_uniq (P := fun j => K (o j) = K (o c0)) a2 a3 a4 b2 b3 b4
      subst em
      have hmx : 0 < mx := by
        rcases Nat.eq_zero_or_pos mx with z | z
        · subst z
          rcases a4 with y | y
          · omega
          · exact absurd rfl y
        · exact z
      have hP : va_P D classes ((ow oa oc g) :: ((xw ad cs w n nr K V O M RL1 G1 (nI f) (nI r) 1 (nI (c0 + mx)) op1 (K (o c0)) 0) ++ (mw bd cr w n K V OM LF 0 (nI f) (nI r) (nI (f - r * w)) 1 (nI (c0 + mx)) 2 (K (o c0)) nv gc1 gu1 gl1 gm1))) H := hP
      have hD : va_D (fun q => s.heap.size ≤ q) ((ow oa oc g) :: ((xw ad cs w n nr K V O M RL1 G1 (nI f) (nI r) 1 (nI (c0 + mx)) op1 (K (o c0)) 0) ++ (mw bd cr w n K V OM LF 0 (nI f) (nI r) (nI (f - r * w)) 1 (nI (c0 + mx)) 2 (K (o c0)) nv gc1 gu1 gl1 gm1))) := hD
      refine lv_icmp_eq (tgt := 458) hx hb dL_law_290 (by decide) (fun _ => ?_) (fun hne => absurd (a1.trans b1.symm) hne)
      refine W.widen (k := 15 + i) (n := 20006 + 6 * i) (by omega) (by omega) ?_
      exact hB K V O M RL1 G1 OM LF f r (c0 + mx) 1 op1 (K (o c0)) 0 0 (nI (f - r * w)) 2 (K (o c0)) nv gc1 gu1 gl1 gm1 g _ _ _ (⟨l1, l2, l3, rfl, Or.inr (Or.inr ⟨rfl, rfl, rfl, a5.trans (b5 hmx).symm⟩), Or.inr ⟨rfl, a2, o, h8, h9, a6⟩⟩) hP hD hS (lv_sub hl [0, 1, 2, 3, 4] rfl)
    · have ef : c0 = f := by omega
      subst ef
      have hP : va_P D classes ((ow oa oc g) :: ((xw ad cs w n nr K V O M RL G (nI c0) (nI r) 1 (nI c0) op ck cv) ++ (mw bd cr w n K V OM LF th (nI c0) (nI r) (nI (c0 - r * w)) 1 (nI c0) cur nk nv gc gu gl gm))) H := hP
      have hD : va_D (fun q => s.heap.size ≤ q) ((ow oa oc g) :: ((xw ad cs w n nr K V O M RL G (nI c0) (nI r) 1 (nI c0) op ck cv) ++ (mw bd cr w n K V OM LF th (nI c0) (nI r) (nI (c0 - r * w)) 1 (nI c0) cur nk nv gc gu gl gm))) := hD
      refine lv_aload_n hx hb dL_law_282 rfl (lv_at hl 1 rfl) ?_
      refine zi_callV (As := []) (rest := []) (q0 := 0) (ci := 0) [(ow oa oc g)] (mw bd cr w n K V OM LF th (nI c0) (nI r) (nI (c0 - r * w)) 1 (nI c0) cur nk nv gc gu gl gm) C0 (c_nextGroup_e l D ad cs w n nr (by omega) (by omega) K V O M RL G (nI r) op ck cv c0 l1) zv_L_X0_nextGroup ⟨by decide, by decide⟩ ⟨rfl, rfl⟩ rfl hKx hP hD hS hA rfl rfl rfl hl.1 rfl (Nat.le_of_ble_eq_true rfl) dL_law_283 ⟨show 14 + i ≤ 601024 by omega, show 20000 + 6 * i ≤ 7293000 by omega⟩ (fun v1 G1 H locs h1 hP hD hS => ?_)
      have hP : va_P D classes ((ow oa oc g) :: ((xw ad cs w n nr K V O M RL G1 (nI c0) (nI r) 1 (nI c0) op 0 0) ++ (mw bd cr w n K V OM LF th (nI c0) (nI r) (nI (c0 - r * w)) 1 (nI c0) cur nk nv gc gu gl gm))) H := hP
      have hD : va_D (fun q => s.heap.size ≤ q) ((ow oa oc g) :: ((xw ad cs w n nr K V O M RL G1 (nI c0) (nI r) 1 (nI c0) op 0 0) ++ (mw bd cr w n K V OM LF th (nI c0) (nI r) (nI (c0 - r * w)) 1 (nI c0) cur nk nv gc gu gl gm))) := hD
      refine lv_aload_n hx hb dL_law_286 rfl (lv_at hl 2 rfl) ?_
      refine zi_callV (As := []) (rest := [.int v1]) (q0 := 0) (ci := 1) ((ow oa oc g) :: (xw ad cs w n nr K V O M RL G1 (nI c0) (nI r) 1 (nI c0) op 0 0)) [] C0 (m_nextGroup_e l D bd cr w n K V OM LF th (nI r) (nI (c0 - r * w)) cur nk nv gc gu gl gm c0) zv_L_X1_nextGroup ⟨by decide, by decide⟩ ⟨rfl, rfl⟩ rfl hKm hP hD hS hA rfl rfl rfl hl.1 rfl (Nat.le_of_ble_eq_true rfl) dL_law_287 ⟨show 14 + i ≤ 601024 by omega, show 20000 + 6 * i ≤ 7293000 by omega⟩ (fun v2 _ H locs h2 hP hD hS => ?_)
      have hP : va_P D classes ((ow oa oc g) :: ((xw ad cs w n nr K V O M RL G1 (nI c0) (nI r) 1 (nI c0) op 0 0) ++ (mw bd cr w n K V OM LF 0 (nI c0) (nI r) (nI (c0 - r * w)) 1 (nI c0) 0 nk nv gc gu gl gm))) H := hP
      have hD : va_D (fun q => s.heap.size ≤ q) ((ow oa oc g) :: ((xw ad cs w n nr K V O M RL G1 (nI c0) (nI r) 1 (nI c0) op 0 0) ++ (mw bd cr w n K V OM LF 0 (nI c0) (nI r) (nI (c0 - r * w)) 1 (nI c0) 0 nk nv gc gu gl gm))) := hD
      refine lv_icmp_eq (tgt := 458) hx hb dL_law_290 (by decide) (fun _ => ?_) (fun hne => absurd (h1.1.trans h2.symm) hne)
      refine W.widen (k := 15 + i) (n := 20006 + 6 * i) (by omega) (by omega) ?_
      exact hB K V O M RL G1 OM LF c0 r c0 1 op 0 0 0 (nI (c0 - r * w)) 0 nk nv gc gu gl gm g _ _ _ (⟨l1, l2, l3, rfl, Or.inl ⟨rfl, rfl, rfl, h1.2⟩, Or.inr ⟨rfl, h7, o, h8, h9, h10⟩⟩) hP hD hS (lv_sub hl [0, 1, 2, 3, 4] rfl)
set_option maxHeartbeats 8000000 in
set_option maxRecDepth 100000 in
theorem law_6 {p : Program} {l : Launch} {e : Env} {s : State} {m : MethodId} {below : List Frame} {meth : Method} {c : Code} {b L : Nat} {xs : Nat → Int32} {D : va_G} {ad : Nat → Nat} {cs : Nat → ClassId} {bd : Nat → Nat} {cr : Nat → ClassId} {oa : Nat} {oc : ClassId} {w n nr i : Nat} (hC : LC p s m c b L xs D cs cr oc) (hl9 : l.stackTraces = false) (hi : i + 5 ≤ L) (hL : L ≤ 2562) (hz : lS w n nr) (hB : LB p l e s m below meth c b D ad cs bd cr oa oc w n nr i) (K V O M RL G OM LF : Nat → Int32) (f r c0 : Nat) (se op ck cv th held cur nk nv gc gu gl gm : Int32) (g : Nat → Int64) (H : Heap) (locs : List Loc) (ls : Array Slot) (hI : li w n K O RL G OM f r c0 se op ck cv held cur nk nv gc gu gl gm) (hP : va_P D classes (lwd ad cs bd cr oa oc w n nr K V O M RL G OM LF f r c0 se op ck cv th held cur nk nv gc gu gl gm g) H) (hD : va_D (fun q => s.heap.size ≤ q) (lwd ad cs bd cr oa oc w n nr K V O M RL G OM LF f r c0 se op ck cv th held cur nk nv gc gu gl gm g)) (hS : va_S (fun q => s.heap.size ≤ q) s.heap H locs) (hl : lv_has ls 7 [(0, .ref b), (1, .ref (ad 0)), (2, .ref (bd 0)), (3, .ref oa), (4, .int (nI i))]) : W p l e room_1 s m #[Value.ref b] below meth c H locs (14 + i) (20000 + 6 * i) (lw_Z below #[Value.ref b] s) (F0 m 295 ls []) := by
  obtain ⟨C0, hX, hbl, hK, hxh⟩ := hC
  have hx := C0.1
  have hb := C0.2.1
  have hbA : ¬ (fun q => s.heap.size ≤ q) b := Nat.not_le.mpr hbl
  have hA : ∀ q, s.heap.size ≤ q → (fun q => s.heap.size ≤ q) q := fun _ h => h
  have hKx : va_K D classes (xt cs) s := hK.sub [1, 2, 3, 4, 5, 6] rfl
  have hKm : va_K D classes (mt cr) s := hK.sub [7, 8, 9, 10] rfl
  have hKh : va_K D classes ((oc, .long) :: xt cs) s := hK.sub [0, 1, 2, 3, 4, 5, 6] rfl
  obtain ⟨z1, z2, z3, z4, z5⟩ := id hz
  obtain ⟨l1, l2, l3, l4, l5, l6⟩ := hI
  subst l4
  rcases l6 with ⟨rfl, rfl, rfl, h6⟩ | ⟨rfl, h7, o, h8, h9, h10⟩
  · have hP : va_P D classes ((ow oa oc g) :: ((xw ad cs w n nr K V O M RL G (nI f) (nI r) 0 (nI 0) op ck cv) ++ (mw bd cr w n K V OM LF th (nI f) (nI r) (nI (f - r * w)) 0 (nI 0) 0 nk nv gc gu gl gm))) H := hP
    have hD : va_D (fun q => s.heap.size ≤ q) ((ow oa oc g) :: ((xw ad cs w n nr K V O M RL G (nI f) (nI r) 0 (nI 0) op ck cv) ++ (mw bd cr w n K V OM LF th (nI f) (nI r) (nI (f - r * w)) 0 (nI 0) 0 nk nv gc gu gl gm))) := hD
    refine lv_aload_n hx hb dL_law_295 rfl (lv_at hl 1 rfl) ?_
    refine lv_aload_n hx hb dL_law_296 rfl (lv_at hl 0 rfl) ?_
    refine lv_iload hx hb dL_law_297 (lv_at hl 4 rfl) ?_
    refine lv_iconst (v := 1) hx hb dL_law_299 (by decide) ?_
    refine lv_iadd hx hb dL_law_300 ?_
    refine z_eq (show nI i + 1 = nI (i + 1) from nI_add i 1) ?_
    refine z_sld (j := (i + 1)) C0 hX hbl hbA hS (by omega) (by omega) dL_law_301 ?_
    refine zi_callV (As := [.int (xs (i + 1))]) (rest := []) (q0 := 0) (ci := 0) [(ow oa oc g)] (mw bd cr w n K V OM LF th (nI f) (nI r) (nI (f - r * w)) 0 (nI 0) 0 nk nv gc gu gl gm) C0 (c_skipTo_u l D ad cs w n nr (by omega) (by omega) K V O M RL G (nI f) (nI r) (nI 0) op ck cv (xs (i + 1))) zv_L_X0_skipTo ⟨by decide, by decide⟩ ⟨rfl, rfl⟩ rfl hKx hP hD hS hA rfl rfl rfl hl.1 rfl (Nat.le_of_ble_eq_true rfl) dL_law_302 ⟨show 14 + i ≤ 601024 by omega, show 20000 + 6 * i ≤ 7293000 by omega⟩ (fun v1 _ H locs h1 hP hD hS => ?_)
    have hP : va_P D classes ((ow oa oc g) :: ((xw ad cs w n nr K V O M RL G (nI f) (nI r) 0 (nI 0) op ck cv) ++ (mw bd cr w n K V OM LF th (nI f) (nI r) (nI (f - r * w)) 0 (nI 0) 0 nk nv gc gu gl gm))) H := hP
    have hD : va_D (fun q => s.heap.size ≤ q) ((ow oa oc g) :: ((xw ad cs w n nr K V O M RL G (nI f) (nI r) 0 (nI 0) op ck cv) ++ (mw bd cr w n K V OM LF th (nI f) (nI r) (nI (f - r * w)) 0 (nI 0) 0 nk nv gc gu gl gm))) := hD
    refine lv_aload_n hx hb dL_law_305 rfl (lv_at hl 2 rfl) ?_
    refine lv_aload_n hx hb dL_law_306 rfl (lv_at hl 0 rfl) ?_
    refine lv_iload hx hb dL_law_307 (lv_at hl 4 rfl) ?_
    refine lv_iconst (v := 1) hx hb dL_law_309 (by decide) ?_
    refine lv_iadd hx hb dL_law_310 ?_
    refine z_eq (show nI i + 1 = nI (i + 1) from nI_add i 1) ?_
    refine z_sld (j := (i + 1)) C0 hX hbl hbA hS (by omega) (by omega) dL_law_311 ?_
    refine zi_callV (As := [.int (xs (i + 1))]) (rest := [.int v1]) (q0 := 0) (ci := 1) ((ow oa oc g) :: (xw ad cs w n nr K V O M RL G (nI f) (nI r) 0 (nI 0) op ck cv)) [] C0 (m_skipTo_u l D bd cr w n K V OM LF th (nI f) (nI r) (nI (f - r * w)) (nI 0) 0 nk nv gc gu gl gm (xs (i + 1))) zv_L_X1_skipTo ⟨by decide, by decide⟩ ⟨rfl, rfl⟩ rfl hKm hP hD hS hA rfl rfl rfl hl.1 rfl (Nat.le_of_ble_eq_true rfl) dL_law_312 ⟨show 14 + i ≤ 601024 by omega, show 20000 + 6 * i ≤ 7293000 by omega⟩ (fun v2 _ H locs h2 hP hD hS => ?_)
    have hP : va_P D classes ((ow oa oc g) :: ((xw ad cs w n nr K V O M RL G (nI f) (nI r) 0 (nI 0) op ck cv) ++ (mw bd cr w n K V OM LF 0 (nI f) (nI r) (nI (f - r * w)) 0 (nI 0) 0 nk nv gc gu gl gm))) H := hP
    have hD : va_D (fun q => s.heap.size ≤ q) ((ow oa oc g) :: ((xw ad cs w n nr K V O M RL G (nI f) (nI r) 0 (nI 0) op ck cv) ++ (mw bd cr w n K V OM LF 0 (nI f) (nI r) (nI (f - r * w)) 0 (nI 0) 0 nk nv gc gu gl gm))) := hD
    refine lv_icmp_eq (tgt := 458) hx hb dL_law_315 (by decide) (fun _ => ?_) (fun hne => absurd (h1.trans h2.symm) hne)
    refine W.widen (k := 15 + i) (n := 20006 + 6 * i) (by omega) (by omega) ?_
    exact hB K V O M RL G OM LF f r 0 0 op ck cv 0 (nI (f - r * w)) 0 nk nv gc gu gl gm g _ _ _ (⟨l1, l2, l3, rfl, l5, Or.inl ⟨rfl, rfl, rfl, h6⟩⟩) hP hD hS (lv_sub hl [0, 1, 2, 3, 4] rfl)
  · have hP : va_P D classes ((ow oa oc g) :: ((xw ad cs w n nr K V O M RL G (nI f) (nI r) 1 (nI c0) op ck cv) ++ (mw bd cr w n K V OM LF th (nI f) (nI r) (nI (f - r * w)) 1 (nI c0) cur nk nv gc gu gl gm))) H := hP
    have hD : va_D (fun q => s.heap.size ≤ q) ((ow oa oc g) :: ((xw ad cs w n nr K V O M RL G (nI f) (nI r) 1 (nI c0) op ck cv) ++ (mw bd cr w n K V OM LF th (nI f) (nI r) (nI (f - r * w)) 1 (nI c0) cur nk nv gc gu gl gm))) := hD
    refine lv_aload_n hx hb dL_law_295 rfl (lv_at hl 1 rfl) ?_
    refine lv_aload_n hx hb dL_law_296 rfl (lv_at hl 0 rfl) ?_
    refine lv_iload hx hb dL_law_297 (lv_at hl 4 rfl) ?_
    refine lv_iconst (v := 1) hx hb dL_law_299 (by decide) ?_
    refine lv_iadd hx hb dL_law_300 ?_
    refine z_eq (show nI i + 1 = nI (i + 1) from nI_add i 1) ?_
    refine z_sld (j := (i + 1)) C0 hX hbl hbA hS (by omega) (by omega) dL_law_301 ?_
    refine zi_callV (As := [.int (xs (i + 1))]) (rest := []) (q0 := 0) (ci := 0) [(ow oa oc g)] (mw bd cr w n K V OM LF th (nI f) (nI r) (nI (f - r * w)) 1 (nI c0) cur nk nv gc gu gl gm) C0 (c_skipTo l D ad cs w n nr (by omega) (by omega) K V O M RL G (nI r) op ck cv r f c0 o (xs (i + 1)) l1 (by omega) z1 (by omega) h8 h10 l2.2 (hz.runs l1 l3).1 h7) zv_L_X0_skipTo ⟨by decide, by decide⟩ ⟨rfl, rfl⟩ rfl hKx hP hD hS hA rfl rfl rfl hl.1 rfl (Nat.le_of_ble_eq_true rfl) dL_law_302 ⟨show 14 + i ≤ 601024 by omega, show 20000 + 6 * i ≤ 7293000 by omega⟩ (fun v1 u1 H locs h1 hP hD hS => ?_)
    obtain ⟨G1, RL1, op1, mx⟩ := u1
    obtain ⟨a1, a2, a3, a4, a5, a6⟩ := h1
    dsimp only at a1 a2 a3 a4 a5 a6 hP hD
    have hP : va_P D classes ((ow oa oc g) :: ((xw ad cs w n nr K V O M RL1 G1 (nI f) (nI r) 1 (nI (c0 + mx)) op1 0 0) ++ (mw bd cr w n K V OM LF th (nI f) (nI r) (nI (f - r * w)) 1 (nI c0) cur nk nv gc gu gl gm))) H := hP
    have hD : va_D (fun q => s.heap.size ≤ q) ((ow oa oc g) :: ((xw ad cs w n nr K V O M RL1 G1 (nI f) (nI r) 1 (nI (c0 + mx)) op1 0 0) ++ (mw bd cr w n K V OM LF th (nI f) (nI r) (nI (f - r * w)) 1 (nI c0) cur nk nv gc gu gl gm))) := hD
    refine lv_aload_n hx hb dL_law_305 rfl (lv_at hl 2 rfl) ?_
    refine lv_aload_n hx hb dL_law_306 rfl (lv_at hl 0 rfl) ?_
    refine lv_iload hx hb dL_law_307 (lv_at hl 4 rfl) ?_
    refine lv_iconst (v := 1) hx hb dL_law_309 (by decide) ?_
    refine lv_iadd hx hb dL_law_310 ?_
    refine z_eq (show nI i + 1 = nI (i + 1) from nI_add i 1) ?_
    refine z_sld (j := (i + 1)) C0 hX hbl hbA hS (by omega) (by omega) dL_law_311 ?_
    refine zi_callV (As := [.int (xs (i + 1))]) (rest := [.int v1]) (q0 := 0) (ci := 1) ((ow oa oc g) :: (xw ad cs w n nr K V O M RL1 G1 (nI f) (nI r) 1 (nI (c0 + mx)) op1 0 0)) [] C0 (m_skipTo l D bd cr w n K V OM LF th (nI r) (nI (f - r * w)) cur nk nv gc gu gl gm f c0 o (xs (i + 1)) (by omega) h9 h7) zv_L_X1_skipTo ⟨by decide, by decide⟩ ⟨rfl, rfl⟩ rfl hKm hP hD hS hA rfl rfl rfl hl.1 rfl (Nat.le_of_ble_eq_true rfl) dL_law_312 ⟨show 14 + i ≤ 601024 by omega, show 20000 + 6 * i ≤ 7293000 by omega⟩ (fun v2 my H locs h2 hP hD hS => ?_)
    obtain ⟨b1, b2, b3, b4⟩ := h2
    have em : mx = my := gm_uniq (P := fun j => K (o j) < (xs (i + 1))) a2 a3 a4 b2 b3 b4
    subst em
    have hP : va_P D classes ((ow oa oc g) :: ((xw ad cs w n nr K V O M RL1 G1 (nI f) (nI r) 1 (nI (c0 + mx)) op1 0 0) ++ (mw bd cr w n K V OM LF 0 (nI f) (nI r) (nI (f - r * w)) 1 (nI (c0 + mx)) 0 nk nv gc gu gl gm))) H := hP
    have hD : va_D (fun q => s.heap.size ≤ q) ((ow oa oc g) :: ((xw ad cs w n nr K V O M RL1 G1 (nI f) (nI r) 1 (nI (c0 + mx)) op1 0 0) ++ (mw bd cr w n K V OM LF 0 (nI f) (nI r) (nI (f - r * w)) 1 (nI (c0 + mx)) 0 nk nv gc gu gl gm))) := hD
    refine lv_icmp_eq (tgt := 458) hx hb dL_law_315 (by decide) (fun _ => ?_) (fun hne => absurd (a1.trans b1.symm) hne)
    refine W.widen (k := 15 + i) (n := 20006 + 6 * i) (by omega) (by omega) ?_
    exact hB K V O M RL1 G1 OM LF f r (c0 + mx) 1 op1 0 0 0 (nI (f - r * w)) 0 nk nv gc gu gl gm g _ _ _ (⟨l1, l2, l3, rfl, Or.inl ⟨rfl, rfl, rfl, a5⟩, Or.inr ⟨rfl, a2, o, h8, h9, a6⟩⟩) hP hD hS (lv_sub hl [0, 1, 2, 3, 4] rfl)
theorem lC_key {G : Nat → Int32} {ck cv cur nk nv gc gu gl gm : Int32} (h : lC G ck cv cur nk nv gc gu gl gm) : ck = if cur = 0 then 0 else nk := by
  rcases h with ⟨a, b, -, -⟩ | ⟨a, b, -, -⟩ | ⟨a, b, -, -⟩
  · rw [a, b, if_pos rfl]
  · rw [a, b, if_neg (by decide)]
  · rw [a, b, if_neg (by decide)]
theorem lC_value {G : Nat → Int32} {ck cv cur nk nv gc gu gl gm : Int32} (h : lC G ck cv cur nk nv gc gu gl gm) : cv = if cur = 1 then nv else 0 := by
  rcases h with ⟨a, -, b, -⟩ | ⟨a, -, b, -⟩ | ⟨a, -, b, -⟩
  · rw [a, b, if_neg (by decide)]
  · rw [a, b, if_pos rfl]
  · rw [a, b, if_neg (by decide)]
theorem lC_group {G : Nat → Int32} {ck cv cur nk nv gc gu gl gm : Int32} {j : Nat} (h : lC G ck cv cur nk nv gc gu gl gm) (hj : j ≤ 3) : G j = if cur = 2 then (if nI j = 0 then gc else if nI j = 1 then gu else if nI j = 2 then gl else gm) else 0 := by
  rcases h with ⟨a, -, -, b⟩ | ⟨a, -, -, b⟩ | ⟨a, -, -, b⟩
  · rw [a, b j (by omega), if_neg (by decide)]
  · rw [a, b j (by omega), if_neg (by decide)]
  · rw [a, if_pos rfl]
    have e0 : G 0 = gc := congrArg (fun z => z.1) b
    have e1 : G 1 = gu := congrArg (fun z => z.2.1) b
    have e2 : G 2 = gl := congrArg (fun z => z.2.2.1) b
    have e3 : G 3 = gm := congrArg (fun z => z.2.2.2) b
    rcases (show j = 0 ∨ j = 1 ∨ j = 2 ∨ j = 3 by omega) with q | q | q | q
    · subst q
      exact e0.trans (if_pos rfl).symm
    · subst q
      exact e1.trans ((if_neg (by decide)).trans (if_pos rfl)).symm
    · subst q
      exact e2.trans ((if_neg (by decide)).trans ((if_neg (by decide)).trans (if_pos rfl))).symm
    · subst q
      exact e3.trans ((if_neg (by decide)).trans ((if_neg (by decide)).trans (if_neg (by decide)))).symm
set_option maxHeartbeats 8000000 in
set_option maxRecDepth 100000 in
theorem law_7 {p : Program} {l : Launch} {e : Env} {s : State} {m : MethodId} {below : List Frame} {meth : Method} {c : Code} {b L : Nat} {xs : Nat → Int32} {D : va_G} {ad : Nat → Nat} {cs : Nat → ClassId} {bd : Nat → Nat} {cr : Nat → ClassId} {oa : Nat} {oc : ClassId} {w n nr i : Nat} (hC : LC p s m c b L xs D cs cr oc) (hl9 : l.stackTraces = false) (hi : i + 5 ≤ L) (hL : L ≤ 2562) (hz : lS w n nr) (hB : LB p l e s m below meth c b D ad cs bd cr oa oc w n nr i) (K V O M RL G OM LF : Nat → Int32) (f r c0 : Nat) (se op ck cv th held cur nk nv gc gu gl gm : Int32) (g : Nat → Int64) (H : Heap) (locs : List Loc) (ls : Array Slot) (hI : li w n K O RL G OM f r c0 se op ck cv held cur nk nv gc gu gl gm) (hP : va_P D classes (lwd ad cs bd cr oa oc w n nr K V O M RL G OM LF f r c0 se op ck cv th held cur nk nv gc gu gl gm g) H) (hD : va_D (fun q => s.heap.size ≤ q) (lwd ad cs bd cr oa oc w n nr K V O M RL G OM LF f r c0 se op ck cv th held cur nk nv gc gu gl gm g)) (hS : va_S (fun q => s.heap.size ≤ q) s.heap H locs) (hl : lv_has ls 7 [(0, .ref b), (1, .ref (ad 0)), (2, .ref (bd 0)), (3, .ref oa), (4, .int (nI i))]) : W p l e room_1 s m #[Value.ref b] below meth c H locs (14 + i) (20000 + 6 * i) (lw_Z below #[Value.ref b] s) (F0 m 320 ls []) := by
  obtain ⟨C0, hX, hbl, hK, hxh⟩ := hC
  have hx := C0.1
  have hb := C0.2.1
  have hbA : ¬ (fun q => s.heap.size ≤ q) b := Nat.not_le.mpr hbl
  have hA : ∀ q, s.heap.size ≤ q → (fun q => s.heap.size ≤ q) q := fun _ h => h
  have hKx : va_K D classes (xt cs) s := hK.sub [1, 2, 3, 4, 5, 6] rfl
  have hKm : va_K D classes (mt cr) s := hK.sub [7, 8, 9, 10] rfl
  have hKh : va_K D classes ((oc, .long) :: xt cs) s := hK.sub [0, 1, 2, 3, 4, 5, 6] rfl
  obtain ⟨z1, z2, z3, z4, z5⟩ := id hz
  obtain ⟨l1, l2, l3, l4, l5, l6⟩ := hI
  subst l4
  have hP : va_P D classes ((ow oa oc g) :: ((xw ad cs w n nr K V O M RL G (nI f) (nI r) se (nI c0) op ck cv) ++ (mw bd cr w n K V OM LF th (nI f) (nI r) (nI (f - r * w)) se (nI c0) cur nk nv gc gu gl gm))) H := hP
  have hD : va_D (fun q => s.heap.size ≤ q) ((ow oa oc g) :: ((xw ad cs w n nr K V O M RL G (nI f) (nI r) se (nI c0) op ck cv) ++ (mw bd cr w n K V OM LF th (nI f) (nI r) (nI (f - r * w)) se (nI c0) cur nk nv gc gu gl gm))) := hD
  refine lv_aload_n hx hb dL_law_320 rfl (lv_at hl 1 rfl) ?_
  refine zr_callV (As := []) (rest := []) (q0 := 0) (ci := 0) (A := fun q => s.heap.size ≤ q) C0 (c_key l D ad cs w n nr (by omega) (by omega) K V O M RL G (nI f) (nI r) se (nI c0) op ck cv) zv_L_X0_key ⟨by decide, by decide⟩ ⟨rfl, rfl⟩ rfl hKx (z_subP (w1 := [(ow oa oc g)]) (w2 := (mw bd cr w n K V OM LF th (nI f) (nI r) (nI (f - r * w)) se (nI c0) cur nk nv gc gu gl gm)) hP) (z_subD (w1 := [(ow oa oc g)]) (w2 := (mw bd cr w n K V OM LF th (nI f) (nI r) (nI (f - r * w)) se (nI c0) cur nk nv gc gu gl gm)) hD) rfl rfl rfl hl.1 rfl (Nat.le_of_ble_eq_true rfl) dL_law_321 ⟨show 14 + i ≤ 601024 by omega, show 20000 + 6 * i ≤ 7293000 by omega⟩ (fun v1 h1 => ?_)
  refine lv_aload_n hx hb dL_law_324 rfl (lv_at hl 2 rfl) ?_
  refine zi_callV (As := []) (rest := [.int v1]) (q0 := 0) (ci := 1) ((ow oa oc g) :: (xw ad cs w n nr K V O M RL G (nI f) (nI r) se (nI c0) op ck cv)) [] C0 (m_key l D bd cr w n K V OM LF th (nI f) (nI r) (nI (f - r * w)) se (nI c0) cur nk nv gc gu gl gm) zv_L_X1_key ⟨by decide, by decide⟩ ⟨rfl, rfl⟩ rfl hKm hP hD hS hA rfl rfl rfl hl.1 rfl (Nat.le_of_ble_eq_true rfl) dL_law_325 ⟨show 14 + i ≤ 601024 by omega, show 20000 + 6 * i ≤ 7293000 by omega⟩ (fun v2 _ H locs h2 hP hD hS => ?_)
  have hP : va_P D classes ((ow oa oc g) :: ((xw ad cs w n nr K V O M RL G (nI f) (nI r) se (nI c0) op ck cv) ++ (mw bd cr w n K V OM LF 0 (nI f) (nI r) (nI (f - r * w)) se (nI c0) cur nk nv gc gu gl gm))) H := hP
  have hD : va_D (fun q => s.heap.size ≤ q) ((ow oa oc g) :: ((xw ad cs w n nr K V O M RL G (nI f) (nI r) se (nI c0) op ck cv) ++ (mw bd cr w n K V OM LF 0 (nI f) (nI r) (nI (f - r * w)) se (nI c0) cur nk nv gc gu gl gm))) := hD
  refine lv_icmp_eq (tgt := 458) hx hb dL_law_328 (by decide) (fun _ => ?_) (fun hne => absurd (h1.trans ((lC_key l5).trans h2.symm)) hne)
  refine W.widen (k := 15 + i) (n := 20006 + 6 * i) (by omega) (by omega) ?_
  exact hB K V O M RL G OM LF f r c0 se op ck cv 0 (nI (f - r * w)) cur nk nv gc gu gl gm g _ _ _ (⟨l1, l2, l3, rfl, l5, l6⟩) hP hD hS (lv_sub hl [0, 1, 2, 3, 4] rfl)
set_option maxHeartbeats 8000000 in
set_option maxRecDepth 100000 in
theorem law_8 {p : Program} {l : Launch} {e : Env} {s : State} {m : MethodId} {below : List Frame} {meth : Method} {c : Code} {b L : Nat} {xs : Nat → Int32} {D : va_G} {ad : Nat → Nat} {cs : Nat → ClassId} {bd : Nat → Nat} {cr : Nat → ClassId} {oa : Nat} {oc : ClassId} {w n nr i : Nat} (hC : LC p s m c b L xs D cs cr oc) (hl9 : l.stackTraces = false) (hi : i + 5 ≤ L) (hL : L ≤ 2562) (hz : lS w n nr) (hB : LB p l e s m below meth c b D ad cs bd cr oa oc w n nr i) (K V O M RL G OM LF : Nat → Int32) (f r c0 : Nat) (se op ck cv th held cur nk nv gc gu gl gm : Int32) (g : Nat → Int64) (H : Heap) (locs : List Loc) (ls : Array Slot) (hI : li w n K O RL G OM f r c0 se op ck cv held cur nk nv gc gu gl gm) (hP : va_P D classes (lwd ad cs bd cr oa oc w n nr K V O M RL G OM LF f r c0 se op ck cv th held cur nk nv gc gu gl gm g) H) (hD : va_D (fun q => s.heap.size ≤ q) (lwd ad cs bd cr oa oc w n nr K V O M RL G OM LF f r c0 se op ck cv th held cur nk nv gc gu gl gm g)) (hS : va_S (fun q => s.heap.size ≤ q) s.heap H locs) (hl : lv_has ls 7 [(0, .ref b), (1, .ref (ad 0)), (2, .ref (bd 0)), (3, .ref oa), (4, .int (nI i))]) : W p l e room_1 s m #[Value.ref b] below meth c H locs (14 + i) (20000 + 6 * i) (lw_Z below #[Value.ref b] s) (F0 m 333 ls []) := by
  obtain ⟨C0, hX, hbl, hK, hxh⟩ := hC
  have hx := C0.1
  have hb := C0.2.1
  have hbA : ¬ (fun q => s.heap.size ≤ q) b := Nat.not_le.mpr hbl
  have hA : ∀ q, s.heap.size ≤ q → (fun q => s.heap.size ≤ q) q := fun _ h => h
  have hKx : va_K D classes (xt cs) s := hK.sub [1, 2, 3, 4, 5, 6] rfl
  have hKm : va_K D classes (mt cr) s := hK.sub [7, 8, 9, 10] rfl
  have hKh : va_K D classes ((oc, .long) :: xt cs) s := hK.sub [0, 1, 2, 3, 4, 5, 6] rfl
  obtain ⟨z1, z2, z3, z4, z5⟩ := id hz
  obtain ⟨l1, l2, l3, l4, l5, l6⟩ := hI
  subst l4
  have hP : va_P D classes ((ow oa oc g) :: ((xw ad cs w n nr K V O M RL G (nI f) (nI r) se (nI c0) op ck cv) ++ (mw bd cr w n K V OM LF th (nI f) (nI r) (nI (f - r * w)) se (nI c0) cur nk nv gc gu gl gm))) H := hP
  have hD : va_D (fun q => s.heap.size ≤ q) ((ow oa oc g) :: ((xw ad cs w n nr K V O M RL G (nI f) (nI r) se (nI c0) op ck cv) ++ (mw bd cr w n K V OM LF th (nI f) (nI r) (nI (f - r * w)) se (nI c0) cur nk nv gc gu gl gm))) := hD
  refine lv_aload_n hx hb dL_law_333 rfl (lv_at hl 1 rfl) ?_
  refine zr_callV (As := []) (rest := []) (q0 := 0) (ci := 0) (A := fun q => s.heap.size ≤ q) C0 (c_value l D ad cs w n nr (by omega) (by omega) K V O M RL G (nI f) (nI r) se (nI c0) op ck cv) zv_L_X0_value ⟨by decide, by decide⟩ ⟨rfl, rfl⟩ rfl hKx (z_subP (w1 := [(ow oa oc g)]) (w2 := (mw bd cr w n K V OM LF th (nI f) (nI r) (nI (f - r * w)) se (nI c0) cur nk nv gc gu gl gm)) hP) (z_subD (w1 := [(ow oa oc g)]) (w2 := (mw bd cr w n K V OM LF th (nI f) (nI r) (nI (f - r * w)) se (nI c0) cur nk nv gc gu gl gm)) hD) rfl rfl rfl hl.1 rfl (Nat.le_of_ble_eq_true rfl) dL_law_334 ⟨show 14 + i ≤ 601024 by omega, show 20000 + 6 * i ≤ 7293000 by omega⟩ (fun v1 h1 => ?_)
  refine lv_aload_n hx hb dL_law_337 rfl (lv_at hl 2 rfl) ?_
  refine zi_callV (As := []) (rest := [.int v1]) (q0 := 0) (ci := 1) ((ow oa oc g) :: (xw ad cs w n nr K V O M RL G (nI f) (nI r) se (nI c0) op ck cv)) [] C0 (m_value l D bd cr w n K V OM LF th (nI f) (nI r) (nI (f - r * w)) se (nI c0) cur nk nv gc gu gl gm) zv_L_X1_value ⟨by decide, by decide⟩ ⟨rfl, rfl⟩ rfl hKm hP hD hS hA rfl rfl rfl hl.1 rfl (Nat.le_of_ble_eq_true rfl) dL_law_338 ⟨show 14 + i ≤ 601024 by omega, show 20000 + 6 * i ≤ 7293000 by omega⟩ (fun v2 _ H locs h2 hP hD hS => ?_)
  have hP : va_P D classes ((ow oa oc g) :: ((xw ad cs w n nr K V O M RL G (nI f) (nI r) se (nI c0) op ck cv) ++ (mw bd cr w n K V OM LF 0 (nI f) (nI r) (nI (f - r * w)) se (nI c0) cur nk nv gc gu gl gm))) H := hP
  have hD : va_D (fun q => s.heap.size ≤ q) ((ow oa oc g) :: ((xw ad cs w n nr K V O M RL G (nI f) (nI r) se (nI c0) op ck cv) ++ (mw bd cr w n K V OM LF 0 (nI f) (nI r) (nI (f - r * w)) se (nI c0) cur nk nv gc gu gl gm))) := hD
  refine lv_icmp_eq (tgt := 458) hx hb dL_law_341 (by decide) (fun _ => ?_) (fun hne => absurd (h1.trans ((lC_value l5).trans h2.symm)) hne)
  refine W.widen (k := 15 + i) (n := 20006 + 6 * i) (by omega) (by omega) ?_
  exact hB K V O M RL G OM LF f r c0 se op ck cv 0 (nI (f - r * w)) cur nk nv gc gu gl gm g _ _ _ (⟨l1, l2, l3, rfl, l5, l6⟩) hP hD hS (lv_sub hl [0, 1, 2, 3, 4] rfl)
end
