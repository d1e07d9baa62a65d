/-! CATCH: an exception that a callee has thrown, caught by the only row of the caller's table -/
section VYC
variable {p : Program} {l : Launch} {e : Env} {R : Room} {s : State} {m : MethodId} {args : Array Value} {below : List Frame} {meth : Method} {c : Code} {H : Heap} {locs : List Loc} {cells slots : Nat} {Q : State → Prop} {pc : Nat} {ls : Array Slot} {rest : List Value}
theorem vy_search {S : State} {g : JFrame} {q : Addr} {x : ExceptionTableEntry} {cT : ClassId} {ce : Cell} (hm : S.vm.method? g.method = some meth) (hc : meth.code = some c) (hone : c.exceptionTable.toList = [x]) (hx : covers x g.pc = true) (h0 : x.catchType ≠ 0)
    (hl : S.vm.ClassLinks e.platform g.method.cls x.catchType cT) (hcell : S.heap[q]? = some ce) (hobj : ∀ k, ce.vm ≠ .statics k) (hk : ∃ k, S.vm.classes[ce.cls]? = some k) (hcl : ∃ k, S.vm.classes[cT]? = some k) (hfit : S.vm.assignable ce.cls cT = true)
    (Z : Handler → Pre) (E : CtlPost) (d : Bool) (acts : List Action) :
    wp (findHandler g q) Z E e d acts S ↔ Z (.found x.handlerPc) d acts (S.setVm (S.vm.noted g.method.cls x.catchType (.cls cT))) := by
  rw [W.findHandler_eq hm hc, hone]
  have hx2 : (decide (x.startPc ≤ g.pc) && decide (g.pc < x.endPc)) = true := hx
  have hal : S.vm.Alike (S.vm.noted g.method.cls x.catchType (.cls cT)) := (Vm.Alike.refl S.vm).noted _ _ _
  obtain ⟨o1, o2⟩ := (resolveClass_links e.toSetting hl).op (op := VmOp.resolveClass g.method.cls x.catchType) rfl
  obtain ⟨ka, hka⟩ := hk
  obtain ⟨kb, hkb⟩ := hcl
  obtain ⟨ka', hka', -⟩ := hal.2.2 _ _ hka
  obtain ⟨kb', hkb', -⟩ := hal.2.2 _ _ hkb
  have hfit' : (S.vm.noted g.method.cls x.catchType (.cls cT)).assignable ce.cls cT = true := by rw [hal.assignable]; exact hfit
  simp [findHandler.go, hx2, h0, o1, o2, hcell, hobj, hka', hkb', hfit', VmOp.dirties, VmOp.acts]
theorem vy_catch {own name E : String} {ce : Cell} {q : Addr} (hown : s.vm.findClass own = some m.cls) (x : ExceptionTableEntry) (hone : c.exceptionTable.toList = [x]) (hx : covers x pc = true) (h0 : x.catchType ≠ 0)
    (hlink : (Cond.classLink own x.catchType name).before args s = true) (hcast : (Cond.castable E name).before args s = true) (hcell : H[q]? = some ce) (hv : ce.vm = .none) (hcl : s.vm.findClass E = some ce.cls)
    (kk : W p l e R s m args below meth c H locs cells slots Q (F0 m x.handlerPc ls [.ref q])) : vx_W p l e R s m args below meth c H locs cells slots Q (F0 m pc ls rest) q := by
  intro T hT X
  have hpl : e.platform.magicAccessors = ({} : Platform).magicAccessors := by rw [X.admits.platform]
  obtain ⟨c3, c4, hc3, hc4, hasg⟩ := Cond.castable_spec hcast
  cases Option.some.inj (hc3.symm.trans hcl)
  obtain ⟨c5, hc5, hcl5⟩ := Cond.classLink_spec hown hlink e.platform hpl
  cases Option.some.inj (hc4.symm.trans hc5)
  obtain ⟨dk, _, _, kt, hd, _, _, _, _, hkt, _, hopen⟩ := hcl5.here
  obtain ⟨k9, hk9, -⟩ := Vm.findClass_spec hcl
  have hal := X.warmed.alike
  obtain ⟨k9', hk9', -⟩ := hal.2.2 _ _ hk9
  obtain ⟨kt', hkt', -⟩ := hal.2.2 _ _ hkt
  obtain ⟨vm', hvm⟩ : ∃ z, z = T.vm.noted m.cls x.catchType (.cls c4) := ⟨_, rfl⟩
  have hW' : s.WarmedH vm' := by rw [hvm]; exact X.warmed.noted hd hopen (State.rightAt_cls hcl5)
  obtain ⟨t, a1, b1⟩ := kk (T.setVm vm') hT (X.noted hW')
  refine ⟨t, ?_, b1⟩
  obtain ⟨g1, g2⟩ := X.here.throwing (g := F0 m pc ls rest) q
  refine Steps.head g1 g2 ?_
  have hfind : ∀ (Z : Handler → Pre) (E : CtlPost) (d : Bool) (acts : List Action), wp (findHandler (F0 m pc ls rest) q) Z E e d acts ((T.setTop (F0 m pc ls rest)).pushFrame (.throwing q)) ↔ Z (.found x.handlerPc) d acts (((T.setTop (F0 m pc ls rest)).pushFrame (.throwing q)).setVm vm') := by
    rw [hvm]
    exact vy_search (S := (T.setTop (F0 m pc ls rest)).pushFrame (.throwing q)) X.method' X.code hone hx h0 (X.warmed.classLinks hcl5) (by show T.heap[q]? = some ce; rw [hT]; exact hcell) (fun k h => by rw [hv] at h; cases h) ⟨k9', hk9'⟩ ⟨kt', hkt'⟩ (by show T.vm.assignable _ _ = true; rw [hal.assignable]; exact hasg)
  have hst : (stepThrowing e ((T.setTop (F0 m pc ls rest)).pushFrame (.throwing q)) q (.java (F0 m pc ls rest) :: T.frames.tail)).Is ((((T.setTop (F0 m pc ls rest)).pushFrame (.throwing q)).setVm vm').setFrames (.java (F0 m x.handlerPc ls [.ref q]) :: T.frames.tail)) [] := by
    simp only [stepThrowing, searchFrame, vmDo]
    generalize hr : Sem.go _ e false [] _ = res
    obtain ⟨as, rfl, ha⟩ := Sem.eq_ok_of hr (a := Handler.found x.handlerPc) (s' := ((T.setTop (F0 m pc ls rest)).pushFrame (.throwing q)).setVm vm') (acts' := []) (by simp [hfind _ _ _ _])
    exact ⟨rfl, ha⟩
  rw [stepThread_throwing (frames_entered X.here.top _), hst.1]
  obtain ⟨g₀, hg⟩ := Option.isSome_iff_exists.mp X.here.top
  obtain ⟨r, hr⟩ := State.topJava?_eq_some.mp hg
  have hr' : (T.setVm vm').frames = .java g₀ :: r := hr
  rw [State.setTop_of_frames _ hr'] at a1
  have e1 : ∀ (u : State) (F G : List Frame), ((u.setFrames F).setVm vm').setFrames G = (u.setVm vm').setFrames G := fun u F G => by
    rw [show (u.setFrames F).setVm vm' = (u.setVm vm').setFrames F from rfl, State.setFrames_setFrames]
  rw [hr, List.tail_cons, State.pushFrame, e1, State.setTop_of_frames _ hr, e1]
  exact a1
end VYC
