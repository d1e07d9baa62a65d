/-! BASE: one table of words for all methods; contracts of three kinds (a void method, an int method, a reading method), their begin, their end, their call -/
theorem zv_cw {R : Room} {s : State} {args : Array Value} {own : String} {idx k n : Nat} {y : MethodName} {b : ByteArray} {r : Option FieldType} {rm : Room} (h : zv own idx y b k r n) (hts : ∀ w ∈ zt, w.before args s = true) (hR : rm.frames + 1 ≤ R.frames ∧ 8 + (k + 11) + rm.locals ≤ R.locals) :
    CallW R s args own y.cls idx y b k r (Cond.code y b k r :: zt) rm rm.cells rm.slots n :=
  ⟨callB_of n hts (zt_code h.1) rfl rfl rfl (hts _ h.2.2.1) (hts _ h.2.1) h.2.2.2.1 hR, hts _ h.2.2.2.2.1, hts _ h.2.2.2.2.2⟩
theorem zs_cw {R : Room} {s : State} {args : Array Value} {own : String} {idx k n : Nat} {y : MethodName} {b : ByteArray} {r : Option FieldType} {rm : Room} (h : zs own idx y b k r n) (hts : ∀ w ∈ zt, w.before args s = true) (hR : rm.frames + 1 ≤ R.frames ∧ 8 + (k + 11) + rm.locals ≤ R.locals) :
    CallB R s args own idx y b k r (Cond.code y b k r :: zt) rm rm.cells rm.slots n ∧ (Cond.static y).before args s = true :=
  ⟨callB_of n hts (zt_code h.1) rfl rfl rfl (hts _ h.2.2.1) (hts _ h.2.1) h.2.2.2.1 hR, hts _ h.2.2.2.2⟩
/-- the start of a contract -/
abbrev zPc (D : va_G) (cl : List vw_C) (tys : List (ClassId × FieldType)) (av : List Value) (W0 : va_W) (sz : Nat) : Array Value → State → Prop := va_Pc av (fun U => U.heap.size = sz ∧ va_P D cl W0 U.heap ∧ va_K D cl tys U ∧ va_D (fun _ => True) W0)
abbrev zB {S : Type} (D : va_G) (cl : List vw_C) (tys : List (ClassId × FieldType)) (A : Nat → Prop) (Wf : S → va_W) : S → State → Prop := fun u t => va_P D cl (Wf u) t.heap ∧ va_K D cl tys t ∧ va_D A (Wf u)
def ZV {S : Type} (l : Launch) (y : MethodName) (b : ByteArray) (k : Nat) (rm : Room) (D : va_G) (cl : List vw_C) (tys : List (ClassId × FieldType)) (av : List Value) (W0 : va_W) (post : S → Prop) (Wf : S → va_W) : Prop :=
  ∀ sz : Nat, Met l y (Cond.code y b k none :: zt) rm (zPc D cl tys av W0 sz) (va_Qv post (zB D cl tys (va_A W0 sz) Wf) (va_A W0 sz)) rm.cells rm.slots (va_A W0 sz)
def ZI {S : Type} (l : Launch) (y : MethodName) (b : ByteArray) (k : Nat) (rm : Room) (D : va_G) (cl : List vw_C) (tys : List (ClassId × FieldType)) (av : List Value) (W0 : va_W) (post : Int32 → S → Prop) (Wf : S → va_W) : Prop :=
  ∀ sz : Nat, Met l y (Cond.code y b k (some .int) :: zt) rm (zPc D cl tys av W0 sz) (va_Qi post (zB D cl tys (va_A W0 sz) Wf) (va_A W0 sz)) rm.cells rm.slots (va_A W0 sz)
def ZR (l : Launch) (y : MethodName) (b : ByteArray) (k : Nat) (rm : Room) (D : va_G) (cl : List vw_C) (tys : List (ClassId × FieldType)) (av : List Value) (W0 : va_W) (post : Int32 → Prop) : Prop :=
  ∀ sz : Nat, Met l y (Cond.code y b k (some .int) :: zt) rm (zPc D cl tys av W0 sz) (vp_Si post) rm.cells rm.slots (fun _ => False)
theorem zPc_blind {D : va_G} {cl : List vw_C} {tys : List (ClassId × FieldType)} {av : List Value} {W0 : va_W} {sz : Nat} : FrameBlind (zPc D cl tys av W0 sz) := fun a U g mk q => by
  obtain ⟨q0, q1, qP, qK, qD⟩ := q
  exact ⟨q0, q1, qP, va_K.moved (u := U) (U := U.calling g mk a) (Vm.Alike.refl U.vm) qK, qD⟩
section ZB
variable {p : Program} {l : Launch} {e : Env} {R : Room} {s : State} {m : MethodId} {args : Array Value} {below : List Frame} {meth : Method} {c : Code} {H : Heap} {locs : List Loc} {cells slots : Nat} {Q : State → Prop}
variable {cc : ByteArray} {pc : Nat} {ls : Array Slot} {rest : List Value} {D : va_G} {cl : List vw_C} {A : Nat → Prop} {a : Nat} {tys tys0 : List (ClassId × FieldType)} {W0 : va_W} {nL : Nat} {own : String}
variable {y : MethodName} {b : ByteArray} {k n idx : Nat} {rm : Room} {av : List Value}
/-- the begin of a method: Q stands for its end, hret says how one comes there -/
theorem ZV.of {S : Type} {post : S → Prop} {Wf : S → va_W} (hy : plainName y.cls = true) (hlen : (lg_sl av).length ≤ k)
    (body : ∀ (p : Program) (e : Env) (s : State) (m : MethodId) (args : Array Value) (below : List Frame) (meth : Method) (c : Code) (A : Nat → Prop) (Q : State → Prop) (ls : Array Slot), CallFix p m c b k s args zt y.cls → meth.name = y.name → va_K D cl tys s → va_P D cl W0 s.heap → va_D A W0 → va_S A s.heap s.heap [] → (∀ q, s.heap.size ≤ q → A q) → lv_has ls k (lv_args 0 av) →
      (∀ (u : S) (H : Heap) (locs : List Loc) (pc : Nat) (ls : Array Slot), va_P D cl (Wf u) H → va_D A (Wf u) → va_S A s.heap H locs → post u → decode b pc = .ok (.return_, 1) → W p l e rm s m args below meth c H locs rm.cells rm.slots Q (F0 m pc ls [])) →
      W p l e rm s m args below meth c s.heap [] 0 0 Q (F0 m 0 ls [])) : ZV l y b k rm D cl tys av W0 post Wf := by
  intro sz
  refine Met.ofW (cc := b) (maxL := k) (ret := none) hy rfl ?_
  intro p e s m args below meth c s₁ B hml hv
  obtain ⟨rfl, hsz, hP, hK, hD0⟩ := hv
  have hts := atoms_spec (ws := Cond.code y b k none :: zt) B.pre
  subst hsz
  rw [lg_entry_eq]
  exact body p e s m _ below meth c _ _ _ ⟨B.exec, B.bytes, hml, findClass_of_methodNamed B.named, fun w hw => hts w (List.mem_cons_of_mem _ hw)⟩ (name_of_methodNamed B.named B.method).1 hK hP (hD0.self (sz := s.heap.size)) va_S.rf (fun q h => Or.inr h) (lv_entry av hlen)
    (fun u H locs pc ls hP hD hS hw hdg => W.vret B.exec B.bytes B.returns (fun t ht hW => ⟨⟨u, rfl, hw, by rw [ht]; exact hP, va_K.moved hW.alike hK, hD⟩, hS.F ht⟩) hS.2.2 hdg B.notSynchronized)
theorem ZI.of {S : Type} {post : Int32 → S → Prop} {Wf : S → va_W} (hy : plainName y.cls = true) (hlen : (lg_sl av).length ≤ k)
    (body : ∀ (p : Program) (e : Env) (s : State) (m : MethodId) (args : Array Value) (below : List Frame) (meth : Method) (c : Code) (A : Nat → Prop) (Q : State → Prop) (ls : Array Slot), CallFix p m c b k s args zt y.cls → va_K D cl tys s → va_P D cl W0 s.heap → va_D A W0 → va_S A s.heap s.heap [] → (∀ q, s.heap.size ≤ q → A q) → lv_has ls k (lv_args 0 av) →
      (∀ (v : Int32) (u : S) (H : Heap) (locs : List Loc) (pc : Nat) (ls : Array Slot), va_P D cl (Wf u) H → va_D A (Wf u) → va_S A s.heap H locs → post v u → decode b pc = .ok (.ireturn, 1) → W p l e rm s m args below meth c H locs rm.cells rm.slots Q (F0 m pc ls [.int v])) →
      W p l e rm s m args below meth c s.heap [] 0 0 Q (F0 m 0 ls [])) : ZI l y b k rm D cl tys av W0 post Wf := by
  intro sz
  refine Met.ofW (cc := b) (maxL := k) (ret := some .int) hy rfl ?_
  intro p e s m args below meth c s₁ B hml hv
  obtain ⟨rfl, hsz, hP, hK, hD0⟩ := hv
  have hts := atoms_spec (ws := Cond.code y b k (some .int) :: zt) B.pre
  subst hsz
  rw [lg_entry_eq]
  exact body p e s m _ below meth c _ _ _ ⟨B.exec, B.bytes, hml, findClass_of_methodNamed B.named, fun w hw => hts w (List.mem_cons_of_mem _ hw)⟩ hK hP (hD0.self (sz := s.heap.size)) va_S.rf (fun q h => Or.inr h) (lv_entry av hlen)
    (fun v u H locs pc ls hP hD hS hw hdg => W.iret B.exec B.bytes B.returns (fun t ht hW => ⟨⟨v, u, rfl, hw, by rw [ht]; exact hP, va_K.moved hW.alike hK, hD⟩, hS.F ht⟩) hS.2.2 hdg B.notSynchronized)
theorem ZR.of {post : Int32 → Prop} (hy : plainName y.cls = true) (hlen : (lg_sl av).length ≤ k)
    (body : ∀ (p : Program) (e : Env) (s : State) (m : MethodId) (args : Array Value) (below : List Frame) (meth : Method) (c : Code) (Q : State → Prop) (ls : Array Slot), CallFix p m c b k s args zt y.cls → va_K D cl tys s → va_P D cl W0 s.heap → va_D (fun _ => True) W0 → lv_has ls k (lv_args 0 av) →
      (∀ (v : Int32) (pc : Nat) (ls : Array Slot), post v → decode b pc = .ok (.ireturn, 1) → W p l e rm s m args below meth c s.heap [] rm.cells rm.slots Q (F0 m pc ls [.int v])) →
      W p l e rm s m args below meth c s.heap [] 0 0 Q (F0 m 0 ls [])) : ZR l y b k rm D cl tys av W0 post := by
  intro sz
  refine Met.ofW (cc := b) (maxL := k) (ret := some .int) hy rfl ?_
  intro p e s m args below meth c s₁ B hml hv
  obtain ⟨rfl, hsz, hP, hK, hD0⟩ := hv
  have hts := atoms_spec (ws := Cond.code y b k (some .int) :: zt) B.pre
  subst hsz
  rw [lg_entry_eq]
  exact body p e s m _ below meth c _ _ ⟨B.exec, B.bytes, hml, findClass_of_methodNamed B.named, fun w hw => hts w (List.mem_cons_of_mem _ hw)⟩ hK hP hD0 (lv_entry av hlen)
    (fun v pc ls hw hdg => W.iret B.exec B.bytes B.returns (fun t ht hW => ⟨v, rfl, hw, ht⟩) (fun q hq => absurd hq List.not_mem_nil) hdg B.notSynchronized)
/-- the top of the stack by another name -/
theorem z_eq {x x' : Int32} (h : x = x') (kk : W p l e R s m args below meth c H locs cells slots Q (F0 m pc ls (.int x' :: rest))) : W p l e R s m args below meth c H locs cells slots Q (F0 m pc ls (.int x :: rest)) := by
  rw [h]
  exact kk
theorem z_get {C : String} {T : u_T} {N ci : Nat} {ws : va_W} (C0 : CallFix p m c cc nL s args zt own) (hin : ∀ w ∈ u_ws C T N, w ∈ zt) (hK : va_K D cl tys s) (hP : va_P D cl ws H) (q0 : Nat) {fs : List Value} (he : ws[q0]? = some (a, .inr (ci, fs))) (hc : cl[ci]? = some (C, T, N)) (k : Nat) (hk : k < N) (hl : Cond.fieldLink own idx (T k).1 (T k).2.1 (T k).2.2.1 ∈ zt) {v : Value} (hv : fs[k]? = some v) (hdg : decode cc pc = .ok (.getfield idx, 3))
    (kk : W p l e R s m args below meth c H locs cells slots Q (F0 m (pc + 3) ls (v :: rest))) : W p l e R s m args below meth c H locs cells slots Q (F0 m pc ls (.ref a :: rest)) :=
  va_get C0.1 C0.2.1 C0.2.2.2.2 hin C0.2.2.2.1 hK hP q0 he hc k hk (C0.2.2.2.2 _ hl) (fun _ h => h) hv hdg kk
theorem z_put {C : String} {T : u_T} {N ci : Nat} {ws : va_W} (C0 : CallFix p m c cc nL s args zt own) (hin : ∀ w ∈ u_ws C T N, w ∈ zt) (ty0 : Nat → FieldType) (hty : ∀ k, k < N → parseFieldDescriptor (T k).2.2.1 = some (ty0 k)) (hnm : ∀ a, a < N → ∀ b, b < N → a ≠ b → (T a).2.1 ≠ (T b).2.1) (hK : va_K D cl tys s) (hP : va_P D cl ws H) (hD : va_D A ws) (hS : va_S A s.heap H locs) (q0 : Nat) {fs : List Value} (he : ws[q0]? = some (a, .inr (ci, fs))) (hc : cl[ci]? = some (C, T, N)) (k : Nat) (hk : k < N) (hl : Cond.fieldLink own idx (T k).1 (T k).2.1 (T k).2.2.1 ∈ zt) (hfin : (T k).2.2.2 = false) {ty : FieldType} {v : Value} (hd : parseFieldDescriptor (T k).2.2.1 = some ty) (hn : narrow ty v = v) (hfit : fits ty v = true) (hlen : k < fs.length) (hdg : decode cc pc = .ok (.putfield idx, 3))
    (kk : ∀ (H1 : Heap) (locs1 : List Loc), va_P D cl (ws.set q0 (a, .inr (ci, fs.set k v))) H1 → va_D A (ws.set q0 (a, .inr (ci, fs.set k v))) → va_S A s.heap H1 locs1 → W p l e R s m args below meth c H1 locs1 cells slots Q (F0 m (pc + 3) ls rest)) : W p l e R s m args below meth c H locs cells slots Q (F0 m pc ls (v :: .ref a :: rest)) :=
  va_put C0.1 C0.2.1 C0.2.2.2.2 hin ty0 hty hnm C0.2.2.2.1 hK hP hD hS q0 he hc k hk (C0.2.2.2.2 _ hl) (fun _ h => h) hfin hd hn hfit hlen hdg kk
theorem z_min {i : Nat} (C0 : CallFix p m c cc nL s args zt own) (hw : Cond.methodLink own i Lib.Math.min.name ∈ zt ∧ Cond.static Lib.Math.min.name ∈ zt ∧ Cond.initialized "java/lang/Math" ∈ zt ∧ Cond.code Lib.Math.min.name Lib.Math.min.code 2 (some .int) ∈ zt) (hsize : ls.size = nL) (hR : 1 ≤ R.frames ∧ (rest.map fun v => v.category).sum + 13 ≤ R.locals) (hcs : cells ≤ R.cells ∧ slots ≤ R.slots) {x y : Int32} (hdg : decode cc pc = .ok (.invokestatic i, 3))
    (kk : W p l e R s m args below meth c H locs cells slots Q (F0 m (pc + 3) ls (.int (if y < x then y else x) :: rest))) : W p l e R s m args below meth c H locs cells slots Q (F0 m pc ls (.int y :: .int x :: rest)) :=
  va_mmin C0.1 C0.2.1 (C0.2.2.1.trans hsize.symm) C0.2.2.2.1 (C0.2.2.2.2 _ hw.1) (C0.2.2.2.2 _ hw.2.1) (C0.2.2.2.2 _ hw.2.2.1) (C0.2.2.2.2 _ hw.2.2.2) hR.1 hR.2 hcs.1 hcs.2 hdg kk
theorem z_max {i : Nat} (C0 : CallFix p m c cc nL s args zt own) (hw : Cond.methodLink own i Lib.Math.max.name ∈ zt ∧ Cond.static Lib.Math.max.name ∈ zt ∧ Cond.initialized "java/lang/Math" ∈ zt ∧ Cond.code Lib.Math.max.name Lib.Math.max.code 2 (some .int) ∈ zt) (hsize : ls.size = nL) (hR : 1 ≤ R.frames ∧ (rest.map fun v => v.category).sum + 13 ≤ R.locals) (hcs : cells ≤ R.cells ∧ slots ≤ R.slots) {x y : Int32} (hdg : decode cc pc = .ok (.invokestatic i, 3))
    (kk : W p l e R s m args below meth c H locs cells slots Q (F0 m (pc + 3) ls (.int (if x < y then y else x) :: rest))) : W p l e R s m args below meth c H locs cells slots Q (F0 m pc ls (.int y :: .int x :: rest)) :=
  va_mmax C0.1 C0.2.1 (C0.2.2.1.trans hsize.symm) C0.2.2.2.1 (C0.2.2.2.2 _ hw.1) (C0.2.2.2.2 _ hw.2.1) (C0.2.2.2.2 _ hw.2.2.1) (C0.2.2.2.2 _ hw.2.2.2) hR.1 hR.2 hcs.1 hcs.2 hdg kk
/-- calls that read -/
theorem zr_callV {post : Int32 → Prop} {As : List Value} {st0 : List Value} {q0 ci : Nat} {fs : List Value} {q : vw_C} (C0 : CallFix p m c cc nL s args zt own) (hM : ZR l y b k rm D cl tys0 (.ref a :: As) W0 post) (hv : zv own idx y b k (some .int) n) (hR : rm.frames + 1 ≤ R.frames ∧ 8 + (k + 11) + rm.locals ≤ R.locals) (h0 : rm.cells = 0 ∧ rm.slots = 0) (hn : As.length = n)
    (hK : va_K D cl tys0 s) (hP : va_P D cl W0 H) (hD : va_D A W0) (hc : cl[ci]? = some q) (hq : q.1 = y.cls) (he : W0[q0]? = some (a, .inr (ci, fs))) (hsize : ls.size = nL) (hst : st0 = As.reverse ++ .ref a :: rest) (hW : (rest.map fun v => v.category).sum ≤ 8) (hdg : decode cc pc = .ok (.invokevirtual idx, 3)) (hcs : cells ≤ R.cells ∧ slots ≤ R.slots)
    (kk : ∀ r : Int32, post r → W p l e R s m args below meth c H locs cells slots Q (F0 m (pc + 3) ls (.int r :: rest))) : W p l e R s m args below meth c H locs cells slots Q (F0 m pc ls st0) := by
  have hrec := va_recv hK hP hc he
  rw [hq] at hrec
  have hM0 := hM H.size
  rw [h0.1, h0.2] at hM0
  have hcw := zv_cw (R := R) (rm := rm) hv C0.2.2.2.2 hR
  rw [h0.1, h0.2] at hcw
  exact vp_callSi (W.runV (As := As) (rest := rest) C0 hM0 hcw ⟨zPc_blind, hrec, fun U hU hW => ⟨rfl, by rw [hU], by rw [hU]; exact hP, va_K.moved hW.alike hK, hD.weaken (fun _ _ _ _ => trivial)⟩⟩ rfl hn hsize hst (lv_room hW) hdg ⟨hcs.1, hcs.2⟩) kk
theorem zr_callS {post : Int32 → Prop} {As : List Value} {st0 : List Value} (C0 : CallFix p m c cc nL s args zt own) (hM : ZR l y b k rm D cl tys0 As W0 post) (hv : zs own idx y b k (some .int) n) (hR : rm.frames + 1 ≤ R.frames ∧ 8 + (k + 11) + rm.locals ≤ R.locals) (h0 : rm.cells = 0 ∧ rm.slots = 0) (hn : As.length = n)
    (hK : va_K D cl tys0 s) (hP : va_P D cl W0 H) (hD : va_D A W0) (hsize : ls.size = nL) (hst : st0 = As.reverse ++ rest) (hW : (rest.map fun v => v.category).sum ≤ 8) (hdg : decode cc pc = .ok (.invokestatic idx, 3)) (hcs : cells ≤ R.cells ∧ slots ≤ R.slots)
    (kk : ∀ r : Int32, post r → W p l e R s m args below meth c H locs cells slots Q (F0 m (pc + 3) ls (.int r :: rest))) : W p l e R s m args below meth c H locs cells slots Q (F0 m pc ls st0) := by
  have hM0 := hM H.size
  rw [h0.1, h0.2] at hM0
  have hcw := zs_cw (R := R) (rm := rm) hv C0.2.2.2.2 hR
  rw [h0.1, h0.2] at hcw
  exact vp_callSi (W.runS (As := As) (rest := rest) C0 hM0 hcw ⟨zPc_blind, fun U hU hW => ⟨rfl, by rw [hU], by rw [hU]; exact hP, va_K.moved hW.alike hK, hD.weaken (fun _ _ _ _ => trivial)⟩⟩ rfl hn hsize hst (lv_room hW) hdg ⟨hcs.1, hcs.2⟩) kk
/-- a world behind a call, beside what the call hasn't touched -/
theorem z_frame {w1 w2 W1 : va_W} {H1 : Heap} (hP : va_P D cl (w1 ++ (W0 ++ w2)) H) (hD : va_D A (w1 ++ (W0 ++ w2))) (hk : ∀ q : Nat, q < H.size → ¬ va_A W0 H.size q → H1[q]? = H[q]?) (hF : ∀ q, va_A W0 H.size q → A q) (hP1 : va_P D cl W1 H1) (hD1 : va_D (va_A W0 H.size) W1) :
    va_P D cl (w1 ++ (W1 ++ w2)) H1 ∧ va_D A (w1 ++ (W1 ++ w2)) := by
  have lkA : ∀ (i : Nat) (x : Nat × va_E), w1[i]? = some x → (w1 ++ (W0 ++ w2))[i]? = some x := fun i x h => by
    rw [List.getElem?_append_left (List.getElem?_eq_some_iff.mp h).1]; exact h
  have lk0 : ∀ (i : Nat) (x : Nat × va_E), W0[i]? = some x → (w1 ++ (W0 ++ w2))[w1.length + i]? = some x := fun i x h => by
    rw [List.getElem?_append_right (by omega), Nat.add_sub_cancel_left, List.getElem?_append_left (List.getElem?_eq_some_iff.mp h).1]; exact h
  have lkB : ∀ (i : Nat) (x : Nat × va_E), w2[i]? = some x → (w1 ++ (W0 ++ w2))[w1.length + (W0.length + i)]? = some x := fun i x h => by
    rw [List.getElem?_append_right (by omega), Nat.add_sub_cancel_left, List.getElem?_append_right (by omega), Nat.add_sub_cancel_left]; exact h
  have apA : ∀ (i : Nat) (x : Nat × va_E), w1[i]? = some x → x.1 < H.size ∧ ¬ va_A W0 H.size x.1 := fun i x h => by
    have hl := (hP _ _ (lkA i x h)).lt
    refine ⟨hl, fun z => ?_⟩
    rcases z with ⟨j, e9, hj⟩ | z
    · have := hD.1 _ _ _ _ (lkA i x h) (lk0 j _ hj) rfl
      have := (List.getElem?_eq_some_iff.mp h).1
      omega
    · omega
  have apB : ∀ (i : Nat) (x : Nat × va_E), w2[i]? = some x → x.1 < H.size ∧ ¬ va_A W0 H.size x.1 := fun i x h => by
    have hl := (hP _ _ (lkB i x h)).lt
    refine ⟨hl, fun z => ?_⟩
    rcases z with ⟨j, e9, hj⟩ | z
    · have := hD.1 _ _ _ _ (lkB i x h) (lk0 j _ hj) rfl
      have := (List.getElem?_eq_some_iff.mp hj).1
      omega
    · omega
  have hPA : va_P D cl w1 H1 := fun i x h => (hP _ _ (lkA i x h)).kept (hk x.1 (apA i x h).1 (apA i x h).2)
  have hPB : va_P D cl w2 H1 := fun i x h => (hP _ _ (lkB i x h)).kept (hk x.1 (apB i x h).1 (apB i x h).2)
  have hDA : va_D A w1 := ⟨fun i j x z h1 h2 h3 => hD.1 i j x z (lkA i x h1) (lkA j z h2) h3, fun i x h => hD.2 _ _ (lkA i x h)⟩
  have hDB : va_D A w2 := ⟨fun i j x z h1 h2 h3 => by
    have := hD.1 _ _ x z (lkB i x h1) (lkB j z h2) h3
    omega, fun i x h => hD.2 _ _ (lkB i x h)⟩
  have hDC : va_D A W1 := hD1.weaken (fun _ _ _ h => hF _ h)
  have hCB : va_D A (W1 ++ w2) := hDC.app hDB (fun i j x z h1 h2 h3 => (apB j z h2).2 (by rw [← h3]; exact hD1.2 i x h1))
  refine ⟨hPA.app (hP1.app hPB), hDA.app hCB (fun i j x z h1 h2 h3 => ?_)⟩
  rcases Nat.lt_or_ge j W1.length with q | q
  · rw [List.getElem?_append_left q] at h2
    exact (apA i x h1).2 (by rw [h3]; exact hD1.2 j z h2)
  · rw [List.getElem?_append_right q] at h2
    have := hD.1 _ _ x z (lkA i x h1) (lkB _ z h2) h3
    have := (List.getElem?_eq_some_iff.mp h1).1
    omega
theorem z_freeA {w1 w2 : va_W} {H0 : Heap} (hD : va_D A (w1 ++ (W0 ++ w2))) (hS : va_S A H0 H locs) (hA : ∀ q, H0.size ≤ q → A q) : ∀ q, va_A W0 H.size q → A q := by
  intro q h
  rcases h with ⟨i, e9, h⟩ | h
  · refine hD.2 (w1.length + i) (q, e9) ?_
    rw [List.getElem?_append_right (by omega), Nat.add_sub_cancel_left, List.getElem?_append_left (List.getElem?_eq_some_iff.mp h).1]
    exact h
  · exact hA q (Nat.le_trans hS.1 h)
theorem z_subP {w1 w2 : va_W} (hP : va_P D cl (w1 ++ (W0 ++ w2)) H) : va_P D cl W0 H := fun i x h => hP (w1.length + i) x (by
  rw [List.getElem?_append_right (by omega), Nat.add_sub_cancel_left, List.getElem?_append_left (List.getElem?_eq_some_iff.mp h).1]; exact h)
theorem z_subD {w1 w2 : va_W} (hD : va_D A (w1 ++ (W0 ++ w2))) : va_D A W0 := by
  have lk0 : ∀ (i : Nat) (x : Nat × va_E), W0[i]? = some x → (w1 ++ (W0 ++ w2))[w1.length + i]? = some x := fun i x h => by
    rw [List.getElem?_append_right (by omega), Nat.add_sub_cancel_left, List.getElem?_append_left (List.getElem?_eq_some_iff.mp h).1]; exact h
  exact ⟨fun i j x z h1 h2 h3 => by
    have := hD.1 _ _ x z (lk0 i x h1) (lk0 j z h2) h3
    omega, fun i x h => hD.2 _ _ (lk0 i x h)⟩
/-- calls that write; w1, w2: what lies beside the callee's world -/
theorem zv_callV {S : Type} {post : S → Prop} {Wf : S → va_W} {As : List Value} {st0 : List Value} {q0 ci : Nat} {fs : List Value} {q : vw_C} (w1 w2 : va_W) (C0 : CallFix p m c cc nL s args zt own) (hM : ZV l y b k rm D cl tys0 (.ref a :: As) W0 post Wf) (hv : zv own idx y b k none n) (hR : rm.frames + 1 ≤ R.frames ∧ 8 + (k + 11) + rm.locals ≤ R.locals) (h0 : rm.cells = 0 ∧ rm.slots = 0) (hn : As.length = n)
    (hK : va_K D cl tys0 s) (hP : va_P D cl (w1 ++ (W0 ++ w2)) H) (hD : va_D A (w1 ++ (W0 ++ w2))) (hS : va_S A s.heap H locs) (hA : ∀ q, s.heap.size ≤ q → A q) (hc : cl[ci]? = some q) (hq : q.1 = y.cls) (he : W0[q0]? = some (a, .inr (ci, fs))) (hsize : ls.size = nL) (hst : st0 = As.reverse ++ .ref a :: rest) (hW : (rest.map fun v => v.category).sum ≤ 8) (hdg : decode cc pc = .ok (.invokevirtual idx, 3)) (hcs : cells ≤ R.cells ∧ slots ≤ R.slots)
    (kk : ∀ (u : S) (H1 : Heap) (locs1 : List Loc), post u → va_P D cl (w1 ++ (Wf u ++ w2)) H1 → va_D A (w1 ++ (Wf u ++ w2)) → va_S A s.heap H1 locs1 → W p l e R s m args below meth c H1 locs1 cells slots Q (F0 m (pc + 3) ls rest)) : W p l e R s m args below meth c H locs cells slots Q (F0 m pc ls st0) := by
  have hP0 := z_subP hP
  have hD0 := z_subD hD
  have hrec := va_recv hK hP0 hc he
  rw [hq] at hrec
  have hM0 := hM H.size
  rw [h0.1, h0.2] at hM0
  have hcw := zv_cw (R := R) (rm := rm) hv C0.2.2.2.2 hR
  rw [h0.1, h0.2] at hcw
  have hF := z_freeA hD hS hA
  exact va_callv (va_runV (As := As) (rest := rest) C0 hM0 hcw ⟨zPc_blind, hrec, fun U hU hW => ⟨rfl, by rw [hU], by rw [hU]; exact hP0, va_K.moved hW.alike hK, hD0.weaken (fun _ _ _ _ => trivial)⟩⟩ rfl hn hsize hst (lv_room hW) hdg ⟨hcs.1, hcs.2⟩) hS (fun q _ h => hF q h) hF (fun u t H1 locs1 ht _ hw hB _ hk1 hS1 => by
    obtain ⟨g1, -, g3⟩ := hB
    rw [ht] at g1
    obtain ⟨f1, f2⟩ := z_frame hP hD hk1 hF g1 g3
    exact kk u H1 locs1 hw f1 f2 hS1)
theorem zi_callV {S : Type} {post : Int32 → S → Prop} {Wf : S → va_W} {As : List Value} {st0 : List Value} {q0 ci : Nat} {fs : List Value} {q : vw_C} (w1 w2 : va_W) (C0 : CallFix p m c cc nL s args zt own) (hM : ZI l y b k rm D cl tys0 (.ref a :: As) W0 post Wf) (hv : zv own idx y b k (some .int) n) (hR : rm.frames + 1 ≤ R.frames ∧ 8 + (k + 11) + rm.locals ≤ R.locals) (h0 : rm.cells = 0 ∧ rm.slots = 0) (hn : As.length = n)
    (hK : va_K D cl tys0 s) (hP : va_P D cl (w1 ++ (W0 ++ w2)) H) (hD : va_D A (w1 ++ (W0 ++ w2))) (hS : va_S A s.heap H locs) (hA : ∀ q, s.heap.size ≤ q → A q) (hc : cl[ci]? = some q) (hq : q.1 = y.cls) (he : W0[q0]? = some (a, .inr (ci, fs))) (hsize : ls.size = nL) (hst : st0 = As.reverse ++ .ref a :: rest) (hW : (rest.map fun v => v.category).sum ≤ 8) (hdg : decode cc pc = .ok (.invokevirtual idx, 3)) (hcs : cells ≤ R.cells ∧ slots ≤ R.slots)
    (kk : ∀ (r : Int32) (u : S) (H1 : Heap) (locs1 : List Loc), post r u → va_P D cl (w1 ++ (Wf u ++ w2)) H1 → va_D A (w1 ++ (Wf u ++ w2)) → va_S A s.heap H1 locs1 → W p l e R s m args below meth c H1 locs1 cells slots Q (F0 m (pc + 3) ls (.int r :: rest))) : W p l e R s m args below meth c H locs cells slots Q (F0 m pc ls st0) := by
  have hP0 := z_subP hP
  have hD0 := z_subD hD
  have hrec := va_recv hK hP0 hc he
  rw [hq] at hrec
  have hM0 := hM H.size
  rw [h0.1, h0.2] at hM0
  have hcw := zv_cw (R := R) (rm := rm) hv C0.2.2.2.2 hR
  rw [h0.1, h0.2] at hcw
  have hF := z_freeA hD hS hA
  exact va_calli (va_runV (As := As) (rest := rest) C0 hM0 hcw ⟨zPc_blind, hrec, fun U hU hW => ⟨rfl, by rw [hU], by rw [hU]; exact hP0, va_K.moved hW.alike hK, hD0.weaken (fun _ _ _ _ => trivial)⟩⟩ rfl hn hsize hst (lv_room hW) hdg ⟨hcs.1, hcs.2⟩) hS (fun q _ h => hF q h) hF (fun r u t H1 locs1 ht _ hw hB _ hk1 hS1 => by
    obtain ⟨g1, -, g3⟩ := hB
    rw [ht] at g1
    obtain ⟨f1, f2⟩ := z_frame hP hD hk1 hF g1 g3
    exact kk r u H1 locs1 hw f1 f2 hS1)
theorem zv_callS {S : Type} {post : S → Prop} {Wf : S → va_W} {As : List Value} {st0 : List Value} (w1 w2 : va_W) (C0 : CallFix p m c cc nL s args zt own) (hM : ZV l y b k rm D cl tys0 As W0 post Wf) (hv : zs own idx y b k none n) (hR : rm.frames + 1 ≤ R.frames ∧ 8 + (k + 11) + rm.locals ≤ R.locals) (h0 : rm.cells = 0 ∧ rm.slots = 0) (hn : As.length = n)
    (hK : va_K D cl tys0 s) (hP : va_P D cl (w1 ++ (W0 ++ w2)) H) (hD : va_D A (w1 ++ (W0 ++ w2))) (hS : va_S A s.heap H locs) (hA : ∀ q, s.heap.size ≤ q → A q) (hsize : ls.size = nL) (hst : st0 = As.reverse ++ rest) (hW : (rest.map fun v => v.category).sum ≤ 8) (hdg : decode cc pc = .ok (.invokestatic idx, 3)) (hcs : cells ≤ R.cells ∧ slots ≤ R.slots)
    (kk : ∀ (u : S) (H1 : Heap) (locs1 : List Loc), post u → va_P D cl (w1 ++ (Wf u ++ w2)) H1 → va_D A (w1 ++ (Wf u ++ w2)) → va_S A s.heap H1 locs1 → W p l e R s m args below meth c H1 locs1 cells slots Q (F0 m (pc + 3) ls rest)) : W p l e R s m args below meth c H locs cells slots Q (F0 m pc ls st0) := by
  have hP0 := z_subP hP
  have hD0 := z_subD hD
  have hM0 := hM H.size
  rw [h0.1, h0.2] at hM0
  have hcw := zs_cw (R := R) (rm := rm) hv C0.2.2.2.2 hR
  rw [h0.1, h0.2] at hcw
  have hF := z_freeA hD hS hA
  exact va_callv (va_runS (As := As) (rest := rest) C0 hM0 hcw ⟨zPc_blind, fun U hU hW => ⟨rfl, by rw [hU], by rw [hU]; exact hP0, va_K.moved hW.alike hK, hD0.weaken (fun _ _ _ _ => trivial)⟩⟩ rfl hn hsize hst (lv_room hW) hdg ⟨hcs.1, hcs.2⟩) hS (fun q _ h => hF q h) hF (fun u t H1 locs1 ht _ hw hB _ hk1 hS1 => by
    obtain ⟨g1, -, g3⟩ := hB
    rw [ht] at g1
    obtain ⟨f1, f2⟩ := z_frame hP hD hk1 hF g1 g3
    exact kk u H1 locs1 hw f1 f2 hS1)
end ZB
