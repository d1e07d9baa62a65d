/-! THE CLAIM OUT OF ONE WALK OF THE LAW'S BODY. Your part is whole_start (and what it stands on); all else here is the same for every law, but numbers. -/
def R_law : String := "ExternalSorterLaw"
def lw_P (b : Addr) (xs : List Int32) (args : Array Value) (s : State) : Prop := args = #[.ref b] ∧ s.IntsAt b xs ∧ xs.length ≤ 2562 ∧ (Jvm.Cond.and given_1 narrow_1).before args s = true
def lw_Q (_ : Array Value) (s : State) (o : Outcome) (t : State) : Prop := o = .returned (some (.int 1)) ∧ Framed s o t [] 601024 7293000
def lw_Z (below : List Frame) (a : Array Value) (s : State) : State → Prop := fun t => ∃ o, t.status = .running ∧ Ended t below o ∧ lw_Q a s o t
/-- the law's own end, with 1 on the stack, nothing written that was there before, its room as the claim has it -/
theorem lw_ret {p : Program} {l : Launch} {e : Env} {s : State} {m : MethodId} {below : List Frame} {meth : Method} {c : Code} {b : Nat} (hx : p.tables.exec = Jvm.exec) (hb : c.code = code) (hr : meth.sig.returnType = ret) (hlocks : meth.locks = false) {pc : Nat} {H : Heap} {ls : Array Slot} (hdg : decode code pc = .ok (.ireturn, 1)) : W p l e room_1 s m #[Value.ref b] below meth c H [] 601024 7293000 (lw_Z below #[Value.ref b] s) (F0 m pc ls [.int 1]) := by
  intro T hT X
  obtain ⟨fs, hret, hrun, hended, hW, hframe⟩ := X.leave (v := some (.int 1)) (hlocks := hlocks) (fun h => by rw [hr] at h; cases h)
  have hmeth' : T.vm.method? m = some meth := X.method'
  refine ⟨T.setFrames fs, ?_, .returned (some (.int 1)), hrun, hended, rfl, ⟨_, rfl⟩, hW, hframe⟩
  jvm_step X.here [X.here.top, hx, hb, hdg, hmeth', hr, ret, narrow_b1]
  (try refine ⟨rfl, ?_⟩); (try refine ⟨rfl, ?_⟩)
  first | (intro acts; rw [hret _ acts rfl rfl rfl]) | rw [hret _ _ rfl rfl rfl]
  exact Steps.refl _
/-- what holds at the law's entry: the machine, the code, the tables' words (any of lw_tbl by 'hts w (by decide +kernel)'), the script of L ints xs at the cell b, what the Statement gives of the start (any of its parts by flat_of_before) -/
def lw_At (p : Program) (s : State) (m : MethodId) (meth : Method) (c : Code) (b L : Nat) (xs : Nat → Int32) : Prop :=
  p.tables.exec = Jvm.exec ∧ c.code = code ∧ meth.sig.returnType = ret ∧ c.maxLocals = 7 ∧ s.vm.findClass R_law = some m.cls ∧ (∀ w ∈ lw_tbl, w.before #[Value.ref b] s = true) ∧ va_X b L xs s s.heap ∧ b < s.heap.size ∧ meth.locks = false ∧ (Jvm.Cond.and given_1 narrow_1).before #[Value.ref b] s = true
/-! LAW 1: rows for its calls; what holds between class and reference at the loop's head -/
def zsw (own : String) (idx : Nat) (y : MethodName) (b : ByteArray) (k : Nat) (hh : List (Nat × Nat × Nat × Nat)) (n : Nat) : Prop :=
  Cond.codeWith y b k (some .int) hh ∈ zt ∧ Cond.methodLink own idx y ∈ zt ∧ Cond.initialized y.cls ∈ zt ∧ (y.cls ≠ "java/lang/invoke/MethodHandle" ∧ y.cls ≠ "java/lang/invoke/VarHandle" ∧ (parseMethodDescriptor y.desc).map (fun d => d.parameters.length) = some n) ∧ Cond.static y ∈ zt
theorem zsw_cw {R : Room} {s : State} {args : Array Value} {own : String} {idx k n : Nat} {y : MethodName} {b : ByteArray} {hh : List (Nat × Nat × Nat × Nat)} {rm : Room} (h : zsw own idx y b k hh n) (hts : ∀ w ∈ zt, w.before args s = true) (hR : rm.frames + 1 ≤ R.frames ∧ 8 + (k + 11) + rm.locals ≤ R.locals) :
    vx_CSW R s args own idx y b k (some .int) hh (Cond.codeWith y b k (some .int) hh :: zt) rm rm.cells rm.slots n := by
  have hG : GoodIn zt (Cond.codeWith y b k (some .int) hh :: zt) := by
    intro w hw
    rcases List.mem_cons.mp hw with e | hw
    · subst e
      exact ⟨h.1, good_of_word (List.mem_filter.mp h.1).2⟩
    · exact ⟨hw, good_of_word (List.mem_filter.mp hw).2⟩
  refine ⟨⟨rfl, rfl, hR.1, hR.2, pay_in hts hG, List.mem_cons_self⟩, hts _ h.1, hts _ h.2.2.1, ⟨h.2.2.2.1.1, h.2.2.2.1.2.1⟩, fun sig e => ?_, hts _ h.2.1, hts _ h.2.2.2.2⟩
  have h2 := h.2.2.2.1.2.2
  rw [e] at h2
  exact (Option.some.inj h2).symm
section ZLD
variable {p : Program} {l : Launch} {e : Env} {R : Room} {s : State} {m : MethodId} {args : Array Value} {below : List Frame} {meth : Method} {c : Code} {H : Heap} {locs : List Loc} {cells slots : Nat} {Q : State → Prop}
variable {cc : ByteArray} {pc : Nat} {ls : Array Slot} {rest : List Value} {D : va_G} {cl : List vw_C} {A : Nat → Prop} {a : Nat} {tys tys0 : List (ClassId × FieldType)} {W0 : va_W} {nL : Nat} {own : String}
variable {y : MethodName} {b : ByteArray} {k n idx : Nat} {rm : Room} {hh : List (Nat × Nat × Nat × Nat)}
theorem zl_call {S : Type} {post : Int32 → S → Prop} {Wf : S → va_W} {As : List Value} {st0 : List Value} (w1 w2 : va_W) (C0 : CallFix p m c cc nL s args zt own) (hM : ZL l y b k hh rm D cl tys0 As W0 post Wf) (hv : zsw own idx y b k hh n) (hR : rm.frames + 1 ≤ R.frames ∧ 8 + (k + 11) + rm.locals ≤ R.locals) (h0 : rm.cells = 0 ∧ rm.slots = 0) (hn : As.length = n)
    (hK : va_K D cl tys0 s) (hP : va_P D cl (w1 ++ (W0 ++ w2)) H) (hD : va_D A (w1 ++ (W0 ++ w2))) (hS : va_S A s.heap H locs) (hA : ∀ q, s.heap.size ≤ q → A q) (hsize : ls.size = nL) (hst : st0 = As.reverse ++ rest) (hW : (rest.map fun v => v.category).sum ≤ 8) (hdg : decode cc pc = .ok (.invokestatic idx, 3)) (hcs : cells ≤ R.cells ∧ slots ≤ R.slots)
    (kk : ∀ (r : Int32) (u : S) (H1 : Heap) (locs1 : List Loc), post r u → va_P D cl (w1 ++ (Wf u ++ w2)) H1 → va_D A (w1 ++ (Wf u ++ w2)) → va_S A s.heap H1 locs1 → W p l e R s m args below meth c H1 locs1 cells slots Q (F0 m (pc + 3) ls (.int r :: rest))) : W p l e R s m args below meth c H locs cells slots Q (F0 m pc ls st0) := by
  have hP0 := z_subP hP
  have hD0 := z_subD hD
  have hM0 := hM H.size
  rw [h0.1, h0.2] at hM0
  have hcw := zsw_cw (R := R) (rm := rm) hv C0.2.2.2.2 hR
  rw [h0.1, h0.2] at hcw
  have hF := z_freeA hD hS hA
  exact va_calli (vx_runSW (As := As) (rest := rest) C0 hM0 hcw ⟨zPc_blind, fun U hU hW => ⟨rfl, by rw [hU], by rw [hU]; exact hP0, va_K.moved hW.alike hK, hD0.weaken (fun _ _ _ _ => trivial)⟩⟩ rfl hn hsize hst (lv_room hW) hdg ⟨hcs.1, hcs.2⟩) hS (fun q _ h => hF q h) hF (fun r u t H1 locs1 ht _ hw hB _ hk1 hS1 => by
    obtain ⟨g1, -, g3⟩ := hB
    rw [ht] at g1
    obtain ⟨f1, f2⟩ := z_frame hP hD hk1 hF g1 g3
    exact kk r u H1 locs1 hw f1 f2 hS1)
theorem zl_callX {As : List Value} {st0 : List Value} (w1 w2 : va_W) (C0 : CallFix p m c cc nL s args zt own) (hM : ZLx l y b k hh rm D cl tys0 As W0) (hv : zsw own idx y b k hh n) (hR : rm.frames + 1 ≤ R.frames ∧ 8 + (k + 11) + rm.locals ≤ R.locals) (h0 : rm.cells = 1 ∧ rm.slots = 6) (hn : As.length = n)
    (hK : va_K D cl tys0 s) (hP : va_P D cl (w1 ++ (W0 ++ w2)) H) (hD : va_D A (w1 ++ (W0 ++ w2))) (hS : va_S A s.heap H locs) (hA : ∀ q, s.heap.size ≤ q → A q) (hA2 : ∀ q, A q → s.heap.size ≤ q) (hxh : xh s.heap.size s) (hsize : ls.size = nL) (hst : st0 = As.reverse ++ rest) (hW : (rest.map fun v => v.category).sum ≤ 8) (hdg : decode cc pc = .ok (.invokestatic idx, 3)) (hcs : cells + 1 ≤ R.cells ∧ slots + 6 ≤ R.slots)
    (kk : ∀ (H1 : Heap) (locs1 : List Loc), va_P D cl (w1 ++ (W0 ++ w2)) H1 → va_S A s.heap H1 locs1 → W p l e R s m args below meth c H1 locs1 (cells + 1) (slots + 6) Q (F0 m (pc + 3) ls (.int 1 :: rest))) : W p l e R s m args below meth c H locs cells slots Q (F0 m pc ls st0) := by
  have hP0 := z_subP hP
  have hD0 := z_subD hD
  have hcw := zsw_cw (R := R) (rm := rm) hv C0.2.2.2.2 hR
  rw [h0.1, h0.2] at hcw
  refine va_calli (vx_runSW (As := As) (rest := rest) C0 (hM H.size) hcw ⟨zPx_blind, fun U hU hW => ⟨rfl, by rw [hU], by rw [hU]; exact hP0, va_K.moved hW.alike hK, hD0.weaken (fun _ _ _ _ => trivial), xh_at hxh hW hU hS.1 (fun q hq => hS.2.1 q hq (fun z => absurd (hA2 q z) (Nat.not_le.mpr hq)))⟩⟩ rfl hn hsize hst (lv_room hW) hdg ⟨hcs.1, hcs.2⟩) hS (fun q h1 h2 => absurd h2 (Nat.not_le.mpr h1)) (fun q h => hA q (Nat.le_trans hS.1 h)) (fun r u t H1 locs1 ht _ hw _ _ hk1 hS1 => ?_)
  subst hw
  exact kk H1 locs1 (hP.kept (fun i q hq => hk1 q.1 (hP i q hq).lt (Nat.not_le.mpr (hP i q hq).lt))) hS1
theorem z_sld {b L j : Nat} {xs : Nat → Int32} (C0 : CallFix p m c cc nL s args zt own) (hX : va_X b L xs s s.heap) (hbl : b < s.heap.size) (hbA : ¬ A b) (hS : va_S A s.heap H locs) (hj : j < L) (hL : L < 2 ^ 31) (hdg : decode cc pc = .ok (.iaload, 1))
    (kk : W p l e R s m args below meth c H locs cells slots Q (F0 m (pc + 1) ls (.int (xs j) :: rest))) : W p l e R s m args below meth c H locs cells slots Q (F0 m pc ls (.int (nI j) :: .ref b :: rest)) :=
  va_sld C0.1 C0.2.1 hX hbl hbA hS (vp_in_nI hj hL) hdg (by rw [nI_clamp (by omega)]; exact kk)
theorem z_cell {b L j : Nat} {xs : Nat → Int32} (C0 : CallFix p m c cc nL s args zt RL) (hX : va_X b L xs s s.heap) (hbl : b < s.heap.size) (hbA : ¬ A b) (hS : va_S A s.heap H locs) (hL : L < 2 ^ 31) (hj : j < 2 ^ 31) (hsize : ls.size = nL) (hW : (rest.map fun v => v.category).sum ≤ 8) (hR : 1 ≤ R.frames ∧ 21 ≤ R.locals) (hdg : decode cc pc = .ok (.invokestatic 22, 3)) (hcs : cells ≤ R.cells ∧ slots ≤ R.slots)
    (kk : W p l e R s m args below meth c H locs cells slots Q (F0 m (pc + 3) ls (.int (if L ≤ j then 0 else xs j) :: rest))) : W p l e R s m args below meth c H locs cells slots Q (F0 m pc ls (.int (nI j) :: .ref b :: rest)) := by
  have hkb : H[b]? = s.heap[b]? := hS.2.1 b hbl hbA
  exact vp_callSi (W.runS (As := [.ref b, .int (nI j)]) (rest := rest) C0 (l_cell l b L xs j hL hj H.size) (zs_cw (R := R) (rm := rL_cell) zs_L_L_cell C0.2.2.2.2 ⟨hR.1, hR.2⟩) ⟨zPs_blind, fun U hU hW => ⟨rfl, by rw [hU], by rw [hU]; exact (va_X.moved hW.alike hX).kept hkb, Nat.lt_of_lt_of_le hbl hS.1⟩⟩ rfl rfl hsize rfl (lv_room hW) hdg ⟨hcs.1, hcs.2⟩) (fun r er => by subst er; exact kk)
theorem zn_call {S : Type} {post : S → Prop} {Wf : S → va_W} {Tf : S → List (ClassId × FieldType)} {As : List Value} {st0 : List Value} (w1 : va_W) (C0 : CallFix p m c cc nL s args zt own) (hM : ZN l y b k rm D cl (.ref a :: As) W0 post Wf Tf) (hv : zn own idx y b k none n) (hy : y.name = "<init>") (hR : rm.frames + 1 ≤ R.frames ∧ 8 + (k + 11) + rm.locals ≤ R.locals) (hn : As.length = n)
    (hK : va_K D cl tys s) (hP : va_P D cl (w1 ++ (W0 ++ [])) H) (hD : va_D A (w1 ++ (W0 ++ []))) (hS : va_S A s.heap H locs) (hA : ∀ q, s.heap.size ≤ q → A q) (hsize : ls.size = nL) (hst : st0 = As.reverse ++ .ref a :: rest) (hW : (rest.map fun v => v.category).sum ≤ 8) (hdg : decode cc pc = .ok (.invokespecial idx, 3)) (hcs : cells + rm.cells ≤ R.cells ∧ slots + rm.slots ≤ R.slots)
    (kk : ∀ (u : S) (H1 : Heap) (locs1 : List Loc), post u → va_K D cl (tys ++ Tf u) s → va_P D cl (w1 ++ (Wf u ++ [])) H1 → va_D A (w1 ++ (Wf u ++ [])) → va_S A s.heap H1 locs1 → W p l e R s m args below meth c H1 locs1 (cells + rm.cells) (slots + rm.slots) Q (F0 m (pc + 3) ls rest)) : W p l e R s m args below meth c H locs cells slots Q (F0 m pc ls st0) := by
  have hP0 := z_subP hP
  have hD0 := z_subD hD
  have hts := C0.2.2.2.2
  have hF := z_freeA hD hS hA
  have hKe : va_K D cl [] s := hK.sub [] rfl
  have hcw : CallB R s args own idx y b k none (Cond.code y b k none :: zt) rm rm.cells rm.slots n ∧ y.name = "<init>" ∧ (Cond.instanceMethod y).before args s = true := ⟨callB_of n hts (zt_code hv.1) rfl rfl rfl (hts _ hv.2.2.1) (hts _ hv.2.1) hv.2.2.2.1 hR, hy, hts _ hv.2.2.2.2⟩
  exact va_callv (va_runI (As := As) (rest := rest) C0 (hM H.size) hcw ⟨zPc_blind, fun U hU hW => ⟨rfl, by rw [hU], by rw [hU]; exact hP0, va_K.moved hW.alike hKe, hD0.weaken (fun _ _ _ _ => trivial)⟩⟩ rfl hn hsize hst (lv_room hW) hdg hcs) hS (fun q _ h => hF q h) hF (fun u t H1 locs1 ht hal hw hB _ hk1 hS1 => by
    obtain ⟨g1, g2, g3⟩ := hB
    rw [ht] at g1
    obtain ⟨f1, f2⟩ := z_frame hP hD hk1 hF g1 g3
    exact kk u H1 locs1 hw (hK.app (va_K.moved hal.symm g2)) f1 f2 hS1)
end ZLD
set_option maxRecDepth 20000 in
theorem zw_feedMany : zsw RL 43 yL_feedMany cL_feedMany 7 [(0, 14, 17, 13)] 6 := ⟨zt_of (List.mem_append_left _ (by decide +kernel)) (by decide +kernel), zt_of (List.mem_append_left _ (by decide +kernel)) (by decide +kernel), zt_of (List.mem_append_left _ (by decide +kernel)) (by decide +kernel), ⟨by decide +kernel, by decide +kernel, by decide +kernel⟩, zt_of (List.mem_append_left _ (by decide +kernel)) (by decide +kernel)⟩
set_option maxRecDepth 20000 in
theorem zw_group : zsw RL 75 yL_group cL_group 4 [(0, 9, 12, 13)] 3 := ⟨zt_of (List.mem_append_left _ (by decide +kernel)) (by decide +kernel), zt_of (List.mem_append_left _ (by decide +kernel)) (by decide +kernel), zt_of (List.mem_append_left _ (by decide +kernel)) (by decide +kernel), ⟨by decide +kernel, by decide +kernel, by decide +kernel⟩, zt_of (List.mem_append_left _ (by decide +kernel)) (by decide +kernel)⟩
set_option maxRecDepth 20000 in
theorem zw_count : zsw RL 79 yL_count cL_count 4 [(0, 9, 12, 13)] 3 := ⟨zt_of (List.mem_append_left _ (by decide +kernel)) (by decide +kernel), zt_of (List.mem_append_left _ (by decide +kernel)) (by decide +kernel), zt_of (List.mem_append_left _ (by decide +kernel)) (by decide +kernel), ⟨by decide +kernel, by decide +kernel, by decide +kernel⟩, zt_of (List.mem_append_left _ (by decide +kernel)) (by decide +kernel)⟩
/-- the sizes -/
def lS (w n nr : Nat) : Prop := 0 < w ∧ w ≤ 64 ∧ nr ≤ 2001 ∧ n = w * nr ∧ n ≤ 2064
theorem lS.cap {w n nr f : Nat} (h : lS w n nr) (hf : f ≤ n) : f ≤ w * 2048 := by
  obtain ⟨h1, h2, h3, h4, h5⟩ := h
  have : w * nr ≤ w * 2048 := Nat.mul_le_mul_left _ (by omega)
  omega
theorem lS.runs {w n nr r f : Nat} (h : lS w n nr) (hf : f ≤ n) (hr : 0 < f → r * w < f) : rnn r f ≤ nr ∧ (0 < f → r < nr) := by
  obtain ⟨h1, h2, h3, h4, h5⟩ := h
  have key : 0 < f → r < nr := fun z => by
    have h6 := hr z
    have h7 : r * w < nr * w := by rw [Nat.mul_comm nr w]; omega
    exact Nat.lt_of_mul_lt_mul_right h7
  refine ⟨?_, key⟩
  unfold rnn
  split
  · omega
  · exact key (by omega)
/-- what is current, on both sides -/
def lC (G : Nat → Int32) (ck cv cur nk nv gc gu gl gm : Int32) : Prop :=
  (cur = 0 ∧ ck = 0 ∧ cv = 0 ∧ ∀ j, j < 4 → G j = 0) ∨ (cur = 1 ∧ ck = nk ∧ cv = nv ∧ ∀ j, j < 4 → G j = 0) ∨ (cur = 2 ∧ ck = nk ∧ cv = 0 ∧ (G 0, G 1, G 2, G 3) = (gc, gu, gl, gm))
/-- class and reference agree -/
def li (w n : Nat) (K O RL G OM : Nat → Int32) (f r c0 : Nat) (se op ck cv held cur nk nv gc gu gl gm : Int32) : Prop :=
  f ≤ n ∧ xW w r f ∧ (0 < f → r * w < f) ∧ held = nI (f - r * w) ∧ lC G ck cv cur nk nv gc gu gl gm ∧
  ((se = 0 ∧ c0 = 0 ∧ cur = 0 ∧ xO w n K O r f) ∨ (se = 1 ∧ c0 ≤ f ∧ ∃ o : Nat → Nat, xF K O f o ∧ xF K OM f o ∧ xR w r f c0 o RL op))
theorem rnx_le {w r f : Nat} (h : xW w r f) : rnx w r f * w ≤ f := by
  obtain ⟨h1, h2⟩ := h
  unfold rnx
  split
  · exact h1
  · rw [Nat.succ_mul]; omega
theorem fm_le {w r f : Nat} (h : xW w r f) (hw : 0 < w) (h0 : 0 < f → r * w < f) : ∀ j, 0 < f + j → fm_r w r f j * w < f + j
  | 0, hj => h0 hj
  | j + 1, _ => by
    have := rnx_le (xW_fm h hw j)
    show rnx w (fm_r w r f j) (f + j) * w < f + (j + 1)
    omega
/-- how far rows of a kind go is one number -/
theorem gm_uniq {P : Nat → Prop} {c0 f a b : Nat} (ha : c0 + a ≤ f) (ha1 : ∀ i, i < a → P (c0 + i)) (ha2 : c0 + a = f ∨ ¬ P (c0 + a)) (hb : c0 + b ≤ f) (hb1 : ∀ i, i < b → P (c0 + i)) (hb2 : c0 + b = f ∨ ¬ P (c0 + b)) : a = b := by
  rcases Nat.lt_trichotomy a b with q | q | q
  · rcases ha2 with z | z
    · omega
    · exact absurd (hb1 a q) z
  · exact q
  · rcases hb2 with z | z
    · omega
    · exact absurd (ha1 b q) z
theorem w43 {x : Int32} (h : ¬ x < 4) : ¬ x ≤ 3 := fun z => h (by
  have := Int32.le_iff_toInt_le.mp z
  exact Int32.lt_iff_toInt_lt.mpr (by
    have e1 : (3 : Int32).toInt = 3 := by decide
    have e2 : (4 : Int32).toInt = 4 := by decide
    omega))
theorem w34 {x : Int32} (h : x < 4) : x ≤ 3 := Int32.le_iff_toInt_le.mpr (by
  have := Int32.lt_iff_toInt_lt.mp h
  have e1 : (3 : Int32).toInt = 3 := by decide
  have e2 : (4 : Int32).toInt = 4 := by decide
  omega)
theorem cmp_eq {x y : Int64} (h : x = y) : lg_cmp x y = 0 := by
  subst h
  unfold lg_cmp
  rw [if_neg Int64.lt_irrefl, if_pos rfl]
abbrev ow (oa : Nat) (oc : ClassId) (g : Nat → Int64) : Nat × va_E := (oa, .inl (oc, 1, .inr (.inl g)))
abbrev lwd (ad : Nat → Nat) (cs : Nat → ClassId) (bd : Nat → Nat) (cr : Nat → ClassId) (oa : Nat) (oc : ClassId) (w n nr : Nat) (K V O M RL G OM LF : Nat → Int32) (f r c0 : Nat) (se op ck cv th held cur nk nv gc gu gl gm : Int32) (g : Nat → Int64) : va_W :=
  ow oa oc g :: (xw ad cs w n nr K V O M RL G (nI f) (nI r) se (nI c0) op ck cv ++ mw bd cr w n K V OM LF th (nI f) (nI r) held se (nI c0) cur nk nv gc gu gl gm)
abbrev lt9 (cs cr : Nat → ClassId) (oc : ClassId) : List (ClassId × FieldType) := (oc, .long) :: (xt cs ++ mt cr)
/-- what the law stands on -/
def LC (p : Program) (s : State) (m : MethodId) (c : Code) (b L : Nat) (xs : Nat → Int32) (D : va_G) (cs cr : Nat → ClassId) (oc : ClassId) : Prop :=
  CallFix p m c cL_law 7 s #[Value.ref b] zt RL ∧ va_X b L xs s s.heap ∧ b < s.heap.size ∧ va_K D classes (lt9 cs cr oc) s ∧ xh s.heap.size s
/-- the law behind a case: at the loop's step -/
def LB (p : Program) (l : Launch) (e : Env) (s : State) (m : MethodId) (below : List Frame) (meth : Method) (c : Code) (b : Nat) (D : va_G) (ad : Nat → Nat) (cs : Nat → ClassId) (bd : Nat → Nat) (cr : Nat → ClassId) (oa : Nat) (oc : ClassId) (w n nr i : Nat) : Prop :=
  ∀ (K V O M RL G OM LF : Nat → Int32) (f r c0 : Nat) (se op ck cv th held cur nk nv gc gu gl gm : Int32) (g : Nat → Int64) (H : Heap) (locs : List Loc) (ls : Array Slot), li w n K O RL G OM f r c0 se op ck cv held cur nk nv gc gu gl gm →
    va_P D classes (lwd ad cs bd cr oa oc w n nr K V O M RL G OM LF f r c0 se op ck cv th held cur nk nv gc gu gl gm g) H → va_D (fun q => s.heap.size ≤ q) (lwd ad cs bd cr oa oc w n nr K V O M RL G OM LF f r c0 se op ck cv th held cur nk nv gc gu gl gm g) → va_S (fun q => s.heap.size ≤ q) s.heap H locs →
    lv_has ls 7 [(0, .ref b), (1, .ref (ad 0)), (2, .ref (bd 0)), (3, .ref oa), (4, .int (nI i))] → W p l e room_1 s m #[Value.ref b] below meth c H locs (15 + i) (20006 + 6 * i) (lw_Z below #[Value.ref b] s) (F0 m 458 ls [])
