/-! LAW: its static helpers -/
def ZL {S : Type} (l : Launch) (y : MethodName) (b : ByteArray) (k : Nat) (hh : List (Nat × Nat × Nat × Nat)) (rm : Room) (D : va_G) (cl : List vw_C) (tys : List (ClassId × FieldType)) (av : List Value) (W0 : va_W) (post : Int32 → S → Prop) (Wf : S → va_W) : Prop :=
  ∀ sz : Nat, Met l y (Cond.codeWith y b k (some .int) hh :: zt) rm (zPc D cl tys av W0 sz) (va_Qi post (zB D cl tys (va_A W0 sz) Wf) (va_A W0 sz)) rm.cells rm.slots (va_A W0 sz)
/-- the start of a helper whose call throws -/
abbrev zPx (D : va_G) (cl : List vw_C) (tys : List (ClassId × FieldType)) (av : List Value) (W0 : va_W) (sz : Nat) : Array Value → State → Prop := va_Pc av (fun U => U.heap.size = sz ∧ va_P D cl W0 U.heap ∧ va_K D cl tys U ∧ va_D (fun _ => True) W0 ∧ xh sz U)
def ZLx (l : Launch) (y : MethodName) (b : ByteArray) (k : Nat) (hh : List (Nat × Nat × Nat × Nat)) (rm : Room) (D : va_G) (cl : List vw_C) (tys : List (ClassId × FieldType)) (av : List Value) (W0 : va_W) : Prop :=
  ∀ sz : Nat, Met l y (Cond.codeWith y b k (some .int) hh :: zt) rm (zPx D cl tys av W0 sz) (va_Qi (S := Unit) (fun r _ => r = 1) (fun _ _ => True) (fun q => sz ≤ q)) 1 6 (fun q => sz ≤ q)
theorem zPx_blind {D : va_G} {cl : List vw_C} {tys : List (ClassId × FieldType)} {av : List Value} {W0 : va_W} {sz : Nat} : FrameBlind (zPx D cl tys av W0 sz) := fun a U g mk q => by
  obtain ⟨q0, q1, qP, qK, qD, qx⟩ := q
  exact ⟨q0, q1, qP, va_K.moved (u := U) (U := U.calling g mk a) (Vm.Alike.refl U.vm) qK, qD, xh_blind qx⟩
section ZLB
variable {l : Launch} {y : MethodName} {b : ByteArray} {k : Nat} {hh : List (Nat × Nat × Nat × Nat)} {rm : Room} {D : va_G} {cl : List vw_C} {tys : List (ClassId × FieldType)} {av : List Value} {W0 : va_W}
theorem ZL.of {S : Type} {post : Int32 → S → Prop} {Wf : S → va_W} (hy : plainName y.cls = true) (hlen : (lg_sl av).length ≤ k)
    (body : ∀ (p : Program) (e : Env) (s : State) (m : MethodId) (args : Array Value) (below : List Frame) (meth : Method) (c : Code) (A : Nat → Prop) (Q : State → Prop) (ls : Array Slot), CallFix p m c b k s args zt y.cls → va_K D cl tys s → va_P D cl W0 s.heap → va_D A W0 → va_S A s.heap s.heap [] → (∀ q, s.heap.size ≤ q → A q) → lv_has ls k (lv_args 0 av) →
      (∀ (v : Int32) (u : S) (H : Heap) (locs : List Loc) (pc : Nat) (ls : Array Slot), va_P D cl (Wf u) H → va_D A (Wf u) → va_S A s.heap H locs → post v u → decode b pc = .ok (.ireturn, 1) → W p l e rm s m args below meth c H locs rm.cells rm.slots Q (F0 m pc ls [.int v])) →
      W p l e rm s m args below meth c s.heap [] 0 0 Q (F0 m 0 ls [])) : ZL l y b k hh rm D cl tys av W0 post Wf := by
  intro sz
  refine va_MetW (cc := b) (maxL := k) (ret := some .int) hy rfl ?_
  intro p e s m args below meth c s₁ B hml hv
  obtain ⟨rfl, hsz, hP, hK, hD0⟩ := hv
  have hts := atoms_spec (ws := Cond.codeWith y b k (some .int) hh :: zt) B.pre
  subst hsz
  rw [lg_entry_eq]
  exact body p e s m _ below meth c _ _ _ ⟨B.exec, B.bytes, hml, findClass_of_methodNamed B.named, fun w hw => hts w (List.mem_cons_of_mem _ hw)⟩ hK hP (hD0.self (sz := s.heap.size)) va_S.rf (fun q h => Or.inr h) (lv_entry av hlen)
    (fun v u H locs pc ls hP hD hS hw hdg => W.iret B.exec B.bytes B.returns (fun t ht hW => ⟨⟨v, u, rfl, hw, by rw [ht]; exact hP, va_K.moved hW.alike hK, hD⟩, hS.F ht⟩) hS.2.2 hdg B.notSynchronized)
theorem ZLx.of (hy : plainName y.cls = true) (hlen : (lg_sl av).length ≤ k)
    (body : ∀ (p : Program) (e : Env) (s : State) (m : MethodId) (args : Array Value) (below : List Frame) (meth : Method) (c : Code) (Q : State → Prop) (ls : Array Slot), CallFix p m c b k s args zt y.cls → c.exceptionTable.toList = tableOf hh → va_K D cl tys s → va_P D cl W0 s.heap → va_D (fun _ => True) W0 → xh s.heap.size s → lv_has ls k (lv_args 0 av) →
      (∀ (H : Heap) (locs : List Loc) (pc : Nat) (ls : Array Slot), va_S (fun q => s.heap.size ≤ q) s.heap H locs → decode b pc = .ok (.ireturn, 1) → W p l e rm s m args below meth c H locs 1 6 Q (F0 m pc ls [.int 1])) →
      W p l e rm s m args below meth c s.heap [] 0 0 Q (F0 m 0 ls [])) : ZLx l y b k hh rm D cl tys av W0 := by
  intro sz
  refine va_MetW (cc := b) (maxL := k) (ret := some .int) hy rfl ?_
  intro p e s m args below meth c s₁ B hml hv
  obtain ⟨rfl, hsz, hP, hK, hD0, hxh⟩ := hv
  have hts := atoms_spec (ws := Cond.codeWith y b k (some .int) hh :: zt) B.pre
  subst hsz
  rw [lg_entry_eq]
  exact body p e s m _ below meth c _ _ ⟨B.exec, B.bytes, hml, findClass_of_methodNamed B.named, fun w hw => hts w (List.mem_cons_of_mem _ hw)⟩ (vx_table (x := y) B (hts _ List.mem_cons_self)) hK hP hD0 hxh (lv_entry av hlen)
    (fun H locs pc ls hS hdg => W.iret B.exec B.bytes B.returns (fun t ht hW => ⟨⟨1, (), rfl, rfl, trivial⟩, hS.F ht⟩) hS.2.2 hdg B.notSynchronized)
end ZLB
section ZLC
variable {p : Program} {l : Launch} {e : Env} {R : Room} {s : State} {m : MethodId} {args : Array Value} {below : List Frame} {meth : Method} {c : Code} {H : Heap} {locs : List Loc} {cells slots : Nat} {Q : State → Prop}
variable {cc : ByteArray} {pc : Nat} {ls : Array Slot} {rest : List Value} {D : va_G} {cl : List vw_C} {A : Nat → Prop} {a : Nat} {tys tys0 : List (ClassId × FieldType)} {W0 : va_W} {nL : Nat} {own : String}
variable {y : MethodName} {b : ByteArray} {k n idx : Nat} {rm : Room}
/-- a call that throws, caught by the only row of the table -/
theorem zx_callV {As : List Value} {st0 : List Value} {q0 ci : Nat} {fs : List Value} {q : vw_C} (x : ExceptionTableEntry) (C0 : CallFix p m c cc nL s args zt own) (hM : ZX l y b k rm (.ref a :: As)) (hv : zv own idx y b k (some .int) n) (hR : rm.frames + 1 ≤ R.frames ∧ 8 + (k + 11) + rm.locals ≤ R.locals) (h0 : rm.cells = 1 ∧ rm.slots = 6) (hn : As.length = n)
    (hK : va_K D cl tys0 s) (hP : va_P D cl W0 s.heap) (hxh : xh s.heap.size s) (hone : c.exceptionTable.toList = [x]) (hx : covers x pc = true) (hx0 : x.catchType ≠ 0) (hlink : Cond.classLink own x.catchType IAE ∈ zt) (hc : cl[ci]? = some q) (hq : q.1 = y.cls) (he : W0[q0]? = some (a, .inr (ci, fs))) (hsize : ls.size = nL) (hst : st0 = As.reverse ++ .ref a :: rest) (hW : (rest.map fun v => v.category).sum ≤ 8) (hdg : decode cc pc = .ok (.invokevirtual idx, 3)) (hcs : cells + 1 ≤ R.cells ∧ slots + 6 ≤ R.slots)
    (kk : ∀ (q9 : Nat) (H1 : Heap) (locs1 : List Loc), va_S (fun q => s.heap.size ≤ q) s.heap H1 locs1 → W p l e R s m args below meth c H1 locs1 (cells + 1) (slots + 6) Q (F0 m x.handlerPc ls [.ref q9])) : W p l e R s m args below meth c s.heap [] cells slots Q (F0 m pc ls st0) := by
  have hrec := va_recv hK hP hc he
  rw [hq] at hrec
  have hcw := zv_cw (R := R) (rm := rm) hv C0.2.2.2.2 hR
  rw [h0.1, h0.2] at hcw
  refine vx_calli (A0 := fun q => s.heap.size ≤ q) (H0 := s.heap) (vx_runV (As := As) (rest := rest) C0 (hM s.heap.size) hcw ⟨fun a U g mk q => ⟨q.1, q.2.1, xh_blind q.2.2⟩, hrec, fun U hU hW => ⟨rfl, by rw [hU], xh_at hxh hW hU (Nat.le_refl _) (fun q _ => rfl)⟩⟩ rfl hn hsize hst (lv_room hW) hdg ⟨hcs.1, hcs.2⟩) va_S.rf (fun q _ h => h.elim) (fun q h => h) (fun q _ h => h) ?_ ?_
  · intro E ce q9 u t H1 locs1 ht hal hp hE hz hk hS1 hce hcv hcl
    subst hE
    exact vy_catch C0.2.2.2.1 x hone hx hx0 (C0.2.2.2.2 _ hlink) (xc_moved (args' := args) (Vm.Alike.refl _) hxh.2.2.1 _ List.mem_cons_self) hce hcv hcl (kk q9 H1 locs1 hS1)
  · intro r u t H1 locs1 ht hal hp
    exact hp.elim
end ZLC
/-- cell(script, k) -/
abbrev rL_cell : Room := { frames := 0, cells := 0, slots := 0, locals := 0 }
abbrev zPs (av : List Value) (b L : Nat) (xs : Nat → Int32) (sz : Nat) : Array Value → State → Prop := va_Pc av (fun U => U.heap.size = sz ∧ va_X b L xs U U.heap ∧ b < sz)
theorem zPs_blind {av : List Value} {b L : Nat} {xs : Nat → Int32} {sz : Nat} : FrameBlind (zPs av b L xs sz) := fun a U g mk q => ⟨q.1, q.2.1, va_X.moved (U := U.calling g mk a) (Vm.Alike.refl U.vm) q.2.2.1, q.2.2.2⟩
set_option maxHeartbeats 4000000 in
set_option maxRecDepth 100000 in
theorem l_cell (l : Launch) (b L : Nat) (xs : Nat → Int32) (j : Nat) (hL : L < 2 ^ 31) (hj : j < 2 ^ 31) (sz : Nat) : Met l yL_cell (Cond.code yL_cell cL_cell 2 (some .int) :: zt) rL_cell (zPs [.ref b, .int (nI j)] b L xs sz) (vp_Si (fun r => r = if L ≤ j then 0 else xs j)) 0 0 (fun _ => False) := by
  refine Met.ofW (cc := cL_cell) (maxL := 2) (ret := some .int) (by decide +kernel) rfl ?_
  intro p e s m args below meth c s₁ B hml hv
  obtain ⟨rfl, hsz, hX, hbl⟩ := hv
  have hx := B.exec
  have hb := B.bytes
  have hr := B.returns
  have hlocks := B.notSynchronized
  have hl := lv_entry ([.ref b, .int (nI j)]) (n := 2) (Nat.le_of_ble_eq_true rfl)
  rw [lg_entry_eq]
  generalize (lg_sl ([.ref b, .int (nI j)]) ++ List.replicate (2 - (lg_sl ([.ref b, .int (nI j)])).length) Slot.unset).toArray = ls at hl ⊢
  have hl : lv_has ls 2 [(0, .ref b), (1, .int (nI j))] := hl
  have hS : va_S (fun _ => False) s.heap s.heap [] := va_S.rf
  subst hsz
  refine lv_iload_n hx hb dL_cell_0 rfl (lv_at hl 1 rfl) ?_
  refine lv_aload_n hx hb dL_cell_1 rfl (lv_at hl 0 rfl) ?_
  refine va_slen hx hb hX hbl (fun h => h) hS dL_cell_2 ?_
  refine lv_icmp_ge (tgt := 12) hx hb dL_cell_3 (by decide) (fun c1 => ?_) (fun c1 => ?_)
  · have c1 : L ≤ j := zle c1 hL hj
    refine lv_iconst (v := 0) hx hb dL_cell_12 (by decide) ?_
    exact W.iret hx hb hr (fun t ht hW => ⟨0, rfl, by rw [if_pos c1], ht⟩) (fun q hq => absurd hq List.not_mem_nil) dL_cell_13 hlocks
  · have c1 : j < L := znle c1 hL hj
    refine lv_aload_n hx hb dL_cell_6 rfl (lv_at hl 0 rfl) ?_
    refine lv_iload_n hx hb dL_cell_7 rfl (lv_at hl 1 rfl) ?_
    refine va_sld hx hb hX hbl (fun h => h) hS (vp_in_nI c1 hL) dL_cell_8 ?_
    refine lv_goto (tgt := 13) hx hb dL_cell_9 (by decide) ?_
    exact W.iret hx hb hr (fun t ht hW => ⟨_, rfl, by rw [if_neg (by omega), nI_clamp hj], ht⟩) (fun q hq => absurd hq List.not_mem_nil) dL_cell_13 hlocks
abbrev rL_feedMany : Room := { frames := 6, cells := 0, slots := 0, locals := 137 }
abbrev rL_feedMany_x : Room := { frames := 7, cells := 1, slots := 6, locals := 108 }
set_option maxHeartbeats 4000000 in
set_option maxRecDepth 100000 in
theorem l_feedMany_k {S : Type} {post : Int32 → S → Prop} {Wf : S → va_W} (l : Launch) (D : va_G) (a oa : Nat) (oc : ClassId) (tys0 : List (ClassId × FieldType)) (g : Nat → Int64) (W0 : va_W) (fs : List Value) (he : W0[0]? = some (a, .inr (0, fs))) (k1 k2 k3 k4 : Int32) (hM : ZI l yX0_feedMany cX0_feedMany 7 rX_feedMany D classes tys0 [.ref a, .int k1, .int k2, .int k3, .int k4] W0 post Wf) : ZL (S := S × (Nat → Int64)) l yL_feedMany cL_feedMany 7 [(0, 14, 17, 13)] rL_feedMany D classes ((oc, .long) :: tys0) [.ref a, .int k1, .int k2, .int k3, .int k4, .ref oa] ((oa, .inl (oc, 1, .inr (.inl g))) :: W0) (fun r u => r = 0 ∧ ∃ v, post v u.1 ∧ u.2 0 = v.toInt64) (fun u => (oa, .inl (oc, 1, .inr (.inl u.2))) :: Wf u.1) := by
  refine ZL.of (by decide +kernel) (Nat.le_of_ble_eq_true rfl) ?_
  intro p e s m args below meth c A Q ls C0 hK hP hD hS hA hl hret
  have hx := C0.1
  have hb := C0.2.1
  have hl : lv_has ls 7 [(0, .ref a), (1, .int k1), (2, .int k2), (3, .int k3), (4, .int k4), (5, .ref oa)] := hl
  have hK0 : va_K D classes tys0 s := ⟨hK.1, fun i q h => hK.2 (i + 1) q (by simpa using h)⟩
  refine lv_aload hx hb dL_feedMany_0 (lv_at hl 5 rfl) ?_
  refine lv_iconst (v := 0) hx hb dL_feedMany_2 (by decide) ?_
  refine lv_aload_n hx hb dL_feedMany_3 rfl (lv_at hl 0 rfl) ?_
  refine lv_iload_n hx hb dL_feedMany_4 rfl (lv_at hl 1 rfl) ?_
  refine lv_iload_n hx hb dL_feedMany_5 rfl (lv_at hl 2 rfl) ?_
  refine lv_iload_n hx hb dL_feedMany_6 rfl (lv_at hl 3 rfl) ?_
  refine lv_iload hx hb dL_feedMany_7 (lv_at hl 4 rfl) ?_
  refine zi_callV (As := [.int k1, .int k2, .int k3, .int k4]) (rest := [.int 0, .ref oa]) (q0 := 0) (ci := 0) [(oa, .inl (oc, 1, .inr (.inl g)))] [] C0 hM zv_L_X0_feedMany ⟨by decide, by decide⟩ ⟨rfl, rfl⟩ rfl hK0 (by rw [List.append_nil]; exact hP) (by rw [List.append_nil]; exact hD) hS hA rfl rfl he hl.1 rfl (Nat.le_of_ble_eq_true rfl) dL_feedMany_9 ⟨Nat.zero_le _, Nat.zero_le _⟩ (fun r u H locs hw hP hD hS => ?_)
  rw [List.append_nil] at hP hD
  have hP : va_P D classes ((oa, .inl (oc, 1, .inr (.inl g))) :: Wf u) H := hP
  have hD : va_D A ((oa, .inl (oc, 1, .inr (.inl g))) :: Wf u) := hD
  refine lv_i2l (v := r.toInt64) hx hb dL_feedMany_12 rfl ?_
  refine va_last hx hb hK hP hD hS 0 0 rfl rfl (vp_in_nI (n := 0) (N := 1) (by decide) (by decide)) dL_feedMany_13 (fun H locs hP hD hS => ?_)
  have hP : va_P D classes ((oa, .inl (oc, 1, .inr (.inl (vp_updL g (0 : Int32).toNatClampNeg r.toInt64)))) :: Wf u) H := hP
  have hD : va_D A ((oa, .inl (oc, 1, .inr (.inl (vp_updL g (0 : Int32).toNatClampNeg r.toInt64)))) :: Wf u) := hD
  refine lv_goto (tgt := 21) hx hb dL_feedMany_14 (by decide) ?_
  refine lv_iconst (v := 0) hx hb dL_feedMany_21 (by decide) ?_
  exact hret _ ((u, vp_updL g (0 : Int32).toNatClampNeg r.toInt64)) _ _ _ _ hP hD hS ⟨rfl, r, hw, by show vp_updL g (0 : Int32).toNatClampNeg r.toInt64 0 = _; rw [sb_cl0]; exact pk_uLs⟩ dL_feedMany_22
set_option maxHeartbeats 4000000 in
set_option maxRecDepth 100000 in
theorem l_feedMany_x (l : Launch) (D : va_G) (a oa : Nat) (oc : ClassId) (tys0 : List (ClassId × FieldType)) (g : Nat → Int64) (W0 : va_W) (fs : List Value) (he : W0[0]? = some (a, .inr (0, fs))) (k1 k2 k3 k4 : Int32) (hl9 : l.stackTraces = false) (hbad : k4 < 0 ∨ ¬ k4 ≤ 200) : ZLx l yL_feedMany cL_feedMany 7 [(0, 14, 17, 13)] rL_feedMany_x D classes ((oc, .long) :: tys0) [.ref a, .int k1, .int k2, .int k3, .int k4, .ref oa] ((oa, .inl (oc, 1, .inr (.inl g))) :: W0) := by
  refine ZLx.of (by decide +kernel) (Nat.le_of_ble_eq_true rfl) ?_
  intro p e s m args below meth c Q ls C0 htab hK hP hD hxh hl hret
  have hx := C0.1
  have hb := C0.2.1
  have hl : lv_has ls 7 [(0, .ref a), (1, .int k1), (2, .int k2), (3, .int k3), (4, .int k4), (5, .ref oa)] := hl
  have hK0 : va_K D classes tys0 s := ⟨hK.1, fun i q h => hK.2 (i + 1) q (by simpa using h)⟩
  refine lv_aload hx hb dL_feedMany_0 (lv_at hl 5 rfl) ?_
  refine lv_iconst (v := 0) hx hb dL_feedMany_2 (by decide) ?_
  refine lv_aload_n hx hb dL_feedMany_3 rfl (lv_at hl 0 rfl) ?_
  refine lv_iload_n hx hb dL_feedMany_4 rfl (lv_at hl 1 rfl) ?_
  refine lv_iload_n hx hb dL_feedMany_5 rfl (lv_at hl 2 rfl) ?_
  refine lv_iload_n hx hb dL_feedMany_6 rfl (lv_at hl 3 rfl) ?_
  refine lv_iload hx hb dL_feedMany_7 (lv_at hl 4 rfl) ?_
  refine zx_callV (As := [.int k1, .int k2, .int k3, .int k4]) (rest := [.int 0, .ref oa]) (q0 := 0) (ci := 0) (⟨0, 14, 17, 13⟩ : ExceptionTableEntry) C0 (c_feedMany_x l hl9 a k1 k2 k3 k4 hbad) zv_L_X0_feedMany ⟨by decide, by decide⟩ ⟨rfl, rfl⟩ rfl hK0 (z_subP (w1 := [(oa, .inl (oc, 1, .inr (.inl g)))]) (w2 := []) (by rw [List.append_nil]; exact hP)) hxh htab rfl (by decide) zk_l13 rfl rfl he hl.1 rfl (Nat.le_of_ble_eq_true rfl) dL_feedMany_9 ⟨by decide, by decide⟩ (fun q9 H locs hS => ?_)
  refine lv_astore (lv' := [(6, .ref q9), (0, .ref a), (1, .int k1), (2, .int k2), (3, .int k3), (4, .int k4), (5, .ref oa)]) hx hb dL_feedMany_17 hl (by decide) rfl (fun ls hl => ?_)
  refine lv_iconst (v := 1) hx hb dL_feedMany_19 (by decide) ?_
  exact hret _ _ _ _ hS dL_feedMany_20
abbrev rL_group : Room := { frames := 2, cells := 0, slots := 0, locals := 42 }
abbrev rL_group_x : Room := { frames := 7, cells := 1, slots := 6, locals := 103 }
set_option maxHeartbeats 4000000 in
set_option maxRecDepth 100000 in
theorem l_group_k {post : Int32 → Prop} (l : Launch) (D : va_G) (a oa : Nat) (oc : ClassId) (tys0 : List (ClassId × FieldType)) (g : Nat → Int64) (W0 : va_W) (fs : List Value) (he : W0[0]? = some (a, .inr (0, fs))) (k1 : Int32) (hM : ZR l yX0_group cX0_group 2 rX_group D classes tys0 [.ref a, .int k1] W0 post) : ZL (S := Nat → Int64) l yL_group cL_group 4 [(0, 9, 12, 13)] rL_group D classes ((oc, .long) :: tys0) [.ref a, .int k1, .ref oa] ((oa, .inl (oc, 1, .inr (.inl g))) :: W0) (fun r u => r = 0 ∧ ∃ v, post v ∧ u 0 = v.toInt64) (fun u => (oa, .inl (oc, 1, .inr (.inl u))) :: W0) := by
  refine ZL.of (by decide +kernel) (Nat.le_of_ble_eq_true rfl) ?_
  intro p e s m args below meth c A Q ls C0 hK hP hD hS hA hl hret
  have hx := C0.1
  have hb := C0.2.1
  have hl : lv_has ls 4 [(0, .ref a), (1, .int k1), (2, .ref oa)] := hl
  have hK0 : va_K D classes tys0 s := ⟨hK.1, fun i q h => hK.2 (i + 1) q (by simpa using h)⟩
  refine lv_aload_n hx hb dL_group_0 rfl (lv_at hl 2 rfl) ?_
  refine lv_iconst (v := 0) hx hb dL_group_1 (by decide) ?_
  refine lv_aload_n hx hb dL_group_2 rfl (lv_at hl 0 rfl) ?_
  refine lv_iload_n hx hb dL_group_3 rfl (lv_at hl 1 rfl) ?_
  refine zr_callV (As := [.int k1]) (rest := [.int 0, .ref oa]) (q0 := 0) (ci := 0) (A := A) C0 hM zv_L_X0_group ⟨by decide, by decide⟩ ⟨rfl, rfl⟩ rfl hK0 (z_subP (w1 := [(oa, .inl (oc, 1, .inr (.inl g)))]) (w2 := []) (by rw [List.append_nil]; exact hP)) (z_subD (w1 := [(oa, .inl (oc, 1, .inr (.inl g)))]) (w2 := []) (by rw [List.append_nil]; exact hD)) rfl rfl he hl.1 rfl (Nat.le_of_ble_eq_true rfl) dL_group_4 ⟨Nat.zero_le _, Nat.zero_le _⟩ (fun r hw => ?_)
  refine lv_i2l (v := r.toInt64) hx hb dL_group_7 rfl ?_
  refine va_last hx hb hK hP hD hS 0 0 rfl rfl (vp_in_nI (n := 0) (N := 1) (by decide) (by decide)) dL_group_8 (fun H locs hP hD hS => ?_)
  have hP : va_P D classes ((oa, .inl (oc, 1, .inr (.inl (vp_updL g (0 : Int32).toNatClampNeg r.toInt64)))) :: W0) H := hP
  have hD : va_D A ((oa, .inl (oc, 1, .inr (.inl (vp_updL g (0 : Int32).toNatClampNeg r.toInt64)))) :: W0) := hD
  refine lv_goto (tgt := 15) hx hb dL_group_9 (by decide) ?_
  refine lv_iconst (v := 0) hx hb dL_group_15 (by decide) ?_
  exact hret _ (vp_updL g (0 : Int32).toNatClampNeg r.toInt64) _ _ _ _ hP hD hS ⟨rfl, r, hw, by show vp_updL g (0 : Int32).toNatClampNeg r.toInt64 0 = _; rw [sb_cl0]; exact pk_uLs⟩ dL_group_16
set_option maxHeartbeats 4000000 in
set_option maxRecDepth 100000 in
theorem l_group_x (l : Launch) (D : va_G) (a oa : Nat) (oc : ClassId) (tys0 : List (ClassId × FieldType)) (g : Nat → Int64) (W0 : va_W) (fs : List Value) (he : W0[0]? = some (a, .inr (0, fs))) (k1 : Int32) (hl9 : l.stackTraces = false) (hbad : k1 < 0 ∨ ¬ k1 < 4) : ZLx l yL_group cL_group 4 [(0, 9, 12, 13)] rL_group_x D classes ((oc, .long) :: tys0) [.ref a, .int k1, .ref oa] ((oa, .inl (oc, 1, .inr (.inl g))) :: W0) := by
  refine ZLx.of (by decide +kernel) (Nat.le_of_ble_eq_true rfl) ?_
  intro p e s m args below meth c Q ls C0 htab hK hP hD hxh hl hret
  have hx := C0.1
  have hb := C0.2.1
  have hl : lv_has ls 4 [(0, .ref a), (1, .int k1), (2, .ref oa)] := hl
  have hK0 : va_K D classes tys0 s := ⟨hK.1, fun i q h => hK.2 (i + 1) q (by simpa using h)⟩
  refine lv_aload_n hx hb dL_group_0 rfl (lv_at hl 2 rfl) ?_
  refine lv_iconst (v := 0) hx hb dL_group_1 (by decide) ?_
  refine lv_aload_n hx hb dL_group_2 rfl (lv_at hl 0 rfl) ?_
  refine lv_iload_n hx hb dL_group_3 rfl (lv_at hl 1 rfl) ?_
  refine zx_callV (As := [.int k1]) (rest := [.int 0, .ref oa]) (q0 := 0) (ci := 0) (⟨0, 9, 12, 13⟩ : ExceptionTableEntry) C0 (c_group_x l hl9 a k1 hbad) zv_L_X0_group ⟨by decide, by decide⟩ ⟨rfl, rfl⟩ rfl hK0 (z_subP (w1 := [(oa, .inl (oc, 1, .inr (.inl g)))]) (w2 := []) (by rw [List.append_nil]; exact hP)) hxh htab rfl (by decide) zk_l13 rfl rfl he hl.1 rfl (Nat.le_of_ble_eq_true rfl) dL_group_4 ⟨by decide, by decide⟩ (fun q9 H locs hS => ?_)
  refine lv_astore_n (lv' := [(3, .ref q9), (0, .ref a), (1, .int k1), (2, .ref oa)]) hx hb dL_group_12 rfl hl (by decide) rfl (fun ls hl => ?_)
  refine lv_iconst (v := 1) hx hb dL_group_13 (by decide) ?_
  exact hret _ _ _ _ hS dL_group_14
abbrev rL_count : Room := { frames := 2, cells := 0, slots := 0, locals := 41 }
abbrev rL_count_x : Room := { frames := 7, cells := 1, slots := 6, locals := 103 }
set_option maxHeartbeats 4000000 in
set_option maxRecDepth 100000 in
theorem l_count_k {post : Int32 → Prop} (l : Launch) (D : va_G) (a oa : Nat) (oc : ClassId) (tys0 : List (ClassId × FieldType)) (g : Nat → Int64) (W0 : va_W) (fs : List Value) (he : W0[0]? = some (a, .inr (0, fs))) (k1 : Int32) (hM : ZR l yX0_count cX0_count 2 rX_count D classes tys0 [.ref a, .int k1] W0 post) : ZL (S := Nat → Int64) l yL_count cL_count 4 [(0, 9, 12, 13)] rL_count D classes ((oc, .long) :: tys0) [.ref a, .int k1, .ref oa] ((oa, .inl (oc, 1, .inr (.inl g))) :: W0) (fun r u => r = 0 ∧ ∃ v, post v ∧ u 0 = v.toInt64) (fun u => (oa, .inl (oc, 1, .inr (.inl u))) :: W0) := by
  refine ZL.of (by decide +kernel) (Nat.le_of_ble_eq_true rfl) ?_
  intro p e s m args below meth c A Q ls C0 hK hP hD hS hA hl hret
  have hx := C0.1
  have hb := C0.2.1
  have hl : lv_has ls 4 [(0, .ref a), (1, .int k1), (2, .ref oa)] := hl
  have hK0 : va_K D classes tys0 s := ⟨hK.1, fun i q h => hK.2 (i + 1) q (by simpa using h)⟩
  refine lv_aload_n hx hb dL_count_0 rfl (lv_at hl 2 rfl) ?_
  refine lv_iconst (v := 0) hx hb dL_count_1 (by decide) ?_
  refine lv_aload_n hx hb dL_count_2 rfl (lv_at hl 0 rfl) ?_
  refine lv_iload_n hx hb dL_count_3 rfl (lv_at hl 1 rfl) ?_
  refine zr_callV (As := [.int k1]) (rest := [.int 0, .ref oa]) (q0 := 0) (ci := 0) (A := A) C0 hM zv_L_X0_count ⟨by decide, by decide⟩ ⟨rfl, rfl⟩ rfl hK0 (z_subP (w1 := [(oa, .inl (oc, 1, .inr (.inl g)))]) (w2 := []) (by rw [List.append_nil]; exact hP)) (z_subD (w1 := [(oa, .inl (oc, 1, .inr (.inl g)))]) (w2 := []) (by rw [List.append_nil]; exact hD)) rfl rfl he hl.1 rfl (Nat.le_of_ble_eq_true rfl) dL_count_4 ⟨Nat.zero_le _, Nat.zero_le _⟩ (fun r hw => ?_)
  refine lv_i2l (v := r.toInt64) hx hb dL_count_7 rfl ?_
  refine va_last hx hb hK hP hD hS 0 0 rfl rfl (vp_in_nI (n := 0) (N := 1) (by decide) (by decide)) dL_count_8 (fun H locs hP hD hS => ?_)
  have hP : va_P D classes ((oa, .inl (oc, 1, .inr (.inl (vp_updL g (0 : Int32).toNatClampNeg r.toInt64)))) :: W0) H := hP
  have hD : va_D A ((oa, .inl (oc, 1, .inr (.inl (vp_updL g (0 : Int32).toNatClampNeg r.toInt64)))) :: W0) := hD
  refine lv_goto (tgt := 15) hx hb dL_count_9 (by decide) ?_
  refine lv_iconst (v := 0) hx hb dL_count_15 (by decide) ?_
  exact hret _ (vp_updL g (0 : Int32).toNatClampNeg r.toInt64) _ _ _ _ hP hD hS ⟨rfl, r, hw, by show vp_updL g (0 : Int32).toNatClampNeg r.toInt64 0 = _; rw [sb_cl0]; exact pk_uLs⟩ dL_count_16
set_option maxHeartbeats 4000000 in
set_option maxRecDepth 100000 in
theorem l_count_x (l : Launch) (D : va_G) (a oa : Nat) (oc : ClassId) (tys0 : List (ClassId × FieldType)) (g : Nat → Int64) (W0 : va_W) (fs : List Value) (he : W0[0]? = some (a, .inr (0, fs))) (k1 : Int32) (hl9 : l.stackTraces = false) (hbad : k1 < 0 ∨ ¬ k1 < 4) : ZLx l yL_count cL_count 4 [(0, 9, 12, 13)] rL_count_x D classes ((oc, .long) :: tys0) [.ref a, .int k1, .ref oa] ((oa, .inl (oc, 1, .inr (.inl g))) :: W0) := by
  refine ZLx.of (by decide +kernel) (Nat.le_of_ble_eq_true rfl) ?_
  intro p e s m args below meth c Q ls C0 htab hK hP hD hxh hl hret
  have hx := C0.1
  have hb := C0.2.1
  have hl : lv_has ls 4 [(0, .ref a), (1, .int k1), (2, .ref oa)] := hl
  have hK0 : va_K D classes tys0 s := ⟨hK.1, fun i q h => hK.2 (i + 1) q (by simpa using h)⟩
  refine lv_aload_n hx hb dL_count_0 rfl (lv_at hl 2 rfl) ?_
  refine lv_iconst (v := 0) hx hb dL_count_1 (by decide) ?_
  refine lv_aload_n hx hb dL_count_2 rfl (lv_at hl 0 rfl) ?_
  refine lv_iload_n hx hb dL_count_3 rfl (lv_at hl 1 rfl) ?_
  refine zx_callV (As := [.int k1]) (rest := [.int 0, .ref oa]) (q0 := 0) (ci := 0) (⟨0, 9, 12, 13⟩ : ExceptionTableEntry) C0 (c_count_x l hl9 a k1 hbad) zv_L_X0_count ⟨by decide, by decide⟩ ⟨rfl, rfl⟩ rfl hK0 (z_subP (w1 := [(oa, .inl (oc, 1, .inr (.inl g)))]) (w2 := []) (by rw [List.append_nil]; exact hP)) hxh htab rfl (by decide) zk_l13 rfl rfl he hl.1 rfl (Nat.le_of_ble_eq_true rfl) dL_count_4 ⟨by decide, by decide⟩ (fun q9 H locs hS => ?_)
  refine lv_astore_n (lv' := [(3, .ref q9), (0, .ref a), (1, .int k1), (2, .ref oa)]) hx hb dL_count_12 rfl hl (by decide) rfl (fun ls hl => ?_)
  refine lv_iconst (v := 1) hx hb dL_count_13 (by decide) ?_
  exact hret _ _ _ _ hS dL_count_14
