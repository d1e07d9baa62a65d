/-! X0: ExternalSorter's cells; its two static methods as rows -/
abbrev classes : List vw_C := vwCl
def za (n : Nat) (f : Nat → Int32) (i : Int32) : Int32 := if i < 0 then 0 else if nI n ≤ i then 0 else f i.toNatClampNeg
def zp (n : Nat) (f : Nat → Int32) (i x : Int32) : Nat → Int32 := if i < 0 then f else if nI n ≤ i then f else upd f i.toNatClampNeg x
theorem za_at {n j : Nat} {f : Nat → Int32} (h : j < n) (hn : n < 2 ^ 31) : za n f (nI j) = f j := by
  unfold za
  rw [if_neg (nI_pos (by omega)), if_neg (nI_ge h hn), nI_clamp (by omega)]
theorem zp_at {n j : Nat} {f : Nat → Int32} {x : Int32} (h : j < n) (hn : n < 2 ^ 31) : zp n f (nI j) x = upd f j x := by
  unfold zp
  rw [if_neg (nI_pos (by omega)), if_neg (nI_ge h hn), nI_clamp (by omega)]
theorem zx_in {n : Nat} {i : Int32} (h : ¬ i < 0) (h2 : ¬ nI n ≤ i) (hn : n < 2 ^ 31) : vp_in i n := by
  obtain ⟨j, h3, h4, -⟩ := pk_mu h h2 hn
  rw [h4]
  exact vp_in_nI h3 hn
theorem upd_eq {f : Nat → Int32} {k : Nat} {x : Int32} : upd f k x k = x := pk_us
theorem upd_ne {f : Nat → Int32} {k j : Nat} {x : Int32} (h : j ≠ k) : upd f k x j = f j := pk_un h
abbrev rX_at : Room := { frames := 0, cells := 0, slots := 0, locals := 0 }
theorem z_split {ws : va_W} {q0 : Nat} {x : Nat × va_E} (h : ws[q0]? = some x) : ws = ws.take q0 ++ ([x] ++ ws.drop (q0 + 1)) ∧ ∀ x', ws.set q0 x' = ws.take q0 ++ ([x'] ++ ws.drop (q0 + 1)) := by
  induction ws generalizing q0 with
  | nil => simp at h
  | cons a l ih =>
    cases q0 with
    | zero =>
      simp at h
      subst h
      simp
    | succ k =>
      obtain ⟨h1, h2⟩ := ih (q0 := k) (by simpa using h)
      constructor
      · simp only [List.take_succ_cons, List.drop_succ_cons, List.cons_append]
        exact congrArg (a :: ·) h1
      · intro x'
        simp only [List.set_cons_succ, List.take_succ_cons, List.drop_succ_cons, List.cons_append]
        exact congrArg (a :: ·) (h2 x')
section ZB0
variable {p : Program} {l : Launch} {e : Env} {R : Room} {s : State} {m : MethodId} {args : Array Value} {below : List Frame} {meth : Method} {c : Code} {H : Heap} {locs : List Loc} {cells slots : Nat} {Q : State → Prop}
variable {cc : ByteArray} {pc : Nat} {ls : Array Slot} {rest : List Value} {D : va_G} {cl : List vw_C} {A : Nat → Prop} {a : Nat} {tys tys0 : List (ClassId × FieldType)} {W0 : va_W} {nL : Nat} {own : String}
variable {y : MethodName} {b : ByteArray} {k n idx : Nat} {rm : Room} {av : List Value}
theorem zv_callV0 {S : Type} {post : S → Prop} {Wf : S → va_W} {As : List Value} {st0 : List Value} {q0 ci : Nat} {fs : List Value} {q : vw_C} (C0 : CallFix p m c cc nL s args zt own) (hM : ZV l y b k rm D cl tys0 (.ref a :: As) W0 post Wf) (hv : zv own idx y b k none n) (hR : rm.frames + 1 ≤ R.frames ∧ 8 + (k + 11) + rm.locals ≤ R.locals) (h0 : rm.cells = 0 ∧ rm.slots = 0) (hn : As.length = n)
    (hK : va_K D cl tys0 s) (hP : va_P D cl W0 H) (hD : va_D A W0) (hS : va_S A s.heap H locs) (hA : ∀ q, s.heap.size ≤ q → A q) (hc : cl[ci]? = some q) (hq : q.1 = y.cls) (he : W0[q0]? = some (a, .inr (ci, fs))) (hsize : ls.size = nL) (hst : st0 = As.reverse ++ .ref a :: rest) (hW : (rest.map fun v => v.category).sum ≤ 8) (hdg : decode cc pc = .ok (.invokevirtual idx, 3)) (hcs : cells ≤ R.cells ∧ slots ≤ R.slots)
    (kk : ∀ (u : S) (H1 : Heap) (locs1 : List Loc), post u → va_P D cl (Wf u) H1 → va_D A (Wf u) → va_S A s.heap H1 locs1 → W p l e R s m args below meth c H1 locs1 cells slots Q (F0 m (pc + 3) ls rest)) : W p l e R s m args below meth c H locs cells slots Q (F0 m pc ls st0) :=
  zv_callV [] [] C0 hM hv hR h0 hn hK (by rw [List.nil_append, List.append_nil]; exact hP) (by rw [List.nil_append, List.append_nil]; exact hD) hS hA hc hq he hsize hst hW hdg hcs
    (fun u H1 locs1 hw hP1 hD1 hS1 => kk u H1 locs1 hw (by rw [List.nil_append, List.append_nil] at hP1; exact hP1) (by rw [List.nil_append, List.append_nil] at hD1; exact hD1) hS1)
theorem zi_callV0 {S : Type} {post : Int32 → S → Prop} {Wf : S → va_W} {As : List Value} {st0 : List Value} {q0 ci : Nat} {fs : List Value} {q : vw_C} (C0 : CallFix p m c cc nL s args zt own) (hM : ZI l y b k rm D cl tys0 (.ref a :: As) W0 post Wf) (hv : zv own idx y b k (some .int) n) (hR : rm.frames + 1 ≤ R.frames ∧ 8 + (k + 11) + rm.locals ≤ R.locals) (h0 : rm.cells = 0 ∧ rm.slots = 0) (hn : As.length = n)
    (hK : va_K D cl tys0 s) (hP : va_P D cl W0 H) (hD : va_D A W0) (hS : va_S A s.heap H locs) (hA : ∀ q, s.heap.size ≤ q → A q) (hc : cl[ci]? = some q) (hq : q.1 = y.cls) (he : W0[q0]? = some (a, .inr (ci, fs))) (hsize : ls.size = nL) (hst : st0 = As.reverse ++ .ref a :: rest) (hW : (rest.map fun v => v.category).sum ≤ 8) (hdg : decode cc pc = .ok (.invokevirtual idx, 3)) (hcs : cells ≤ R.cells ∧ slots ≤ R.slots)
    (kk : ∀ (r : Int32) (u : S) (H1 : Heap) (locs1 : List Loc), post r u → va_P D cl (Wf u) H1 → va_D A (Wf u) → va_S A s.heap H1 locs1 → W p l e R s m args below meth c H1 locs1 cells slots Q (F0 m (pc + 3) ls (.int r :: rest))) : W p l e R s m args below meth c H locs cells slots Q (F0 m pc ls st0) :=
  zi_callV [] [] C0 hM hv hR h0 hn hK (by rw [List.nil_append, List.append_nil]; exact hP) (by rw [List.nil_append, List.append_nil]; exact hD) hS hA hc hq he hsize hst hW hdg hcs
    (fun r u H1 locs1 hw hP1 hD1 hS1 => kk r u H1 locs1 hw (by rw [List.nil_append, List.append_nil] at hP1; exact hP1) (by rw [List.nil_append, List.append_nil] at hD1; exact hD1) hS1)
end ZB0
set_option maxHeartbeats 4000000 in
set_option maxRecDepth 100000 in
theorem c_at (l : Launch) (D : va_G) (a : Nat) (cA : ClassId) (n : Nat) (f : Nat → Int32) (i : Int32) (hn : n < 2 ^ 31) : ZR l yX0_at cX0_at 2 rX_at D classes [(cA, .int)] [.ref a, .int i] [(a, .inl (cA, n, .inl f))] (fun r => r = za n f i) := by
  refine ZR.of (by decide +kernel) (Nat.le_of_ble_eq_true rfl) ?_
  intro p e s m args below meth c Q ls C0 hK hP hD hl hret
  have hx := C0.1
  have hb := C0.2.1
  have hl : lv_has ls 2 [(0, .ref a), (1, .int i)] := hl
  refine lv_iload_n hx hb dX0_at_0 rfl (lv_at hl 1 rfl) ?_
  refine lv_if_lt (tgt := 16) hx hb dX0_at_1 (by decide) (fun c1 => ?_) (fun c1 => ?_)
  · refine lv_iconst (v := 0) hx hb dX0_at_16 (by decide) ?_
    exact hret _ _ _ (by unfold za; first | rw [if_pos c1] | rw [if_neg c1, if_pos c2] | rw [if_neg c1, if_neg c2]) dX0_at_17
  · refine lv_iload_n hx hb dX0_at_4 rfl (lv_at hl 1 rfl) ?_
    refine lv_aload_n hx hb dX0_at_5 rfl (lv_at hl 0 rfl) ?_
    refine va_alen (v := nI n) hx hb hK hP 0 0 rfl rfl rfl dX0_at_6 ?_
    refine lv_icmp_ge (tgt := 16) hx hb dX0_at_7 (by decide) (fun c2 => ?_) (fun c2 => ?_)
    · refine lv_iconst (v := 0) hx hb dX0_at_16 (by decide) ?_
      exact hret _ _ _ (by unfold za; first | rw [if_pos c1] | rw [if_neg c1, if_pos c2] | rw [if_neg c1, if_neg c2]) dX0_at_17
    · refine lv_aload_n hx hb dX0_at_10 rfl (lv_at hl 0 rfl) ?_
      refine lv_iload_n hx hb dX0_at_11 rfl (lv_at hl 1 rfl) ?_
      refine va_iald hx hb hK hP 0 0 rfl rfl (zx_in c1 c2 hn) dX0_at_12 ?_
      refine lv_goto (tgt := 17) hx hb dX0_at_13 (by decide) ?_
      exact hret _ _ _ (by unfold za; first | rw [if_pos c1] | rw [if_neg c1, if_pos c2] | rw [if_neg c1, if_neg c2]) dX0_at_17
abbrev rX_put : Room := { frames := 0, cells := 0, slots := 0, locals := 0 }
set_option maxHeartbeats 4000000 in
set_option maxRecDepth 100000 in
theorem c_put (l : Launch) (D : va_G) (a : Nat) (cA : ClassId) (n : Nat) (f : Nat → Int32) (i x : Int32) (hn : n < 2 ^ 31) : ZV (S := Unit) l yX0_put cX0_put 3 rX_put D classes [(cA, .int)] [.ref a, .int i, .int x] [(a, .inl (cA, n, .inl f))] (fun _ => True) (fun _ => [(a, .inl (cA, n, .inl (zp n f i x)))]) := by
  refine ZV.of (by decide +kernel) (Nat.le_of_ble_eq_true rfl) ?_
  intro p e s m args below meth c A Q ls C0 hname hK hP hD hS hA hl hret
  have hx := C0.1
  have hb := C0.2.1
  have hl : lv_has ls 3 [(0, .ref a), (1, .int i), (2, .int x)] := hl
  refine lv_iload_n hx hb dX0_put_0 rfl (lv_at hl 1 rfl) ?_
  refine lv_if_lt (tgt := 14) hx hb dX0_put_1 (by decide) (fun c1 => ?_) (fun c1 => ?_)
  · have ef : zp n f i x = f := by unfold zp; first | rw [if_pos c1] | rw [if_neg c1, if_pos c2] | rw [if_neg c1, if_neg c2]
    rw [show f = zp n f i x from ef.symm] at hP hD
    exact hret (()) _ _ _ _ hP hD hS (trivial) dX0_put_14
  · refine lv_iload_n hx hb dX0_put_4 rfl (lv_at hl 1 rfl) ?_
    refine lv_aload_n hx hb dX0_put_5 rfl (lv_at hl 0 rfl) ?_
    refine va_alen (v := nI n) hx hb hK hP 0 0 rfl rfl rfl dX0_put_6 ?_
    refine lv_icmp_ge (tgt := 14) hx hb dX0_put_7 (by decide) (fun c2 => ?_) (fun c2 => ?_)
    · have ef : zp n f i x = f := by unfold zp; first | rw [if_pos c1] | rw [if_neg c1, if_pos c2] | rw [if_neg c1, if_neg c2]
      rw [show f = zp n f i x from ef.symm] at hP hD
      exact hret (()) _ _ _ _ hP hD hS (trivial) dX0_put_14
    · refine lv_aload_n hx hb dX0_put_10 rfl (lv_at hl 0 rfl) ?_
      refine lv_iload_n hx hb dX0_put_11 rfl (lv_at hl 1 rfl) ?_
      refine lv_iload_n hx hb dX0_put_12 rfl (lv_at hl 2 rfl) ?_
      refine va_iast hx hb hK hP hD hS 0 0 rfl rfl (zx_in c1 c2 hn) dX0_put_13 (fun H locs hP hD hS => ?_)
      have hP : va_P D classes [(a, .inl (cA, n, .inl (upd f i.toNatClampNeg x)))] H := hP
      have hD : va_D A [(a, .inl (cA, n, .inl (upd f i.toNatClampNeg x)))] := hD
      have ef : zp n f i x = upd f i.toNatClampNeg x := by unfold zp; first | rw [if_pos c1] | rw [if_neg c1, if_pos c2] | rw [if_neg c1, if_neg c2]
      rw [← ef] at hP hD
      exact hret (()) _ _ _ _ hP hD hS (trivial) dX0_put_14
section ZX
variable {p : Program} {l : Launch} {e : Env} {R : Room} {s : State} {m : MethodId} {args : Array Value} {below : List Frame} {meth : Method} {c : Code} {H : Heap} {locs : List Loc} {cells slots : Nat} {Q : State → Prop}
variable {cc : ByteArray} {pc : Nat} {ls : Array Slot} {rest : List Value} {D : va_G} {A : Nat → Prop} {a : Nat} {tys : List (ClassId × FieldType)} {ws : va_W} {nL : Nat}
theorem zx_at {cA : ClassId} {n : Nat} {f : Nat → Int32} {i : Int32} (C0 : CallFix p m c cc nL s args zt RX0) (hn : n < 2 ^ 31) (hK : va_K D classes tys s) (hP : va_P D classes ws H) (hD : va_D A ws) (q0 t0 : Nat) (ha : ws[q0]? = some (a, .inl (cA, n, .inl f))) (ht : tys[t0]? = some (cA, .int)) (hsize : ls.size = nL) (hW : (rest.map fun v => v.category).sum ≤ 8) (hR : 1 ≤ R.frames ∧ 21 ≤ R.locals) (hcs : cells ≤ R.cells ∧ slots ≤ R.slots) (hdg : decode cc pc = .ok (.invokestatic 105, 3))
    (kk : W p l e R s m args below meth c H locs cells slots Q (F0 m (pc + 3) ls (.int (za n f i) :: rest))) : W p l e R s m args below meth c H locs cells slots Q (F0 m pc ls (.int i :: .ref a :: rest)) :=
  zr_callS (As := [.ref a, .int i]) (rest := rest) (W0 := [(a, .inl (cA, n, .inl f))]) (tys0 := [(cA, .int)]) (A := A) C0 (c_at l D a cA n f i hn) zs_X0_X0_at ⟨hR.1, hR.2⟩ ⟨rfl, rfl⟩ rfl (hK.sub [t0] (by simp [ht])) (hP.sub [q0] (by simp [ha])) (hD.sub [q0] rfl (by simp [ha])) hsize rfl hW hdg hcs (fun r er => by subst er; exact kk)
theorem zx_put {cA : ClassId} {n : Nat} {f : Nat → Int32} {i x : Int32} (C0 : CallFix p m c cc nL s args zt RX0) (hn : n < 2 ^ 31) (hK : va_K D classes tys s) (hP : va_P D classes ws H) (hD : va_D A ws) (hS : va_S A s.heap H locs) (hA : ∀ q, s.heap.size ≤ q → A q) (q0 t0 : Nat) (ha : ws[q0]? = some (a, .inl (cA, n, .inl f))) (ht : tys[t0]? = some (cA, .int)) (hsize : ls.size = nL) (hW : (rest.map fun v => v.category).sum ≤ 8) (hR : 1 ≤ R.frames ∧ 22 ≤ R.locals) (hcs : cells ≤ R.cells ∧ slots ≤ R.slots) (hdg : decode cc pc = .ok (.invokestatic 113, 3))
    (kk : ∀ (H1 : Heap) (locs1 : List Loc), va_P D classes (ws.set q0 (a, .inl (cA, n, .inl (zp n f i x)))) H1 → va_D A (ws.set q0 (a, .inl (cA, n, .inl (zp n f i x)))) → va_S A s.heap H1 locs1 → W p l e R s m args below meth c H1 locs1 cells slots Q (F0 m (pc + 3) ls rest)) : W p l e R s m args below meth c H locs cells slots Q (F0 m pc ls (.int x :: .int i :: .ref a :: rest)) := by
  obtain ⟨h1, h2⟩ := z_split ha
  rw [h1] at hP hD
  rw [h2] at kk
  exact zv_callS (As := [.ref a, .int i, .int x]) (rest := rest) (W0 := [(a, .inl (cA, n, .inl f))]) (tys0 := [(cA, .int)]) (A := A) (ws.take q0) (ws.drop (q0 + 1)) C0 (c_put l D a cA n f i x hn) zs_X0_X0_put ⟨hR.1, hR.2⟩ ⟨rfl, rfl⟩ rfl (hK.sub [t0] (by simp [ht])) hP hD hS hA hsize rfl hW hdg hcs (fun u H1 locs1 _ hP1 hD1 hS1 => kk H1 locs1 hP1 hD1 hS1)
end ZX
abbrev xw (ad : Nat → Nat) (cs : Nat → ClassId) (w n nr : Nat) (K V O M RL G : Nat → Int32) (fed sp se co op ck cv : Int32) : va_W := [(ad 0, .inr (0, [.int (nI w), .int (nI n), .ref (ad 1), .ref (ad 2), .ref (ad 3), .ref (ad 4), .ref (ad 5), .int fed, .int sp, .int se, .int co, .int op, .int ck, .int cv, .ref (ad 6)])), (ad 1, .inl (cs 1, n, .inl K)), (ad 2, .inl (cs 2, n, .inl V)), (ad 3, .inl (cs 3, n, .inl O)), (ad 4, .inl (cs 4, n, .inl M)), (ad 5, .inl (cs 5, nr, .inl RL)), (ad 6, .inl (cs 6, 4, .inl G))]
abbrev xt (cs : Nat → ClassId) : List (ClassId × FieldType) := [(cs 1, .int), (cs 2, .int), (cs 3, .int), (cs 4, .int), (cs 5, .int), (cs 6, .int)]
abbrev rX_keyOfRow : Room := { frames := 1, cells := 0, slots := 0, locals := 21 }
set_option maxHeartbeats 4000000 in
set_option maxRecDepth 100000 in
theorem c_keyOfRow (l : Launch) (D : va_G) (ad : Nat → Nat) (cs : Nat → ClassId) (w n nr : Nat) (hn : n < 2 ^ 31) (hnr : nr < 2 ^ 31) (K V O M RL G : Nat → Int32) (fed sp se co op ck cv : Int32) (row : Int32)  : ZR l yX0_keyOfRow cX0_keyOfRow 2 rX_keyOfRow D classes (xt cs) [.ref (ad 0), .int row] (xw ad cs w n nr K V O M RL G fed sp se co op ck cv) (fun r => r = za n K (za n O row)) := by
  refine ZR.of (by decide +kernel) (Nat.le_of_ble_eq_true rfl) ?_
  intro p e s m args below meth c Q ls C0 hK hP hD hl hret
  have hx := C0.1
  have hb := C0.2.1
  have hl : lv_has ls 2 [(0, .ref (ad 0)), (1, .int row)] := hl
  refine lv_aload_n hx hb dX0_keyOfRow_0 rfl (lv_at hl 0 rfl) ?_
  refine z_get C0 zt_x0 hK hP 0 rfl rfl 2 (by decide) fl_X0_25 rfl dX0_keyOfRow_1 ?_
  refine lv_aload_n hx hb dX0_keyOfRow_4 rfl (lv_at hl 0 rfl) ?_
  refine z_get C0 zt_x0 hK hP 0 rfl rfl 4 (by decide) fl_X0_32 rfl dX0_keyOfRow_5 ?_
  refine lv_iload_n hx hb dX0_keyOfRow_8 rfl (lv_at hl 1 rfl) ?_
  refine zx_at C0 hn hK hP hD 3 2 rfl rfl hl.1 (Nat.le_of_ble_eq_true rfl) ⟨by decide, by decide⟩ ⟨Nat.zero_le _, Nat.zero_le _⟩ dX0_keyOfRow_9 ?_
  refine zx_at C0 hn hK hP hD 1 0 rfl rfl hl.1 (Nat.le_of_ble_eq_true rfl) ⟨by decide, by decide⟩ ⟨Nat.zero_le _, Nat.zero_le _⟩ dX0_keyOfRow_12 ?_
  exact hret _ _ _ (rfl) dX0_keyOfRow_15
abbrev rX_valueOfRow : Room := { frames := 1, cells := 0, slots := 0, locals := 21 }
set_option maxHeartbeats 4000000 in
set_option maxRecDepth 100000 in
theorem c_valueOfRow (l : Launch) (D : va_G) (ad : Nat → Nat) (cs : Nat → ClassId) (w n nr : Nat) (hn : n < 2 ^ 31) (hnr : nr < 2 ^ 31) (K V O M RL G : Nat → Int32) (fed sp se co op ck cv : Int32) (row : Int32)  : ZR l yX0_valueOfRow cX0_valueOfRow 2 rX_valueOfRow D classes (xt cs) [.ref (ad 0), .int row] (xw ad cs w n nr K V O M RL G fed sp se co op ck cv) (fun r => r = za n V (za n O row)) := by
  refine ZR.of (by decide +kernel) (Nat.le_of_ble_eq_true rfl) ?_
  intro p e s m args below meth c Q ls C0 hK hP hD hl hret
  have hx := C0.1
  have hb := C0.2.1
  have hl : lv_has ls 2 [(0, .ref (ad 0)), (1, .int row)] := hl
  refine lv_aload_n hx hb dX0_valueOfRow_0 rfl (lv_at hl 0 rfl) ?_
  refine z_get C0 zt_x0 hK hP 0 rfl rfl 3 (by decide) fl_X0_29 rfl dX0_valueOfRow_1 ?_
  refine lv_aload_n hx hb dX0_valueOfRow_4 rfl (lv_at hl 0 rfl) ?_
  refine z_get C0 zt_x0 hK hP 0 rfl rfl 4 (by decide) fl_X0_32 rfl dX0_valueOfRow_5 ?_
  refine lv_iload_n hx hb dX0_valueOfRow_8 rfl (lv_at hl 1 rfl) ?_
  refine zx_at C0 hn hK hP hD 3 2 rfl rfl hl.1 (Nat.le_of_ble_eq_true rfl) ⟨by decide, by decide⟩ ⟨Nat.zero_le _, Nat.zero_le _⟩ dX0_valueOfRow_9 ?_
  refine zx_at C0 hn hK hP hD 2 1 rfl rfl hl.1 (Nat.le_of_ble_eq_true rfl) ⟨by decide, by decide⟩ ⟨Nat.zero_le _, Nat.zero_le _⟩ dX0_valueOfRow_12 ?_
  exact hret _ _ _ (rfl) dX0_valueOfRow_15
abbrev rX_spilledPairs : Room := { frames := 0, cells := 0, slots := 0, locals := 0 }
set_option maxHeartbeats 4000000 in
set_option maxRecDepth 100000 in
theorem c_spilledPairs (l : Launch) (D : va_G) (ad : Nat → Nat) (cs : Nat → ClassId) (w n nr : Nat) (hn : n < 2 ^ 31) (hnr : nr < 2 ^ 31) (K V O M RL G : Nat → Int32) (fed sp se co op ck cv : Int32)   : ZR l yX0_spilledPairs cX0_spilledPairs 1 rX_spilledPairs D classes (xt cs) [.ref (ad 0)] (xw ad cs w n nr K V O M RL G fed sp se co op ck cv) (fun r => r = sp * nI w) := by
  refine ZR.of (by decide +kernel) (Nat.le_of_ble_eq_true rfl) ?_
  intro p e s m args below meth c Q ls C0 hK hP hD hl hret
  have hx := C0.1
  have hb := C0.2.1
  have hl : lv_has ls 1 [(0, .ref (ad 0))] := hl
  refine lv_aload_n hx hb dX0_spilledPairs_0 rfl (lv_at hl 0 rfl) ?_
  refine z_get C0 zt_x0 hK hP 0 rfl rfl 8 (by decide) fl_X0_47 rfl dX0_spilledPairs_1 ?_
  refine lv_aload_n hx hb dX0_spilledPairs_4 rfl (lv_at hl 0 rfl) ?_
  refine z_get C0 zt_x0 hK hP 0 rfl rfl 0 (by decide) fl_X0_18 rfl dX0_spilledPairs_5 ?_
  refine lv_imul hx hb dX0_spilledPairs_8 ?_
  exact hret _ _ _ (rfl) dX0_spilledPairs_9
abbrev rX_key : Room := { frames := 0, cells := 0, slots := 0, locals := 0 }
set_option maxHeartbeats 4000000 in
set_option maxRecDepth 100000 in
theorem c_key (l : Launch) (D : va_G) (ad : Nat → Nat) (cs : Nat → ClassId) (w n nr : Nat) (hn : n < 2 ^ 31) (hnr : nr < 2 ^ 31) (K V O M RL G : Nat → Int32) (fed sp se co op ck cv : Int32)   : ZR l yX0_key cX0_key 1 rX_key D classes (xt cs) [.ref (ad 0)] (xw ad cs w n nr K V O M RL G fed sp se co op ck cv) (fun r => r = ck) := by
  refine ZR.of (by decide +kernel) (Nat.le_of_ble_eq_true rfl) ?_
  intro p e s m args below meth c Q ls C0 hK hP hD hl hret
  have hx := C0.1
  have hb := C0.2.1
  have hl : lv_has ls 1 [(0, .ref (ad 0))] := hl
  refine lv_aload_n hx hb dX0_key_0 rfl (lv_at hl 0 rfl) ?_
  refine z_get C0 zt_x0 hK hP 0 rfl rfl 12 (by decide) fl_X0_87 rfl dX0_key_1 ?_
  exact hret _ _ _ (rfl) dX0_key_4
abbrev rX_value : Room := { frames := 0, cells := 0, slots := 0, locals := 0 }
set_option maxHeartbeats 4000000 in
set_option maxRecDepth 100000 in
theorem c_value (l : Launch) (D : va_G) (ad : Nat → Nat) (cs : Nat → ClassId) (w n nr : Nat) (hn : n < 2 ^ 31) (hnr : nr < 2 ^ 31) (K V O M RL G : Nat → Int32) (fed sp se co op ck cv : Int32)   : ZR l yX0_value cX0_value 1 rX_value D classes (xt cs) [.ref (ad 0)] (xw ad cs w n nr K V O M RL G fed sp se co op ck cv) (fun r => r = cv) := by
  refine ZR.of (by decide +kernel) (Nat.le_of_ble_eq_true rfl) ?_
  intro p e s m args below meth c Q ls C0 hK hP hD hl hret
  have hx := C0.1
  have hb := C0.2.1
  have hl : lv_has ls 1 [(0, .ref (ad 0))] := hl
  refine lv_aload_n hx hb dX0_value_0 rfl (lv_at hl 0 rfl) ?_
  refine z_get C0 zt_x0 hK hP 0 rfl rfl 13 (by decide) fl_X0_93 rfl dX0_value_1 ?_
  exact hret _ _ _ (rfl) dX0_value_4
abbrev rX_clearCurrent : Room := { frames := 1, cells := 0, slots := 0, locals := 22 }
set_option maxHeartbeats 4000000 in
set_option maxRecDepth 100000 in
theorem c_clearCurrent (l : Launch) (D : va_G) (ad : Nat → Nat) (cs : Nat → ClassId) (w n nr : Nat) (hn : n < 2 ^ 31) (hnr : nr < 2 ^ 31) (K V O M RL G : Nat → Int32) (fed sp se co op ck cv : Int32)   : ZV (S := (Nat → Int32)) l yX0_clearCurrent cX0_clearCurrent 2 rX_clearCurrent D classes (xt cs) [.ref (ad 0)] (xw ad cs w n nr K V O M RL G fed sp se co op ck cv) (fun G1 => ∀ j, j < 4 → G1 j = 0) (fun G1 => xw ad cs w n nr K V O M RL G1 fed sp se co op 0 0) := by
  refine ZV.of (by decide +kernel) (Nat.le_of_ble_eq_true rfl) ?_
  intro p e s m args below meth c A Q ls C0 hname hK hP hD hS hA hl hret
  have hx := C0.1
  have hb := C0.2.1
  have hl : lv_has ls 2 [(0, .ref (ad 0))] := hl
  refine lv_aload_n hx hb dX0_clearCurrent_0 rfl (lv_at hl 0 rfl) ?_
  refine lv_iconst (v := 0) hx hb dX0_clearCurrent_1 (by decide) ?_
  refine z_put (ty := .int) C0 zt_x0 tyX0 tyX0_ok nmX0 hK hP hD hS 0 rfl rfl 12 (by decide) fl_X0_87 rfl (by decide +kernel) rfl rfl (Nat.le_of_ble_eq_true rfl) dX0_clearCurrent_2 (fun H locs hP hD hS => ?_)
  have hP : va_P D classes (xw ad cs w n nr K V O M RL G fed sp se co op 0 cv) H := hP
  have hD : va_D A (xw ad cs w n nr K V O M RL G fed sp se co op 0 cv) := hD
  refine lv_aload_n hx hb dX0_clearCurrent_5 rfl (lv_at hl 0 rfl) ?_
  refine lv_iconst (v := 0) hx hb dX0_clearCurrent_6 (by decide) ?_
  refine z_put (ty := .int) C0 zt_x0 tyX0 tyX0_ok nmX0 hK hP hD hS 0 rfl rfl 13 (by decide) fl_X0_93 rfl (by decide +kernel) rfl rfl (Nat.le_of_ble_eq_true rfl) dX0_clearCurrent_7 (fun H locs hP hD hS => ?_)
  have hP : va_P D classes (xw ad cs w n nr K V O M RL G fed sp se co op 0 0) H := hP
  have hD : va_D A (xw ad cs w n nr K V O M RL G fed sp se co op 0 0) := hD
  refine lv_iconst (v := 0) hx hb dX0_clearCurrent_10 (by decide) ?_
  refine lv_istore_n (lv' := [(1, .int 0), (0, .ref (ad 0))]) hx hb dX0_clearCurrent_11 rfl hl (by decide) rfl (fun ls hl => ?_)
  have loop : ∀ (NN : Nat) (i : Nat) (G1 : Nat → Int32) (H : Heap) (locs : List Loc) (ls : Array Slot), (i ≤ 4 ∧ ∀ j, j < i → G1 j = 0) → 4 - i < NN → va_P D classes (xw ad cs w n nr K V O M RL G1 fed sp se co op 0 0) H → va_D A (xw ad cs w n nr K V O M RL G1 fed sp se co op 0 0) → va_S A s.heap H locs → lv_has ls 2 [(1, .int (nI i)), (0, .ref (ad 0))] → W p l e rX_clearCurrent s m args below meth c H locs 0 0 Q (F0 m 12 ls []) := by
    intro N12
    induction N12 with
    | zero => intro i G1 H locs ls hI hN; exact absurd hN (Nat.not_lt_zero _)
    | succ N12 ih12 =>
      intro i G1 H locs ls hI hN12 hP hD hS hl
      refine lv_iload_n hx hb dX0_clearCurrent_12 rfl (lv_at hl 0 rfl) ?_
      refine lv_iconst (v := 4) hx hb dX0_clearCurrent_13 (by decide) ?_
      refine lv_icmp_ge (tgt := 32) hx hb dX0_clearCurrent_14 (by decide) (fun c1 => ?_) (fun c1 => ?_)
      · have e4 : i = 4 := by
          rcases Nat.lt_or_ge i 4 with q | q
          · exact absurd c1 (nI_ge q (by decide))
          · omega
        subst e4
        exact hret (G1) _ _ _ _ hP hD hS (hI.2) dX0_clearCurrent_32
      · have hi : i < 4 := by
          rcases Nat.lt_or_ge i 4 with q | q
          · exact q
          · exact absurd (nI_le q (by omega)) c1
        refine lv_aload_n hx hb dX0_clearCurrent_17 rfl (lv_at hl 1 rfl) ?_
        refine z_get C0 zt_x0 hK hP 0 rfl rfl 14 (by decide) fl_X0_41 rfl dX0_clearCurrent_18 ?_
        refine lv_iload_n hx hb dX0_clearCurrent_21 rfl (lv_at hl 0 rfl) ?_
        refine lv_iconst (v := 0) hx hb dX0_clearCurrent_22 (by decide) ?_
        refine zx_put C0 (by decide) hK hP hD hS hA 6 5 rfl rfl hl.1 (Nat.le_of_ble_eq_true rfl) ⟨by decide, by decide⟩ ⟨Nat.zero_le _, Nat.zero_le _⟩ dX0_clearCurrent_23 (fun H locs hP hD hS => ?_)
        have hP : va_P D classes (xw ad cs w n nr K V O M RL (zp 4 G1 (nI i) 0) fed sp se co op 0 0) H := hP
        have hD : va_D A (xw ad cs w n nr K V O M RL (zp 4 G1 (nI i) 0) fed sp se co op 0 0) := hD
        rw [show (zp 4 G1 (nI i) 0) = upd G1 i 0 from zp_at hi (by decide)] at hP hD
        have hP : va_P D classes (xw ad cs w n nr K V O M RL (upd G1 i 0) fed sp se co op 0 0) H := hP
        have hD : va_D A (xw ad cs w n nr K V O M RL (upd G1 i 0) fed sp se co op 0 0) := hD
        refine lv_iinc (v := nI (i + 1)) (lv' := [(1, .int (nI (i + 1))), (0, .ref (ad 0))]) hx hb dX0_clearCurrent_26 hl (k := 0) rfl (show (nI i) + Int32.ofInt (1) = nI (i + 1) from (congrArg ((nI i) + ·) (by decide : Int32.ofInt (1) = 1)).trans (nI_1 i)) (by decide) rfl (fun ls hl => ?_)
        refine lv_goto (tgt := 12) hx hb dX0_clearCurrent_29 (by decide) ?_
        exact ih12 (i + 1) (upd G1 i 0) _ _ _ (⟨hi, fun j hj => by rcases Nat.lt_or_ge j i with q | q; (rw [upd_ne (by omega)]; exact hI.2 j q); (rw [show j = i by omega]; exact upd_eq)⟩) (by omega) hP hD hS (lv_sub hl [0, 1] rfl)
  exact loop _ 0 G _ _ _ (⟨by decide, fun j hj => absurd hj (Nat.not_lt_zero j)⟩) (Nat.lt_succ_self _) hP hD hS (lv_sub hl [0, 1] (rfl))
abbrev rX_reset : Room := { frames := 2, cells := 0, slots := 0, locals := 43 }
set_option maxHeartbeats 4000000 in
set_option maxRecDepth 100000 in
theorem c_reset (l : Launch) (D : va_G) (ad : Nat → Nat) (cs : Nat → ClassId) (w n nr : Nat) (hn : n < 2 ^ 31) (hnr : nr < 2 ^ 31) (K V O M RL G : Nat → Int32) (fed sp se co op ck cv : Int32)   : ZV (S := (Nat → Int32)) l yX0_reset cX0_reset 1 rX_reset D classes (xt cs) [.ref (ad 0)] (xw ad cs w n nr K V O M RL G fed sp se co op ck cv) (fun G1 => ∀ j, j < 4 → G1 j = 0) (fun G1 => xw ad cs w n nr K V O M RL G1 0 0 0 0 0 0 0) := by
  refine ZV.of (by decide +kernel) (Nat.le_of_ble_eq_true rfl) ?_
  intro p e s m args below meth c A Q ls C0 hname hK hP hD hS hA hl hret
  have hx := C0.1
  have hb := C0.2.1
  have hl : lv_has ls 1 [(0, .ref (ad 0))] := hl
  refine lv_aload_n hx hb dX0_reset_0 rfl (lv_at hl 0 rfl) ?_
  refine lv_iconst (v := 0) hx hb dX0_reset_1 (by decide) ?_
  refine z_put (ty := .int) C0 zt_x0 tyX0 tyX0_ok nmX0 hK hP hD hS 0 rfl rfl 7 (by decide) fl_X0_44 rfl (by decide +kernel) rfl rfl (Nat.le_of_ble_eq_true rfl) dX0_reset_2 (fun H locs hP hD hS => ?_)
  have hP : va_P D classes (xw ad cs w n nr K V O M RL G 0 sp se co op ck cv) H := hP
  have hD : va_D A (xw ad cs w n nr K V O M RL G 0 sp se co op ck cv) := hD
  refine lv_aload_n hx hb dX0_reset_5 rfl (lv_at hl 0 rfl) ?_
  refine lv_iconst (v := 0) hx hb dX0_reset_6 (by decide) ?_
  refine z_put (ty := .int) C0 zt_x0 tyX0 tyX0_ok nmX0 hK hP hD hS 0 rfl rfl 8 (by decide) fl_X0_47 rfl (by decide +kernel) rfl rfl (Nat.le_of_ble_eq_true rfl) dX0_reset_7 (fun H locs hP hD hS => ?_)
  have hP : va_P D classes (xw ad cs w n nr K V O M RL G 0 0 se co op ck cv) H := hP
  have hD : va_D A (xw ad cs w n nr K V O M RL G 0 0 se co op ck cv) := hD
  refine lv_aload_n hx hb dX0_reset_10 rfl (lv_at hl 0 rfl) ?_
  refine lv_iconst (v := 0) hx hb dX0_reset_11 (by decide) ?_
  refine z_put (ty := .boolean) C0 zt_x0 tyX0 tyX0_ok nmX0 hK hP hD hS 0 rfl rfl 9 (by decide) fl_X0_50 rfl (by decide +kernel) rfl rfl (Nat.le_of_ble_eq_true rfl) dX0_reset_12 (fun H locs hP hD hS => ?_)
  have hP : va_P D classes (xw ad cs w n nr K V O M RL G 0 0 0 co op ck cv) H := hP
  have hD : va_D A (xw ad cs w n nr K V O M RL G 0 0 0 co op ck cv) := hD
  refine lv_aload_n hx hb dX0_reset_15 rfl (lv_at hl 0 rfl) ?_
  refine lv_iconst (v := 0) hx hb dX0_reset_16 (by decide) ?_
  refine z_put (ty := .int) C0 zt_x0 tyX0 tyX0_ok nmX0 hK hP hD hS 0 rfl rfl 10 (by decide) fl_X0_54 rfl (by decide +kernel) rfl rfl (Nat.le_of_ble_eq_true rfl) dX0_reset_17 (fun H locs hP hD hS => ?_)
  have hP : va_P D classes (xw ad cs w n nr K V O M RL G 0 0 0 0 op ck cv) H := hP
  have hD : va_D A (xw ad cs w n nr K V O M RL G 0 0 0 0 op ck cv) := hD
  refine lv_aload_n hx hb dX0_reset_20 rfl (lv_at hl 0 rfl) ?_
  refine lv_iconst (v := 0) hx hb dX0_reset_21 (by decide) ?_
  refine z_put (ty := .int) C0 zt_x0 tyX0 tyX0_ok nmX0 hK hP hD hS 0 rfl rfl 11 (by decide) fl_X0_57 rfl (by decide +kernel) rfl rfl (Nat.le_of_ble_eq_true rfl) dX0_reset_22 (fun H locs hP hD hS => ?_)
  have hP : va_P D classes (xw ad cs w n nr K V O M RL G 0 0 0 0 0 ck cv) H := hP
  have hD : va_D A (xw ad cs w n nr K V O M RL G 0 0 0 0 0 ck cv) := hD
  refine lv_aload_n hx hb dX0_reset_25 rfl (lv_at hl 0 rfl) ?_
  refine zv_callV0 (As := []) (rest := []) (q0 := 0) (ci := 0) C0 (c_clearCurrent l D ad cs w n nr hn hnr K V O M RL G 0 0 0 0 0 ck cv) zv_X0_X0_clearCurrent ⟨by decide, by decide⟩ ⟨rfl, rfl⟩ rfl hK hP hD hS hA rfl rfl rfl hl.1 rfl (Nat.le_of_ble_eq_true rfl) dX0_reset_26 ⟨Nat.zero_le _, Nat.zero_le _⟩ (fun G1 H locs h1 hP hD hS => ?_)
  have hP : va_P D classes (xw ad cs w n nr K V O M RL G1 0 0 0 0 0 0 0) H := hP
  have hD : va_D A (xw ad cs w n nr K V O M RL G1 0 0 0 0 0 0 0) := hD
  exact hret (G1) _ _ _ _ hP hD hS (h1) dX0_reset_29
