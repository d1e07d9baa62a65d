/-! THROWING: what a throw wants of the start; contracts of calls that throw -/
abbrev IAE : String := "java/lang/IllegalArgumentException"
abbrev iaeN : List String := ["java/lang/RuntimeException", "java/lang/Exception"]
abbrev iaeB : List Cond := [.castable IAE IAE, .declares ⟨"java/lang/RuntimeException", "<init>", "(Ljava/lang/String;)V"⟩, .declares ⟨"java/lang/Exception", "<init>", "(Ljava/lang/String;)V"⟩, .declares ⟨"java/lang/Throwable", "<init>", "(Ljava/lang/String;)V"⟩]
theorem xt_rest : ∀ w ∈ (vx_atS RX0 71 IAE iaeN).filter (fun w => !goodWord w), w ∈ iaeB := by decide +kernel
theorem xt_ot : ∀ w ∈ Cond.classLink RX0 67 IAE :: Cond.initialized IAE :: vx_atS RX0 71 IAE iaeN, vx_ot w = true := by decide +kernel
theorem xt_in : ∀ w ∈ (vx_atS RX0 71 IAE iaeN).filter goodWord, w ∈ zt := fun w h => zt_of (List.mem_append_right _ h) (List.mem_filter.mp h).2
theorem xt_face : ∀ w ∈ iaeB, w.faceAtom = true ∧ w.onTables = true := by decide +kernel
theorem xc_moved {s U : State} {args args' : Array Value} (hal : s.vm.Alike U.vm) (h : ∀ w ∈ iaeB, w.before args s = true) : ∀ w ∈ iaeB, w.before args' U = true := fun w hw =>
  va_tabs (u := s.setVm U.vm) (A := args) (xt_face w hw).2 rfl (Cond.faceAtom_setVm hal w (xt_face w hw).1 (h w hw))
/-- what a throw wants: two statics of Throwable that lie below sz, a word, the texts -/
def xh (sz : Nat) (U : State) : Prop := vx_Zq Bundle.tN "UNASSIGNED_STACK" Bundle.steD (fun q => sz ≤ q) U U.heap ∧ vx_Zq Bundle.tN "SUPPRESSED_SENTINEL" Bundle.listD (fun q => sz ≤ q) U U.heap ∧ (∀ w ∈ iaeB, w.before #[] U = true) ∧ (∃ sa, vk_R RX0 69 "n is not in 0 .. 200" sa U) ∧ ∃ sa, vk_R RX0 103 "what is not in 0 .. 3" sa U
theorem xh_at {s U : State} {H : Heap} (h : xh s.heap.size s) (hW : s.WarmedH U.vm) (hU : U.heap = H) (hz : s.heap.size ≤ H.size) (hk : ∀ q, q < s.heap.size → H[q]? = s.heap[q]?) : xh H.size U := by
  obtain ⟨h1, h2, h3, ⟨sa, h4⟩, sb, h5⟩ := h
  have mv : ∀ {C n d : String}, vx_Zq C n d (fun q => s.heap.size ≤ q) s s.heap → vx_Zq C n d (fun q => H.size ≤ q) U U.heap := fun h => by
    rw [hU]
    exact ((h.kept (H1 := H) (fun a ha _ => hk a ha)).moved hW.alike).narrow (fun q hq => Nat.le_trans hz hq)
  exact ⟨mv h1, mv h2, xc_moved hW.alike h3, ⟨sa, vk_R.warm hW h4⟩, sb, vk_R.warm hW h5⟩
theorem xh_blind {sz : Nat} {U : State} {g : JFrame} {mk : MethodId} {a : Array Value} (h : xh sz U) : xh sz (U.calling g mk a) := by
  obtain ⟨h1, h2, h3, ⟨sa, h4⟩, sb, h5⟩ := h
  exact ⟨h1.moved (U := U.calling g mk a) (Vm.Alike.refl U.vm), h2.moved (U := U.calling g mk a) (Vm.Alike.refl U.vm), xc_moved (U := U.calling g mk a) (Vm.Alike.refl U.vm) h3, ⟨sa, vk_R.same (u := U) rfl h4⟩, sb, vk_R.same (u := U) rfl h5⟩
/-- a call that throws an IllegalArgumentException; nothing that was there is written -/
def ZX (l : Launch) (y : MethodName) (b : ByteArray) (k : Nat) (rm : Room) (av : List Value) : Prop :=
  ∀ sz : Nat, vx_Met l y (Cond.code y b k (some .int) :: zt) rm (va_Pc av (fun U => U.heap.size = sz ∧ xh sz U)) (va_Qi (S := Unit) (fun _ _ => False) (fun _ _ => True) (fun _ => False)) (vx_X (fun _ : Unit => True) (fun E _ _ => E = IAE) (fun q => sz ≤ q)) 1 6 (fun q => sz ≤ q)
theorem ZX.of {l : Launch} {y : MethodName} {b : ByteArray} {k : Nat} {rm : Room} {av : List Value} (hy : plainName y.cls = true) (hcl : y.cls = RX0) (hlen : (lg_sl av).length ≤ k) (hl : l.stackTraces = false) (hrm : 5 < rm.frames ∧ 82 ≤ rm.locals ∧ 1 ≤ rm.cells ∧ 6 ≤ rm.slots)
    (hk : Cond.classLink RX0 67 IAE ∈ zt) (hi : Cond.initialized IAE ∈ zt)
    (body : ∀ (p : Program) (e : Env) (s : State) (m : MethodId) (args : Array Value) (below : List Frame) (meth : Method) (c : Code) (Q : State → Prop) (ls : Array Slot), CallFix p m c b k s args zt RX0 → lv_has ls k (lv_args 0 av) → xh s.heap.size s →
      (∀ (is : Nat) (text : String) (sa pc : Nat) (ls : Array Slot), vk_R RX0 is text sa s → ls.size = k → decode b pc = .ok (.new 67, 3) → decode b (pc + 3) = .ok (.dup, 1) → decode b (pc + 4) = .ok (.ldc is, 2) → decode b (pc + 6) = .ok (.invokespecial 71, 3) → decode b (pc + 9) = .ok (.athrow, 1) →
        W p l e rm s m args below meth c s.heap [] 0 0 Q (F0 m pc ls [])) →
      W p l e rm s m args below meth c s.heap [] 0 0 Q (F0 m 0 ls [])) : ZX l y b k rm av := by
  intro sz
  refine vx_ofW (cc := b) (maxL := k) (ret := some .int) hy rfl ?_
  intro p e s m args below meth c s₁ B hml hno hv
  obtain ⟨rfl, hsz, hh⟩ := hv
  have hts := atoms_spec (ws := Cond.code y b k (some .int) :: zt) B.pre
  have hts : ∀ w ∈ zt, w.before av.toArray s = true := fun w hw => hts w (List.mem_cons_of_mem _ hw)
  subst hsz
  have hown : s.vm.findClass RX0 = some m.cls := by rw [← hcl]; exact findClass_of_methodNamed B.named
  rw [lg_entry_eq]
  refine body p e s m _ below meth c _ _ ⟨B.exec, B.bytes, hml, hown, hts⟩ (lv_entry av hlen) hh ?_
  intro is text sa pc ls hstr hsize d0 d3 d4 d6 d9
  refine vx_throwS (names := iaeN) (A := fun q => s.heap.size ≤ q) B.exec B.bytes hl hown (by decide +kernel) (by decide +kernel) (hts _ hk) (hts _ hi) hstr (vx_hat (fun w h => hts w (xt_in w h)) xt_rest (xc_moved (Vm.Alike.refl s.vm) hh.2.2.1)) xt_ot hh.1 hh.2.1 va_S.rf (hsize.trans hml.symm) d0 d3 d4 d6 d9 (fun x hx => (hno x hx).elim) hrm.1 (by simpa using hrm.2.1) (by have := hrm.2.2.1; simpa using this) (by have := hrm.2.2.2; simpa using this) B.notSynchronized
    (fun t _ hz hk => ⟨(), trivial, rfl, hz, fun q h1 _ => hk q h1⟩) (fun z hz => absurd hz List.not_mem_nil) (by omega) (by omega)
set_option maxRecDepth 20000 in
theorem zk_67 : Cond.classLink RX0 67 IAE ∈ zt := zt_of (List.mem_append_left _ (by decide +kernel)) (by decide +kernel)
set_option maxRecDepth 20000 in
theorem zk_ia : Cond.initialized IAE ∈ zt := zt_of (List.mem_append_left _ (by decide +kernel)) (by decide +kernel)
set_option maxRecDepth 20000 in
theorem zk_l13 : Cond.classLink RL 13 IAE ∈ zt := zt_of (List.mem_append_left _ (by decide +kernel)) (by decide +kernel)
abbrev rX_t : Room := { frames := 6, cells := 1, slots := 6, locals := 82 }
set_option maxHeartbeats 4000000 in
set_option maxRecDepth 100000 in
theorem c_feedMany_x (l : Launch) (hl9 : l.stackTraces = false) (a : Nat) (key step val n : Int32) (hbad : n < 0 ∨ ¬ n ≤ 200) : ZX l yX0_feedMany cX0_feedMany 7 rX_t [.ref a, .int key, .int step, .int val, .int n] := by
  refine ZX.of (by decide +kernel) rfl (Nat.le_of_ble_eq_true rfl) hl9 ⟨by decide, by decide, by decide, by decide⟩ zk_67 zk_ia ?_
  intro p e s m args below meth c Q ls C0 hl hh hthrow
  have hx := C0.1
  have hb := C0.2.1
  have hl : lv_has ls 7 [(0, .ref a), (1, .int key), (2, .int step), (3, .int val), (4, .int n)] := hl
  refine lv_iload hx hb dX0_feedMany_0 (lv_at hl 4 rfl) ?_
  refine lv_if_lt (tgt := 13) hx hb dX0_feedMany_2 (by decide) (fun c1 => ?_) (fun c1 => ?_)
  · exact hthrow _ _ _ _ _ hh.2.2.2.1.choose_spec hl.1 dX0_feedMany_13 dX0_feedMany_16 dX0_feedMany_17 dX0_feedMany_19 dX0_feedMany_22
  · refine lv_iload hx hb dX0_feedMany_5 (lv_at hl 4 rfl) ?_
    refine lv_sipush (v := 200) hx hb dX0_feedMany_7 (by decide) ?_
    refine lv_icmp_le (tgt := 23) hx hb dX0_feedMany_10 (by decide) (fun c2 => ?_) (fun c2 => ?_)
    · exact absurd c2 (hbad.resolve_left c1)
    · exact hthrow _ _ _ _ _ hh.2.2.2.1.choose_spec hl.1 dX0_feedMany_13 dX0_feedMany_16 dX0_feedMany_17 dX0_feedMany_19 dX0_feedMany_22
set_option maxHeartbeats 4000000 in
set_option maxRecDepth 100000 in
theorem c_group_x (l : Launch) (hl9 : l.stackTraces = false) (a : Nat) (what : Int32) (hbad : what < 0 ∨ ¬ what < 4) : ZX l yX0_group cX0_group 2 rX_t [.ref a, .int what] := by
  refine ZX.of (by decide +kernel) rfl (Nat.le_of_ble_eq_true rfl) hl9 ⟨by decide, by decide, by decide, by decide⟩ zk_67 zk_ia ?_
  intro p e s m args below meth c Q ls C0 hl hh hthrow
  have hx := C0.1
  have hb := C0.2.1
  have hl : lv_has ls 2 [(0, .ref a), (1, .int what)] := hl
  refine lv_iload_n hx hb dX0_group_0 rfl (lv_at hl 1 rfl) ?_
  refine lv_if_lt (tgt := 9) hx hb dX0_group_1 (by decide) (fun c1 => ?_) (fun c1 => ?_)
  · exact hthrow _ _ _ _ _ hh.2.2.2.2.choose_spec hl.1 dX0_group_9 dX0_group_12 dX0_group_13 dX0_group_15 dX0_group_18
  · refine lv_iload_n hx hb dX0_group_4 rfl (lv_at hl 1 rfl) ?_
    refine lv_iconst (v := 4) hx hb dX0_group_5 (by decide) ?_
    refine lv_icmp_lt (tgt := 19) hx hb dX0_group_6 (by decide) (fun c2 => ?_) (fun c2 => ?_)
    · exact absurd c2 (hbad.resolve_left c1)
    · exact hthrow _ _ _ _ _ hh.2.2.2.2.choose_spec hl.1 dX0_group_9 dX0_group_12 dX0_group_13 dX0_group_15 dX0_group_18
set_option maxHeartbeats 4000000 in
set_option maxRecDepth 100000 in
theorem c_count_x (l : Launch) (hl9 : l.stackTraces = false) (a : Nat) (what : Int32) (hbad : what < 0 ∨ ¬ what < 4) : ZX l yX0_count cX0_count 2 rX_t [.ref a, .int what] := by
  refine ZX.of (by decide +kernel) rfl (Nat.le_of_ble_eq_true rfl) hl9 ⟨by decide, by decide, by decide, by decide⟩ zk_67 zk_ia ?_
  intro p e s m args below meth c Q ls C0 hl hh hthrow
  have hx := C0.1
  have hb := C0.2.1
  have hl : lv_has ls 2 [(0, .ref a), (1, .int what)] := hl
  refine lv_iload_n hx hb dX0_count_0 rfl (lv_at hl 1 rfl) ?_
  refine lv_if_lt (tgt := 9) hx hb dX0_count_1 (by decide) (fun c1 => ?_) (fun c1 => ?_)
  · exact hthrow _ _ _ _ _ hh.2.2.2.2.choose_spec hl.1 dX0_count_9 dX0_count_12 dX0_count_13 dX0_count_15 dX0_count_18
  · refine lv_iload_n hx hb dX0_count_4 rfl (lv_at hl 1 rfl) ?_
    refine lv_iconst (v := 4) hx hb dX0_count_5 (by decide) ?_
    refine lv_icmp_lt (tgt := 19) hx hb dX0_count_6 (by decide) (fun c2 => ?_) (fun c2 => ?_)
    · exact absurd c2 (hbad.resolve_left c1)
    · exact hthrow _ _ _ _ _ hh.2.2.2.2.choose_spec hl.1 dX0_count_9 dX0_count_12 dX0_count_13 dX0_count_15 dX0_count_18
abbrev rX_group : Room := { frames := 1, cells := 0, slots := 0, locals := 21 }
set_option maxHeartbeats 4000000 in
set_option maxRecDepth 100000 in
theorem c_group (l : Launch) (D : va_G) (ad : Nat → Nat) (cs : Nat → ClassId) (w n nr : Nat) (hn : n < 2 ^ 31) (hnr : nr < 2 ^ 31) (K V O M RL G : Nat → Int32) (fed sp se co op ck cv : Int32) (what : Int32) (h1 : ¬ what < 0) (h2 : what < 4) : ZR l yX0_group cX0_group 2 rX_group D classes (xt cs) [.ref (ad 0), .int what] (xw ad cs w n nr K V O M RL G fed sp se co op ck cv) (fun r => r = za 4 G what) := by
  refine ZR.of (by decide +kernel) (Nat.le_of_ble_eq_true rfl) ?_
  intro p e s m args below meth c Q ls C0 hK hP hD hl hret
  have hx := C0.1
  have hb := C0.2.1
  have hl : lv_has ls 2 [(0, .ref (ad 0)), (1, .int what)] := hl
  refine lv_iload_n hx hb dX0_group_0 rfl (lv_at hl 1 rfl) ?_
  refine lv_if_lt (tgt := 9) hx hb dX0_group_1 (by decide) (fun hz => False.elim (h1 hz)) (fun hz => ?_)
  refine lv_iload_n hx hb dX0_group_4 rfl (lv_at hl 1 rfl) ?_
  refine lv_iconst (v := 4) hx hb dX0_group_5 (by decide) ?_
  refine lv_icmp_lt (tgt := 19) hx hb dX0_group_6 (by decide) (fun hz => ?_) (fun hz => False.elim (hz h2))
  refine lv_aload_n hx hb dX0_group_19 rfl (lv_at hl 0 rfl) ?_
  refine z_get C0 zt_x0 hK hP 0 rfl rfl 14 (by decide) fl_X0_41 rfl dX0_group_20 ?_
  refine lv_iload_n hx hb dX0_group_23 rfl (lv_at hl 1 rfl) ?_
  refine zx_at C0 (by decide) hK hP hD 6 5 rfl rfl hl.1 (Nat.le_of_ble_eq_true rfl) ⟨by decide, by decide⟩ ⟨Nat.zero_le _, Nat.zero_le _⟩ dX0_group_24 ?_
  exact hret _ _ _ (rfl) dX0_group_27
/-- pairs that come by one call -/
def fm_K (K : Nat → Int32) (f : Nat) (key step : Int32) : Nat → Nat → Int32
  | 0 => K
  | j + 1 => upd (fm_K K f key step j) (f + j) (key + nI j * step)
def fm_V (V : Nat → Int32) (f : Nat) (val : Int32) : Nat → Nat → Int32
  | 0 => V
  | j + 1 => upd (fm_V V f val j) (f + j) (val + nI j)
def fm_r (w r f : Nat) : Nat → Nat
  | 0 => r
  | j + 1 => rnx w (fm_r w r f j) (f + j)
abbrev rX_feedMany : Room := { frames := 5, cells := 0, slots := 0, locals := 111 }
set_option maxHeartbeats 4000000 in
set_option maxRecDepth 100000 in
theorem c_feedMany (l : Launch) (D : va_G) (ad : Nat → Nat) (cs : Nat → ClassId) (w n nr : Nat) (hn : n < 2 ^ 31) (hnr : nr < 2 ^ 31) (K V O M RL G : Nat → Int32) (co op ck cv : Int32) (key step val : Int32) (q r f : Nat) (hq : q ≤ 200) (hf : f ≤ n) (hn2 : n < 2 ^ 29) (hw0 : 0 < w) (hw1 : w < 2 ^ 29) (hO : xO w n K O r f) : ZI (S := ((Nat → Int32) × Nat)) l yX0_feedMany cX0_feedMany 7 rX_feedMany D classes (xt cs) [.ref (ad 0), .int key, .int step, .int val, .int (nI q)] (xw ad cs w n nr K V O M RL G (nI f) (nI r) 0 co op ck cv) (fun v u => v = nI (min q (n - f)) ∧ u.2 = fm_r w r f (min q (n - f)) ∧ xO w n (fm_K K f key step (min q (n - f))) u.1 u.2 (f + min q (n - f))) (fun u => xw ad cs w n nr (fm_K K f key step (min q (n - f))) (fm_V V f val (min q (n - f))) u.1 M RL G (nI (f + min q (n - f))) (nI u.2) 0 co op ck cv) := by
  refine ZI.of (by decide +kernel) (Nat.le_of_ble_eq_true rfl) ?_
  intro p e s m args below meth c A Q ls C0 hK hP hD hS hA hl hret
  have hx := C0.1
  have hb := C0.2.1
  have hl : lv_has ls 7 [(0, .ref (ad 0)), (1, .int key), (2, .int step), (3, .int val), (4, .int (nI q))] := hl
  refine lv_iload hx hb dX0_feedMany_0 (lv_at hl 4 rfl) ?_
  refine lv_if_lt (tgt := 13) hx hb dX0_feedMany_2 (by decide) (fun hz => False.elim (nI_pos (by omega) hz)) (fun hz => ?_)
  refine lv_iload hx hb dX0_feedMany_5 (lv_at hl 4 rfl) ?_
  refine lv_sipush (v := 200) hx hb dX0_feedMany_7 (by decide) ?_
  refine lv_icmp_le (tgt := 23) hx hb dX0_feedMany_10 (by decide) (fun hz => ?_) (fun hz => False.elim (hz (nI_le (b := 200) hq (by decide))))
  refine lv_aload_n hx hb dX0_feedMany_23 rfl (lv_at hl 0 rfl) ?_
  refine z_get C0 zt_x0 hK hP 0 rfl rfl 9 (by decide) fl_X0_50 rfl dX0_feedMany_24 ?_
  refine lv_if_eq (tgt := 33) hx hb dX0_feedMany_27 (by decide) (fun hz => ?_) (fun hz => False.elim (hz rfl))
  refine lv_iload hx hb dX0_feedMany_33 (lv_at hl 4 rfl) ?_
  refine lv_aload_n hx hb dX0_feedMany_35 rfl (lv_at hl 0 rfl) ?_
  refine z_get C0 zt_x0 hK hP 0 rfl rfl 1 (by decide) fl_X0_22 rfl dX0_feedMany_36 ?_
  refine lv_aload_n hx hb dX0_feedMany_39 rfl (lv_at hl 0 rfl) ?_
  refine z_get C0 zt_x0 hK hP 0 rfl rfl 7 (by decide) fl_X0_44 rfl dX0_feedMany_40 ?_
  refine lv_isub hx hb dX0_feedMany_43 ?_
  refine z_eq (show ((nI n) - (nI f)) = nI (n - f) from pk_sub hf) ?_
  refine z_min C0 zm_min hl.1 ⟨by decide, Nat.le_of_ble_eq_true rfl⟩ ⟨Nat.zero_le _, Nat.zero_le _⟩ dX0_feedMany_44 ?_
  refine z_eq (show (if (nI (n - f)) < (nI q) then (nI (n - f)) else (nI q)) = nI (min q (n - f)) from zmin_n rfl (by omega) (by omega)) ?_
  refine lv_istore (lv' := [(5, .int (nI (min q (n - f)))), (0, .ref (ad 0)), (1, .int key), (2, .int step), (3, .int val), (4, .int (nI q))]) hx hb dX0_feedMany_47 hl (by decide) rfl (fun ls hl => ?_)
  refine lv_iconst (v := 0) hx hb dX0_feedMany_49 (by decide) ?_
  refine lv_istore (lv' := [(6, .int 0), (5, .int (nI (min q (n - f)))), (0, .ref (ad 0)), (1, .int key), (2, .int step), (3, .int val), (4, .int (nI q))]) hx hb dX0_feedMany_50 hl (by decide) rfl (fun ls hl => ?_)
  have loop : ∀ (NN : Nat) (j r1 : Nat) (O1 : Nat → Int32) (H : Heap) (locs : List Loc) (ls : Array Slot), (j ≤ min q (n - f) ∧ r1 = fm_r w r f j ∧ xO w n (fm_K K f key step j) O1 r1 (f + j)) → min q (n - f) - j < NN → va_P D classes (xw ad cs w n nr (fm_K K f key step j) (fm_V V f val j) O1 M RL G (nI (f + j)) (nI r1) 0 co op ck cv) H → va_D A (xw ad cs w n nr (fm_K K f key step j) (fm_V V f val j) O1 M RL G (nI (f + j)) (nI r1) 0 co op ck cv) → va_S A s.heap H locs → lv_has ls 7 [(6, .int (nI j)), (5, .int (nI (min q (n - f)))), (0, .ref (ad 0)), (1, .int key), (2, .int step), (3, .int val), (4, .int (nI q))] → W p l e rX_feedMany s m args below meth c H locs 0 0 Q (F0 m 52 ls []) := by
    intro N52
    induction N52 with
    | zero => intro j r1 O1 H locs ls hI hN; exact absurd hN (Nat.not_lt_zero _)
    | succ N52 ih52 =>
      intro j r1 O1 H locs ls hI hN52 hP hD hS hl
      obtain ⟨i1, i2, i3⟩ := hI
      refine lv_iload hx hb dX0_feedMany_52 (lv_at hl 0 rfl) ?_
      refine lv_iload hx hb dX0_feedMany_54 (lv_at hl 1 rfl) ?_
      refine lv_icmp_ge (tgt := 79) hx hb dX0_feedMany_56 (by decide) (fun c2 => ?_) (fun c2 => ?_)
      · have c2 := zle c2 (by omega) (by omega)
        have ej : j = min q (n - f) := by omega
        refine lv_iload hx hb dX0_feedMany_79 (lv_at hl 1 rfl) ?_
        rw [ej] at hP hD i2 i3
        exact hret _ ((O1, r1)) _ _ _ _ hP hD hS (⟨rfl, i2, i3⟩) dX0_feedMany_81
      · have c2 := znle c2 (by omega) (by omega)
        refine lv_aload_n hx hb dX0_feedMany_59 rfl (lv_at hl 2 rfl) ?_
        refine lv_iload_n hx hb dX0_feedMany_60 rfl (lv_at hl 3 rfl) ?_
        refine lv_iload hx hb dX0_feedMany_61 (lv_at hl 0 rfl) ?_
        refine lv_iload_n hx hb dX0_feedMany_63 rfl (lv_at hl 4 rfl) ?_
        refine lv_imul hx hb dX0_feedMany_64 ?_
        refine lv_iadd hx hb dX0_feedMany_65 ?_
        refine lv_iload_n hx hb dX0_feedMany_66 rfl (lv_at hl 5 rfl) ?_
        refine lv_iload hx hb dX0_feedMany_67 (lv_at hl 0 rfl) ?_
        refine lv_iadd hx hb dX0_feedMany_69 ?_
        refine zv_callV0 (As := [.int (key + ((nI j) * step)), .int (val + (nI j))]) (rest := []) (q0 := 0) (ci := 0) C0 (c_append l D ad cs w n nr hn hnr (fm_K K f key step j) (fm_V V f val j) O1 M RL G 0 co op ck cv (key + nI j * step) (val + nI j) r1 (f + j) (by omega) hn2 hw0 hw1 i3) zv_X0_X0_append ⟨by decide, by decide⟩ ⟨rfl, rfl⟩ rfl hK hP hD hS hA rfl rfl rfl hl.1 rfl (Nat.le_of_ble_eq_true rfl) dX0_feedMany_70 ⟨Nat.zero_le _, Nat.zero_le _⟩ (fun u1 H locs hj hP hD hS => ?_)
        have hP : va_P D classes (xw ad cs w n nr (fm_K K f key step (j + 1)) (fm_V V f val (j + 1)) u1.1 M RL G (nI (f + (j + 1))) (nI u1.2) 0 co op ck cv) H := hP
        have hD : va_D A (xw ad cs w n nr (fm_K K f key step (j + 1)) (fm_V V f val (j + 1)) u1.1 M RL G (nI (f + (j + 1))) (nI u1.2) 0 co op ck cv) := hD
        refine lv_iinc (v := nI (j + 1)) (lv' := [(6, .int (nI (j + 1))), (5, .int (nI (min q (n - f)))), (0, .ref (ad 0)), (1, .int key), (2, .int step), (3, .int val), (4, .int (nI q))]) hx hb dX0_feedMany_73 hl (k := 0) rfl (show (nI j) + Int32.ofInt (1) = nI (j + 1) from (congrArg ((nI j) + ·) (by decide : Int32.ofInt (1) = 1)).trans (nI_1 j)) (by decide) rfl (fun ls hl => ?_)
        refine lv_goto (tgt := 52) hx hb dX0_feedMany_76 (by decide) ?_
        exact ih52 (j + 1) u1.2 u1.1 _ _ _ (⟨c2, by rw [hj.1, i2]; rfl, hj.2⟩) (by omega) hP hD hS (lv_sub hl [0, 1, 2, 3, 4, 5, 6] rfl)
  exact loop _ 0 r O _ _ _ (⟨Nat.zero_le _, rfl, hO⟩) (Nat.lt_succ_self _) hP hD hS (lv_sub hl [0, 1, 2, 3, 4, 5, 6] (rfl))
set_option maxHeartbeats 4000000 in
set_option maxRecDepth 100000 in
theorem c_feedMany_s (l : Launch) (D : va_G) (ad : Nat → Nat) (cs : Nat → ClassId) (w n nr : Nat) (hn : n < 2 ^ 31) (hnr : nr < 2 ^ 31) (K V O M RL G : Nat → Int32) (fed sp co op ck cv : Int32) (key step val : Int32) (q : Nat) (hq : q ≤ 200) : ZI (S := Unit) l yX0_feedMany cX0_feedMany 7 rX_feedMany D classes (xt cs) [.ref (ad 0), .int key, .int step, .int val, .int (nI q)] (xw ad cs w n nr K V O M RL G fed sp 1 co op ck cv) (fun v _ => v = -3) (fun _ => xw ad cs w n nr K V O M RL G fed sp 1 co op ck cv) := by
  refine ZI.of (by decide +kernel) (Nat.le_of_ble_eq_true rfl) ?_
  intro p e s m args below meth c A Q ls C0 hK hP hD hS hA hl hret
  have hx := C0.1
  have hb := C0.2.1
  have hl : lv_has ls 7 [(0, .ref (ad 0)), (1, .int key), (2, .int step), (3, .int val), (4, .int (nI q))] := hl
  refine lv_iload hx hb dX0_feedMany_0 (lv_at hl 4 rfl) ?_
  refine lv_if_lt (tgt := 13) hx hb dX0_feedMany_2 (by decide) (fun hz => False.elim (nI_pos (by omega) hz)) (fun hz => ?_)
  refine lv_iload hx hb dX0_feedMany_5 (lv_at hl 4 rfl) ?_
  refine lv_sipush (v := 200) hx hb dX0_feedMany_7 (by decide) ?_
  refine lv_icmp_le (tgt := 23) hx hb dX0_feedMany_10 (by decide) (fun hz => ?_) (fun hz => False.elim (hz (nI_le (b := 200) hq (by decide))))
  refine lv_aload_n hx hb dX0_feedMany_23 rfl (lv_at hl 0 rfl) ?_
  refine z_get C0 zt_x0 hK hP 0 rfl rfl 9 (by decide) fl_X0_50 rfl dX0_feedMany_24 ?_
  refine lv_if_eq (tgt := 33) hx hb dX0_feedMany_27 (by decide) (fun hz => False.elim (absurd hz (by decide))) (fun hz => ?_)
  refine lv_bipush (v := -3) hx hb dX0_feedMany_30 (by decide) ?_
  exact hret _ (()) _ _ _ _ hP hD hS (rfl) dX0_feedMany_32
