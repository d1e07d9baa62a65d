/-! CONSTRUCTORS: a contract whose world grows -/
def ZN {S : Type} (l : Launch) (y : MethodName) (b : ByteArray) (k : Nat) (rm : Room) (D : va_G) (cl : List vw_C) (av : List Value) (W0 : va_W) (post : S → Prop) (Wf : S → va_W) (Tf : S → List (ClassId × FieldType)) : Prop :=
  ∀ sz : Nat, Met l y (Cond.code y b k none :: zt) rm (zPc D cl [] av W0 sz) (va_Qv post (fun u t => va_P D cl (Wf u) t.heap ∧ va_K D cl (Tf u) t ∧ va_D (va_A W0 sz) (Wf u)) (va_A W0 sz)) rm.cells rm.slots (va_A W0 sz)
theorem ZN.of {l : Launch} {y : MethodName} {b : ByteArray} {k : Nat} {rm : Room} {D : va_G} {cl : List vw_C} {av : List Value} {W0 : va_W} {S : Type} {post : S → Prop} {Wf : S → va_W} {Tf : S → List (ClassId × FieldType)} (hy : plainName y.cls = true) (hlen : (lg_sl av).length ≤ k)
    (body : ∀ (p : Program) (e : Env) (s : State) (m : MethodId) (args : Array Value) (below : List Frame) (meth : Method) (c : Code) (A : Nat → Prop) (Q : State → Prop) (ls : Array Slot), CallFix p m c b k s args zt y.cls → meth.name = y.name → va_K D cl [] s → va_P D cl W0 s.heap → va_D A W0 → va_S A s.heap s.heap [] → (∀ q, s.heap.size ≤ q → A q) → lv_has ls k (lv_args 0 av) →
      (∀ (u : S) (H : Heap) (locs : List Loc) (pc : Nat) (ls : Array Slot), va_K D cl (Tf u) s → va_P D cl (Wf u) H → va_D A (Wf u) → va_S A s.heap H locs → post u → decode b pc = .ok (.return_, 1) → W p l e rm s m args below meth c H locs rm.cells rm.slots Q (F0 m pc ls [])) →
      W p l e rm s m args below meth c s.heap [] 0 0 Q (F0 m 0 ls [])) : ZN l y b k rm D cl av W0 post Wf Tf := by
  intro sz
  refine Met.ofW (cc := b) (maxL := k) (ret := none) hy rfl ?_
  intro p e s m args below meth c s₁ B hml hv
  obtain ⟨rfl, hsz, hP, hK, hD0⟩ := hv
  have hts := atoms_spec (ws := Cond.code y b k none :: zt) B.pre
  subst hsz
  rw [lg_entry_eq]
  exact body p e s m _ below meth c _ _ _ ⟨B.exec, B.bytes, hml, findClass_of_methodNamed B.named, fun w hw => hts w (List.mem_cons_of_mem _ hw)⟩ (name_of_methodNamed B.named B.method).1 hK hP (hD0.self (sz := s.heap.size)) va_S.rf (fun q h => Or.inr h) (lv_entry av hlen)
    (fun u H locs pc ls hK hP hD hS hw hdg => W.vret B.exec B.bytes B.returns (fun t ht hW => ⟨⟨u, rfl, hw, by rw [ht]; exact hP, va_K.moved hW.alike hK, hD⟩, hS.F ht⟩) hS.2.2 hdg B.notSynchronized)
section ZC
variable {p : Program} {l : Launch} {e : Env} {R : Room} {s : State} {m : MethodId} {args : Array Value} {below : List Frame} {meth : Method} {c : Code} {H : Heap} {locs : List Loc} {cells slots : Nat} {Q : State → Prop}
variable {cc : ByteArray} {pc : Nat} {ls : Array Slot} {rest : List Value} {D : va_G} {cl : List vw_C} {A : Nat → Prop} {a : Nat} {tys : List (ClassId × FieldType)} {nL idx : Nat} {own : String}
theorem z_putF {C : String} {T : u_T} {N ci : Nat} {ws : va_W} (C0 : CallFix p m c cc nL s args zt own) (hin : ∀ w ∈ u_ws C T N, w ∈ zt) (ty0 : Nat → FieldType) (hty : ∀ k, k < N → parseFieldDescriptor (T k).2.2.1 = some (ty0 k)) (hnm : ∀ a, a < N → ∀ b, b < N → a ≠ b → (T a).2.1 ≠ (T b).2.1) (hK : va_K D cl tys s) (hP : va_P D cl ws H) (hD : va_D A ws) (hS : va_S A s.heap H locs) (hname : meth.name = "<init>") (q0 : Nat) {fs : List Value} (he : ws[q0]? = some (a, .inr (ci, fs))) (hc : cl[ci]? = some (C, T, N)) (k : Nat) (hk : k < N) (hl : Cond.fieldLink own idx (T k).1 (T k).2.1 (T k).2.2.1 ∈ zt) (hfin : (T k).2.2.2 = true) (hdecl : (T k).1 = own) {ty : FieldType} {v : Value} (hd : parseFieldDescriptor (T k).2.2.1 = some ty) (hn : narrow ty v = v) (hfit : fits ty v = true) (hlen : k < fs.length) (hdg : decode cc pc = .ok (.putfield idx, 3))
    (kk : ∀ (H1 : Heap) (locs1 : List Loc), va_P D cl (ws.set q0 (a, .inr (ci, fs.set k v))) H1 → va_D A (ws.set q0 (a, .inr (ci, fs.set k v))) → va_S A s.heap H1 locs1 → W p l e R s m args below meth c H1 locs1 cells slots Q (F0 m (pc + 3) ls rest)) : W p l e R s m args below meth c H locs cells slots Q (F0 m pc ls (v :: .ref a :: rest)) :=
  va_putF C0.1 C0.2.1 C0.2.2.2.2 hin ty0 hty hnm C0.2.2.2.1 hK hP hD hS q0 he hc k hk (C0.2.2.2.2 _ hl) (fun _ h => h) hfin hname hdecl hd hn hfit hlen hdg kk
theorem z_newi {ws : va_W} {n : Nat} (C0 : CallFix p m c cc nL s args zt own) (hw : Cond.arrayClass .int ∈ zt) (hK : va_K D cl tys s) (hP : va_P D cl ws H) (hD : va_D A ws) (hS : va_S A s.heap H locs) (hA : ∀ q, s.heap.size ≤ q → A q) (hn : n < 100000) (hcells : cells + 1 ≤ R.cells) (hslots : slots + n ≤ R.slots) (hdg : decode cc pc = .ok (.newarray .int, 2))
    (kk : ∀ (q : Nat) (cA : ClassId) (H1 : Heap), va_K D cl (tys ++ [(cA, .int)]) s → va_P D cl (ws ++ [(q, .inl (cA, n, .inl (fun _ => 0)))]) H1 → va_D A (ws ++ [(q, .inl (cA, n, .inl (fun _ => 0)))]) → va_S A s.heap H1 locs → W p l e R s m args below meth c H1 locs (cells + 1) (slots + n) Q (F0 m (pc + 2) ls (.ref q :: rest))) : W p l e R s m args below meth c H locs cells slots Q (F0 m pc ls (.int (nI n) :: rest)) :=
  va_newa (atype := .int) (ty := .int) (a0 := (n, .inl (fun _ => 0))) (N' := n) C0.1 C0.2.1 (C0.2.2.2.2 _ hw) rfl hK hP hD hS hA (fun _ => rfl) (nI_pos (by omega)) (nI_clamp (by omega)) (by show n * 4 ≤ 536870912; omega) hcells hslots hdg kk
theorem z_newz {ws : va_W} {n : Nat} (C0 : CallFix p m c cc nL s args zt own) (hw : Cond.arrayClass .boolean ∈ zt) (hK : va_K D cl tys s) (hP : va_P D cl ws H) (hD : va_D A ws) (hS : va_S A s.heap H locs) (hA : ∀ q, s.heap.size ≤ q → A q) (hn : n < 100000) (hcells : cells + 1 ≤ R.cells) (hslots : slots + n ≤ R.slots) (hdg : decode cc pc = .ok (.newarray .boolean, 2))
    (kk : ∀ (q : Nat) (cA : ClassId) (H1 : Heap), va_K D cl (tys ++ [(cA, .boolean)]) s → va_P D cl (ws ++ [(q, .inl (cA, n, .inl (fun _ => 0)))]) H1 → va_D A (ws ++ [(q, .inl (cA, n, .inl (fun _ => 0)))]) → va_S A s.heap H1 locs → W p l e R s m args below meth c H1 locs (cells + 1) (slots + n) Q (F0 m (pc + 2) ls (.ref q :: rest))) : W p l e R s m args below meth c H locs cells slots Q (F0 m pc ls (.int (nI n) :: rest)) :=
  va_newa (atype := .boolean) (ty := .boolean) (a0 := (n, .inl (fun _ => 0))) (N' := n) C0.1 C0.2.1 (C0.2.2.2.2 _ hw) rfl hK hP hD hS hA (fun _ => rfl) (nI_pos (by omega)) (nI_clamp (by omega)) (by show n * 1 ≤ 536870912; omega) hcells hslots hdg kk
end ZC
set_option maxRecDepth 20000 in
theorem zk_ai : Cond.arrayClass .int ∈ zt := zt_of (List.mem_append_left _ (by decide +kernel)) rfl
set_option maxRecDepth 20000 in
theorem zk_az : Cond.arrayClass .boolean ∈ zt := zt_of (List.mem_append_left _ (by decide +kernel)) rfl
set_option maxRecDepth 20000 in
theorem zk_al : Cond.arrayClass .long ∈ zt := zt_of (List.mem_append_left _ (by decide +kernel)) rfl
abbrev rX_count : Room := { frames := 1, cells := 0, slots := 0, locals := 20 }
set_option maxHeartbeats 4000000 in
set_option maxRecDepth 100000 in
theorem c_count_0 (l : Launch) (D : va_G) (ad : Nat → Nat) (cs : Nat → ClassId) (w n nr : Nat) (hn : n < 2 ^ 31) (hnr : nr < 2 ^ 31) (K V O M RL G : Nat → Int32) (fed sp se co op ck cv : Int32)   : ZR l yX0_count cX0_count 2 rX_count D classes (xt cs) [.ref (ad 0), .int 0] (xw ad cs w n nr K V O M RL G fed sp se co op ck cv) (fun r => r = fed) := by
  refine ZR.of (by decide +kernel) (Nat.le_of_ble_eq_true rfl) ?_
  intro p e s m args below meth c Q ls C0 hK hP hD hl hret
  have hx := C0.1
  have hb := C0.2.1
  have hl : lv_has ls 2 [(0, .ref (ad 0)), (1, .int 0)] := hl
  refine lv_iload_n hx hb dX0_count_0 rfl (lv_at hl 1 rfl) ?_
  refine lv_if_lt (tgt := 9) hx hb dX0_count_1 (by decide) (fun hz => False.elim (absurd hz (by decide))) (fun hz => ?_)
  refine lv_iload_n hx hb dX0_count_4 rfl (lv_at hl 1 rfl) ?_
  refine lv_iconst (v := 4) hx hb dX0_count_5 (by decide) ?_
  refine lv_icmp_lt (tgt := 19) hx hb dX0_count_6 (by decide) (fun hz => ?_) (fun hz => False.elim (hz (by decide)))
  refine lv_iload_n hx hb dX0_count_19 rfl (lv_at hl 1 rfl) ?_
  refine lv_tableIn (tgt := 48) hx hb dX0_count_20 (by decide) (by decide) rfl (by decide) ?_
  refine lv_aload_n hx hb dX0_count_48 rfl (lv_at hl 0 rfl) ?_
  refine z_get C0 zt_x0 hK hP 0 rfl rfl 7 (by decide) fl_X0_44 rfl dX0_count_49 ?_
  exact hret _ _ _ (rfl) dX0_count_52
set_option maxHeartbeats 4000000 in
set_option maxRecDepth 100000 in
theorem c_count_1 (l : Launch) (D : va_G) (ad : Nat → Nat) (cs : Nat → ClassId) (w n nr : Nat) (hn : n < 2 ^ 31) (hnr : nr < 2 ^ 31) (K V O M RL G : Nat → Int32) (fed sp se co op ck cv : Int32)   : ZR l yX0_count cX0_count 2 rX_count D classes (xt cs) [.ref (ad 0), .int 1] (xw ad cs w n nr K V O M RL G fed sp se co op ck cv) (fun r => r = sp * nI w) := by
  refine ZR.of (by decide +kernel) (Nat.le_of_ble_eq_true rfl) ?_
  intro p e s m args below meth c Q ls C0 hK hP hD hl hret
  have hx := C0.1
  have hb := C0.2.1
  have hl : lv_has ls 2 [(0, .ref (ad 0)), (1, .int 1)] := hl
  refine lv_iload_n hx hb dX0_count_0 rfl (lv_at hl 1 rfl) ?_
  refine lv_if_lt (tgt := 9) hx hb dX0_count_1 (by decide) (fun hz => False.elim (absurd hz (by decide))) (fun hz => ?_)
  refine lv_iload_n hx hb dX0_count_4 rfl (lv_at hl 1 rfl) ?_
  refine lv_iconst (v := 4) hx hb dX0_count_5 (by decide) ?_
  refine lv_icmp_lt (tgt := 19) hx hb dX0_count_6 (by decide) (fun hz => ?_) (fun hz => False.elim (hz (by decide)))
  refine lv_iload_n hx hb dX0_count_19 rfl (lv_at hl 1 rfl) ?_
  refine lv_tableIn (tgt := 53) hx hb dX0_count_20 (by decide) (by decide) rfl (by decide) ?_
  refine lv_aload_n hx hb dX0_count_53 rfl (lv_at hl 0 rfl) ?_
  refine zr_callV (As := []) (rest := []) (q0 := 0) (ci := 0) C0 (c_spilledPairs l D ad cs w n nr hn hnr K V O M RL G fed sp se co op ck cv) zv_X0_X0_spilledPairs ⟨by decide, by decide⟩ ⟨rfl, rfl⟩ rfl hK hP hD rfl rfl rfl hl.1 rfl (Nat.le_of_ble_eq_true rfl) dX0_count_54 ⟨Nat.zero_le _, Nat.zero_le _⟩ (fun r1 er1 => ?_)
  subst er1
  exact hret _ _ _ (rfl) dX0_count_57
set_option maxHeartbeats 4000000 in
set_option maxRecDepth 100000 in
theorem c_count_2 (l : Launch) (D : va_G) (ad : Nat → Nat) (cs : Nat → ClassId) (w n nr : Nat) (hn : n < 2 ^ 31) (hnr : nr < 2 ^ 31) (K V O M RL G : Nat → Int32) (fed sp se co op ck cv : Int32)   : ZR l yX0_count cX0_count 2 rX_count D classes (xt cs) [.ref (ad 0), .int 2] (xw ad cs w n nr K V O M RL G fed sp se co op ck cv) (fun r => r = co) := by
  refine ZR.of (by decide +kernel) (Nat.le_of_ble_eq_true rfl) ?_
  intro p e s m args below meth c Q ls C0 hK hP hD hl hret
  have hx := C0.1
  have hb := C0.2.1
  have hl : lv_has ls 2 [(0, .ref (ad 0)), (1, .int 2)] := hl
  refine lv_iload_n hx hb dX0_count_0 rfl (lv_at hl 1 rfl) ?_
  refine lv_if_lt (tgt := 9) hx hb dX0_count_1 (by decide) (fun hz => False.elim (absurd hz (by decide))) (fun hz => ?_)
  refine lv_iload_n hx hb dX0_count_4 rfl (lv_at hl 1 rfl) ?_
  refine lv_iconst (v := 4) hx hb dX0_count_5 (by decide) ?_
  refine lv_icmp_lt (tgt := 19) hx hb dX0_count_6 (by decide) (fun hz => ?_) (fun hz => False.elim (hz (by decide)))
  refine lv_iload_n hx hb dX0_count_19 rfl (lv_at hl 1 rfl) ?_
  refine lv_tableIn (tgt := 58) hx hb dX0_count_20 (by decide) (by decide) rfl (by decide) ?_
  refine lv_aload_n hx hb dX0_count_58 rfl (lv_at hl 0 rfl) ?_
  refine z_get C0 zt_x0 hK hP 0 rfl rfl 10 (by decide) fl_X0_54 rfl dX0_count_59 ?_
  exact hret _ _ _ (rfl) dX0_count_62
set_option maxHeartbeats 4000000 in
set_option maxRecDepth 100000 in
theorem c_count_3u (l : Launch) (D : va_G) (ad : Nat → Nat) (cs : Nat → ClassId) (w n nr : Nat) (hn : n < 2 ^ 31) (hnr : nr < 2 ^ 31) (K V O M RL G : Nat → Int32) (fed sp co op ck cv : Int32)   : ZR l yX0_count cX0_count 2 rX_count D classes (xt cs) [.ref (ad 0), .int 3] (xw ad cs w n nr K V O M RL G fed sp 0 co op ck cv) (fun r => r = sp) := by
  refine ZR.of (by decide +kernel) (Nat.le_of_ble_eq_true rfl) ?_
  intro p e s m args below meth c Q ls C0 hK hP hD hl hret
  have hx := C0.1
  have hb := C0.2.1
  have hl : lv_has ls 2 [(0, .ref (ad 0)), (1, .int 3)] := hl
  refine lv_iload_n hx hb dX0_count_0 rfl (lv_at hl 1 rfl) ?_
  refine lv_if_lt (tgt := 9) hx hb dX0_count_1 (by decide) (fun hz => False.elim (absurd hz (by decide))) (fun hz => ?_)
  refine lv_iload_n hx hb dX0_count_4 rfl (lv_at hl 1 rfl) ?_
  refine lv_iconst (v := 4) hx hb dX0_count_5 (by decide) ?_
  refine lv_icmp_lt (tgt := 19) hx hb dX0_count_6 (by decide) (fun hz => ?_) (fun hz => False.elim (hz (by decide)))
  refine lv_iload_n hx hb dX0_count_19 rfl (lv_at hl 1 rfl) ?_
  refine lv_tableOut (tgt := 63) hx hb dX0_count_20 (by decide) (by decide) ?_
  refine lv_aload_n hx hb dX0_count_63 rfl (lv_at hl 0 rfl) ?_
  refine z_get C0 zt_x0 hK hP 0 rfl rfl 9 (by decide) fl_X0_50 rfl dX0_count_64 ?_
  refine lv_if_eq (tgt := 77) hx hb dX0_count_67 (by decide) (fun hz => ?_) (fun hz => False.elim (hz rfl))
  refine lv_aload_n hx hb dX0_count_77 rfl (lv_at hl 0 rfl) ?_
  refine z_get C0 zt_x0 hK hP 0 rfl rfl 8 (by decide) fl_X0_47 rfl dX0_count_78 ?_
  exact hret _ _ _ (rfl) dX0_count_81
set_option maxHeartbeats 4000000 in
set_option maxRecDepth 100000 in
theorem c_count_3s (l : Launch) (D : va_G) (ad : Nat → Nat) (cs : Nat → ClassId) (w n nr : Nat) (hn : n < 2 ^ 31) (hnr : nr < 2 ^ 31) (K V O M RL G : Nat → Int32) (fed sp co op ck cv : Int32)   : ZR l yX0_count cX0_count 2 rX_count D classes (xt cs) [.ref (ad 0), .int 3] (xw ad cs w n nr K V O M RL G fed sp 1 co op ck cv) (fun r => r = op) := by
  refine ZR.of (by decide +kernel) (Nat.le_of_ble_eq_true rfl) ?_
  intro p e s m args below meth c Q ls C0 hK hP hD hl hret
  have hx := C0.1
  have hb := C0.2.1
  have hl : lv_has ls 2 [(0, .ref (ad 0)), (1, .int 3)] := hl
  refine lv_iload_n hx hb dX0_count_0 rfl (lv_at hl 1 rfl) ?_
  refine lv_if_lt (tgt := 9) hx hb dX0_count_1 (by decide) (fun hz => False.elim (absurd hz (by decide))) (fun hz => ?_)
  refine lv_iload_n hx hb dX0_count_4 rfl (lv_at hl 1 rfl) ?_
  refine lv_iconst (v := 4) hx hb dX0_count_5 (by decide) ?_
  refine lv_icmp_lt (tgt := 19) hx hb dX0_count_6 (by decide) (fun hz => ?_) (fun hz => False.elim (hz (by decide)))
  refine lv_iload_n hx hb dX0_count_19 rfl (lv_at hl 1 rfl) ?_
  refine lv_tableOut (tgt := 63) hx hb dX0_count_20 (by decide) (by decide) ?_
  refine lv_aload_n hx hb dX0_count_63 rfl (lv_at hl 0 rfl) ?_
  refine z_get C0 zt_x0 hK hP 0 rfl rfl 9 (by decide) fl_X0_50 rfl dX0_count_64 ?_
  refine lv_if_eq (tgt := 77) hx hb dX0_count_67 (by decide) (fun hz => False.elim (absurd hz (by decide))) (fun hz => ?_)
  refine lv_aload_n hx hb dX0_count_70 rfl (lv_at hl 0 rfl) ?_
  refine z_get C0 zt_x0 hK hP 0 rfl rfl 11 (by decide) fl_X0_57 rfl dX0_count_71 ?_
  refine lv_goto (tgt := 81) hx hb dX0_count_74 (by decide) ?_
  exact hret _ _ _ (rfl) dX0_count_81
set_option maxRecDepth 20000 in
theorem zk_oi : Cond.instanceMethod objectInit ∈ zt := zt_of (List.mem_of_getElem? (i := 15) (by rfl)) (by decide +kernel)
set_option maxRecDepth 20000 in
theorem zk_oc : Cond.code objectInit ⟨#[0xb1]⟩ 1 none ∈ zt := zt_of (List.mem_of_getElem? (i := 16) (by rfl)) (by decide +kernel)
set_option maxRecDepth 20000 in
theorem zk_ol0 : Cond.methodLink RX0 1 objectInit ∈ zt := zt_of (List.mem_of_getElem? (i := 14) (by rfl)) (by decide +kernel)
set_option maxRecDepth 20000 in
theorem zk_ol1 : Cond.methodLink RX1 1 objectInit ∈ zt := zt_of (List.mem_of_getElem? (i := 36) (by rfl)) (by decide +kernel)
abbrev rX_init : Room := { frames := 1, cells := 6, slots := 10261, locals := 21 }
set_option maxHeartbeats 4000000 in
set_option maxRecDepth 100000 in
theorem c_init (l : Launch) (D : va_G) (h0 : Nat) (w0 s0 : Int32) (w sp nr n : Nat) (hw : (if 1 < (if w0 < 64 then w0 else 64) then (if w0 < 64 then w0 else 64) else 1) = nI w) (hs : (if 1 < (if s0 < 2000 then s0 else 2000) then (if s0 < 2000 then s0 else 2000) else 1) = nI sp) (hw0 : 0 < w) (hw1 : w ≤ 64) (hs1 : sp ≤ 2000) (hnr : nr = sp / w + 1) (hnn : n = w * nr) (hn : n ≤ 2064) (hr : nr ≤ 2001) : ZN (S := ((Nat → Nat) × (Nat → ClassId))) l yX0_init cX0_init 5 rX_init D classes [.ref h0, .int w0, .int s0] [(h0, .inr (0, [.int 0, .int 0, .null, .null, .null, .null, .null, .int 0, .int 0, .int 0, .int 0, .int 0, .int 0, .int 0, .null]))] (fun u => u.1 0 = h0) (fun u => xw u.1 u.2 w n nr (fun _ => 0) (fun _ => 0) (fun _ => 0) (fun _ => 0) (fun _ => 0) (fun _ => 0) 0 0 0 0 0 0 0) (fun u => xt u.2) := by
  refine ZN.of (by decide +kernel) (Nat.le_of_ble_eq_true rfl) ?_
  intro p e s m args below meth c A Q ls C0 hname hK hP hD hS hA hl hret
  have hx := C0.1
  have hb := C0.2.1
  have hl : lv_has ls 5 [(0, .ref h0), (1, .int w0), (2, .int s0)] := hl
  refine lv_aload_n hx hb dX0_init_0 rfl (lv_at hl 0 rfl) ?_
  refine W.objInit hx hb C0.2.2.2.1 (C0.2.2.2.2 _ zk_ol0) (C0.2.2.2.2 _ zk_oi) (C0.2.2.2.2 _ zk_oc) rfl (hl.1.trans C0.2.2.1.symm) rfl dX0_init_1 (by decide) (Nat.le_of_ble_eq_true rfl) ?_
  refine W.eq (g2 := F0 m 4 ls []) rfl ?_
  refine lv_aload_n hx hb dX0_init_4 rfl (lv_at hl 0 rfl) ?_
  refine lv_iconst (v := 1) hx hb dX0_init_5 (by decide) ?_
  refine lv_bipush (v := 64) hx hb dX0_init_6 (by decide) ?_
  refine lv_iload_n hx hb dX0_init_8 rfl (lv_at hl 1 rfl) ?_
  refine z_min C0 zm_min hl.1 ⟨by decide, Nat.le_of_ble_eq_true rfl⟩ ⟨Nat.zero_le _, Nat.zero_le _⟩ dX0_init_9 ?_
  refine z_max C0 zm_max hl.1 ⟨by decide, Nat.le_of_ble_eq_true rfl⟩ ⟨Nat.zero_le _, Nat.zero_le _⟩ dX0_init_12 ?_
  refine z_eq (show (if 1 < (if w0 < 64 then w0 else 64) then (if w0 < 64 then w0 else 64) else 1) = nI w from hw) ?_
  refine z_putF (ty := .int) C0 zt_x0 tyX0 tyX0_ok nmX0 hK hP hD hS hname 0 rfl rfl 0 (by decide) fl_X0_18 rfl rfl (by decide +kernel) rfl rfl (Nat.le_of_ble_eq_true rfl) dX0_init_15 (fun H locs hP hD hS => ?_)
  have hP : va_P D classes [(h0, .inr (0, [.int (nI w), .int 0, .null, .null, .null, .null, .null, .int 0, .int 0, .int 0, .int 0, .int 0, .int 0, .int 0, .null]))] H := hP
  have hD : va_D A [(h0, .inr (0, [.int (nI w), .int 0, .null, .null, .null, .null, .null, .int 0, .int 0, .int 0, .int 0, .int 0, .int 0, .int 0, .null]))] := hD
  refine lv_iconst (v := 1) hx hb dX0_init_18 (by decide) ?_
  refine lv_sipush (v := 2000) hx hb dX0_init_19 (by decide) ?_
  refine lv_iload_n hx hb dX0_init_22 rfl (lv_at hl 2 rfl) ?_
  refine z_min C0 zm_min hl.1 ⟨by decide, Nat.le_of_ble_eq_true rfl⟩ ⟨Nat.zero_le _, Nat.zero_le _⟩ dX0_init_23 ?_
  refine z_max C0 zm_max hl.1 ⟨by decide, Nat.le_of_ble_eq_true rfl⟩ ⟨Nat.zero_le _, Nat.zero_le _⟩ dX0_init_26 ?_
  refine z_eq (show (if 1 < (if s0 < 2000 then s0 else 2000) then (if s0 < 2000 then s0 else 2000) else 1) = nI sp from hs) ?_
  refine lv_istore_n (lv' := [(3, .int (nI sp)), (0, .ref h0), (1, .int w0), (2, .int s0)]) hx hb dX0_init_29 rfl hl (by decide) rfl (fun ls hl => ?_)
  refine lv_iload_n hx hb dX0_init_30 rfl (lv_at hl 0 rfl) ?_
  refine lv_aload_n hx hb dX0_init_31 rfl (lv_at hl 1 rfl) ?_
  refine z_get C0 zt_x0 hK hP 0 rfl rfl 0 (by decide) fl_X0_18 rfl dX0_init_32 ?_
  refine lv_idiv hx hb dX0_init_35 (nI_ne0 hw0 (by omega)) ?_
  refine z_eq (show ((nI sp) / (nI w)) = nI (sp / w) from pk_div (by omega) hw0 (by omega)) ?_
  refine lv_iconst (v := 1) hx hb dX0_init_36 (by decide) ?_
  refine lv_iadd hx hb dX0_init_37 ?_
  refine z_eq (show ((nI (sp / w)) + 1) = nI nr from by rw [hnr]; exact nI_1 _) ?_
  refine lv_istore (lv' := [(4, .int (nI nr)), (3, .int (nI sp)), (0, .ref h0), (1, .int w0), (2, .int s0)]) hx hb dX0_init_38 hl (by decide) rfl (fun ls hl => ?_)
  refine lv_aload_n hx hb dX0_init_40 rfl (lv_at hl 2 rfl) ?_
  refine lv_aload_n hx hb dX0_init_41 rfl (lv_at hl 2 rfl) ?_
  refine z_get C0 zt_x0 hK hP 0 rfl rfl 0 (by decide) fl_X0_18 rfl dX0_init_42 ?_
  refine lv_iload hx hb dX0_init_45 (lv_at hl 0 rfl) ?_
  refine lv_imul hx hb dX0_init_47 ?_
  refine z_eq (show ((nI w) * (nI nr)) = nI n from by rw [hnn]; exact pk_mul _ _) ?_
  refine z_putF (ty := .int) C0 zt_x0 tyX0 tyX0_ok nmX0 hK hP hD hS hname 0 rfl rfl 1 (by decide) fl_X0_22 rfl rfl (by decide +kernel) rfl rfl (Nat.le_of_ble_eq_true rfl) dX0_init_48 (fun H locs hP hD hS => ?_)
  have hP : va_P D classes [(h0, .inr (0, [.int (nI w), .int (nI n), .null, .null, .null, .null, .null, .int 0, .int 0, .int 0, .int 0, .int 0, .int 0, .int 0, .null]))] H := hP
  have hD : va_D A [(h0, .inr (0, [.int (nI w), .int (nI n), .null, .null, .null, .null, .null, .int 0, .int 0, .int 0, .int 0, .int 0, .int 0, .int 0, .null]))] := hD
  refine lv_aload_n hx hb dX0_init_51 rfl (lv_at hl 2 rfl) ?_
  refine lv_aload_n hx hb dX0_init_52 rfl (lv_at hl 2 rfl) ?_
  refine z_get C0 zt_x0 hK hP 0 rfl rfl 1 (by decide) fl_X0_22 rfl dX0_init_53 ?_
  refine z_newi (n := n) C0 zk_ai hK hP hD hS hA (by omega) (show 0 + 1 ≤ 6 by decide) (show 0 + n ≤ 10261 by omega) dX0_init_56 (fun q1 e1 H hK hP hD hS => ?_)
  have hP : va_P D classes [(h0, .inr (0, [.int (nI w), .int (nI n), .null, .null, .null, .null, .null, .int 0, .int 0, .int 0, .int 0, .int 0, .int 0, .int 0, .null])), (q1, .inl (e1, n, .inl (fun _ => 0)))] H := hP
  have hD : va_D A [(h0, .inr (0, [.int (nI w), .int (nI n), .null, .null, .null, .null, .null, .int 0, .int 0, .int 0, .int 0, .int 0, .int 0, .int 0, .null])), (q1, .inl (e1, n, .inl (fun _ => 0)))] := hD
  have hK : va_K D classes [(e1, .int)] s := hK
  refine W.widen (k := 1) (n := 2064) (by omega) (by omega) ?_
  refine z_putF (ty := .array .int) C0 zt_x0 tyX0 tyX0_ok nmX0 hK hP hD hS hname 0 rfl rfl 2 (by decide) fl_X0_25 rfl rfl (by decide +kernel) rfl rfl (Nat.le_of_ble_eq_true rfl) dX0_init_58 (fun H locs hP hD hS => ?_)
  have hP : va_P D classes [(h0, .inr (0, [.int (nI w), .int (nI n), .ref q1, .null, .null, .null, .null, .int 0, .int 0, .int 0, .int 0, .int 0, .int 0, .int 0, .null])), (q1, .inl (e1, n, .inl (fun _ => 0)))] H := hP
  have hD : va_D A [(h0, .inr (0, [.int (nI w), .int (nI n), .ref q1, .null, .null, .null, .null, .int 0, .int 0, .int 0, .int 0, .int 0, .int 0, .int 0, .null])), (q1, .inl (e1, n, .inl (fun _ => 0)))] := hD
  refine lv_aload_n hx hb dX0_init_61 rfl (lv_at hl 2 rfl) ?_
  refine lv_aload_n hx hb dX0_init_62 rfl (lv_at hl 2 rfl) ?_
  refine z_get C0 zt_x0 hK hP 0 rfl rfl 1 (by decide) fl_X0_22 rfl dX0_init_63 ?_
  refine z_newi (n := n) C0 zk_ai hK hP hD hS hA (by omega) (show 1 + 1 ≤ 6 by decide) (show 2064 + n ≤ 10261 by omega) dX0_init_66 (fun q2 e2 H hK hP hD hS => ?_)
  have hP : va_P D classes [(h0, .inr (0, [.int (nI w), .int (nI n), .ref q1, .null, .null, .null, .null, .int 0, .int 0, .int 0, .int 0, .int 0, .int 0, .int 0, .null])), (q1, .inl (e1, n, .inl (fun _ => 0))), (q2, .inl (e2, n, .inl (fun _ => 0)))] H := hP
  have hD : va_D A [(h0, .inr (0, [.int (nI w), .int (nI n), .ref q1, .null, .null, .null, .null, .int 0, .int 0, .int 0, .int 0, .int 0, .int 0, .int 0, .null])), (q1, .inl (e1, n, .inl (fun _ => 0))), (q2, .inl (e2, n, .inl (fun _ => 0)))] := hD
  have hK : va_K D classes [(e1, .int), (e2, .int)] s := hK
  refine W.widen (k := 2) (n := 4128) (by omega) (by omega) ?_
  refine z_putF (ty := .array .int) C0 zt_x0 tyX0 tyX0_ok nmX0 hK hP hD hS hname 0 rfl rfl 3 (by decide) fl_X0_29 rfl rfl (by decide +kernel) rfl rfl (Nat.le_of_ble_eq_true rfl) dX0_init_68 (fun H locs hP hD hS => ?_)
  have hP : va_P D classes [(h0, .inr (0, [.int (nI w), .int (nI n), .ref q1, .ref q2, .null, .null, .null, .int 0, .int 0, .int 0, .int 0, .int 0, .int 0, .int 0, .null])), (q1, .inl (e1, n, .inl (fun _ => 0))), (q2, .inl (e2, n, .inl (fun _ => 0)))] H := hP
  have hD : va_D A [(h0, .inr (0, [.int (nI w), .int (nI n), .ref q1, .ref q2, .null, .null, .null, .int 0, .int 0, .int 0, .int 0, .int 0, .int 0, .int 0, .null])), (q1, .inl (e1, n, .inl (fun _ => 0))), (q2, .inl (e2, n, .inl (fun _ => 0)))] := hD
  refine lv_aload_n hx hb dX0_init_71 rfl (lv_at hl 2 rfl) ?_
  refine lv_aload_n hx hb dX0_init_72 rfl (lv_at hl 2 rfl) ?_
  refine z_get C0 zt_x0 hK hP 0 rfl rfl 1 (by decide) fl_X0_22 rfl dX0_init_73 ?_
  refine z_newi (n := n) C0 zk_ai hK hP hD hS hA (by omega) (show 2 + 1 ≤ 6 by decide) (show 4128 + n ≤ 10261 by omega) dX0_init_76 (fun q3 e3 H hK hP hD hS => ?_)
  have hP : va_P D classes [(h0, .inr (0, [.int (nI w), .int (nI n), .ref q1, .ref q2, .null, .null, .null, .int 0, .int 0, .int 0, .int 0, .int 0, .int 0, .int 0, .null])), (q1, .inl (e1, n, .inl (fun _ => 0))), (q2, .inl (e2, n, .inl (fun _ => 0))), (q3, .inl (e3, n, .inl (fun _ => 0)))] H := hP
  have hD : va_D A [(h0, .inr (0, [.int (nI w), .int (nI n), .ref q1, .ref q2, .null, .null, .null, .int 0, .int 0, .int 0, .int 0, .int 0, .int 0, .int 0, .null])), (q1, .inl (e1, n, .inl (fun _ => 0))), (q2, .inl (e2, n, .inl (fun _ => 0))), (q3, .inl (e3, n, .inl (fun _ => 0)))] := hD
  have hK : va_K D classes [(e1, .int), (e2, .int), (e3, .int)] s := hK
  refine W.widen (k := 3) (n := 6192) (by omega) (by omega) ?_
  refine z_putF (ty := .array .int) C0 zt_x0 tyX0 tyX0_ok nmX0 hK hP hD hS hname 0 rfl rfl 4 (by decide) fl_X0_32 rfl rfl (by decide +kernel) rfl rfl (Nat.le_of_ble_eq_true rfl) dX0_init_78 (fun H locs hP hD hS => ?_)
  have hP : va_P D classes [(h0, .inr (0, [.int (nI w), .int (nI n), .ref q1, .ref q2, .ref q3, .null, .null, .int 0, .int 0, .int 0, .int 0, .int 0, .int 0, .int 0, .null])), (q1, .inl (e1, n, .inl (fun _ => 0))), (q2, .inl (e2, n, .inl (fun _ => 0))), (q3, .inl (e3, n, .inl (fun _ => 0)))] H := hP
  have hD : va_D A [(h0, .inr (0, [.int (nI w), .int (nI n), .ref q1, .ref q2, .ref q3, .null, .null, .int 0, .int 0, .int 0, .int 0, .int 0, .int 0, .int 0, .null])), (q1, .inl (e1, n, .inl (fun _ => 0))), (q2, .inl (e2, n, .inl (fun _ => 0))), (q3, .inl (e3, n, .inl (fun _ => 0)))] := hD
  refine lv_aload_n hx hb dX0_init_81 rfl (lv_at hl 2 rfl) ?_
  refine lv_aload_n hx hb dX0_init_82 rfl (lv_at hl 2 rfl) ?_
  refine z_get C0 zt_x0 hK hP 0 rfl rfl 1 (by decide) fl_X0_22 rfl dX0_init_83 ?_
  refine z_newi (n := n) C0 zk_ai hK hP hD hS hA (by omega) (show 3 + 1 ≤ 6 by decide) (show 6192 + n ≤ 10261 by omega) dX0_init_86 (fun q4 e4 H hK hP hD hS => ?_)
  have hP : va_P D classes [(h0, .inr (0, [.int (nI w), .int (nI n), .ref q1, .ref q2, .ref q3, .null, .null, .int 0, .int 0, .int 0, .int 0, .int 0, .int 0, .int 0, .null])), (q1, .inl (e1, n, .inl (fun _ => 0))), (q2, .inl (e2, n, .inl (fun _ => 0))), (q3, .inl (e3, n, .inl (fun _ => 0))), (q4, .inl (e4, n, .inl (fun _ => 0)))] H := hP
  have hD : va_D A [(h0, .inr (0, [.int (nI w), .int (nI n), .ref q1, .ref q2, .ref q3, .null, .null, .int 0, .int 0, .int 0, .int 0, .int 0, .int 0, .int 0, .null])), (q1, .inl (e1, n, .inl (fun _ => 0))), (q2, .inl (e2, n, .inl (fun _ => 0))), (q3, .inl (e3, n, .inl (fun _ => 0))), (q4, .inl (e4, n, .inl (fun _ => 0)))] := hD
  have hK : va_K D classes [(e1, .int), (e2, .int), (e3, .int), (e4, .int)] s := hK
  refine W.widen (k := 4) (n := 8256) (by omega) (by omega) ?_
  refine z_putF (ty := .array .int) C0 zt_x0 tyX0 tyX0_ok nmX0 hK hP hD hS hname 0 rfl rfl 5 (by decide) fl_X0_35 rfl rfl (by decide +kernel) rfl rfl (Nat.le_of_ble_eq_true rfl) dX0_init_88 (fun H locs hP hD hS => ?_)
  have hP : va_P D classes [(h0, .inr (0, [.int (nI w), .int (nI n), .ref q1, .ref q2, .ref q3, .ref q4, .null, .int 0, .int 0, .int 0, .int 0, .int 0, .int 0, .int 0, .null])), (q1, .inl (e1, n, .inl (fun _ => 0))), (q2, .inl (e2, n, .inl (fun _ => 0))), (q3, .inl (e3, n, .inl (fun _ => 0))), (q4, .inl (e4, n, .inl (fun _ => 0)))] H := hP
  have hD : va_D A [(h0, .inr (0, [.int (nI w), .int (nI n), .ref q1, .ref q2, .ref q3, .ref q4, .null, .int 0, .int 0, .int 0, .int 0, .int 0, .int 0, .int 0, .null])), (q1, .inl (e1, n, .inl (fun _ => 0))), (q2, .inl (e2, n, .inl (fun _ => 0))), (q3, .inl (e3, n, .inl (fun _ => 0))), (q4, .inl (e4, n, .inl (fun _ => 0)))] := hD
  refine lv_aload_n hx hb dX0_init_91 rfl (lv_at hl 2 rfl) ?_
  refine lv_iload hx hb dX0_init_92 (lv_at hl 0 rfl) ?_
  refine z_newi (n := nr) C0 zk_ai hK hP hD hS hA (by omega) (show 4 + 1 ≤ 6 by decide) (show 8256 + nr ≤ 10261 by omega) dX0_init_94 (fun q5 e5 H hK hP hD hS => ?_)
  have hP : va_P D classes [(h0, .inr (0, [.int (nI w), .int (nI n), .ref q1, .ref q2, .ref q3, .ref q4, .null, .int 0, .int 0, .int 0, .int 0, .int 0, .int 0, .int 0, .null])), (q1, .inl (e1, n, .inl (fun _ => 0))), (q2, .inl (e2, n, .inl (fun _ => 0))), (q3, .inl (e3, n, .inl (fun _ => 0))), (q4, .inl (e4, n, .inl (fun _ => 0))), (q5, .inl (e5, nr, .inl (fun _ => 0)))] H := hP
  have hD : va_D A [(h0, .inr (0, [.int (nI w), .int (nI n), .ref q1, .ref q2, .ref q3, .ref q4, .null, .int 0, .int 0, .int 0, .int 0, .int 0, .int 0, .int 0, .null])), (q1, .inl (e1, n, .inl (fun _ => 0))), (q2, .inl (e2, n, .inl (fun _ => 0))), (q3, .inl (e3, n, .inl (fun _ => 0))), (q4, .inl (e4, n, .inl (fun _ => 0))), (q5, .inl (e5, nr, .inl (fun _ => 0)))] := hD
  have hK : va_K D classes [(e1, .int), (e2, .int), (e3, .int), (e4, .int), (e5, .int)] s := hK
  refine W.widen (k := 5) (n := 10257) (by omega) (by omega) ?_
  refine z_putF (ty := .array .int) C0 zt_x0 tyX0 tyX0_ok nmX0 hK hP hD hS hname 0 rfl rfl 6 (by decide) fl_X0_38 rfl rfl (by decide +kernel) rfl rfl (Nat.le_of_ble_eq_true rfl) dX0_init_96 (fun H locs hP hD hS => ?_)
  have hP : va_P D classes [(h0, .inr (0, [.int (nI w), .int (nI n), .ref q1, .ref q2, .ref q3, .ref q4, .ref q5, .int 0, .int 0, .int 0, .int 0, .int 0, .int 0, .int 0, .null])), (q1, .inl (e1, n, .inl (fun _ => 0))), (q2, .inl (e2, n, .inl (fun _ => 0))), (q3, .inl (e3, n, .inl (fun _ => 0))), (q4, .inl (e4, n, .inl (fun _ => 0))), (q5, .inl (e5, nr, .inl (fun _ => 0)))] H := hP
  have hD : va_D A [(h0, .inr (0, [.int (nI w), .int (nI n), .ref q1, .ref q2, .ref q3, .ref q4, .ref q5, .int 0, .int 0, .int 0, .int 0, .int 0, .int 0, .int 0, .null])), (q1, .inl (e1, n, .inl (fun _ => 0))), (q2, .inl (e2, n, .inl (fun _ => 0))), (q3, .inl (e3, n, .inl (fun _ => 0))), (q4, .inl (e4, n, .inl (fun _ => 0))), (q5, .inl (e5, nr, .inl (fun _ => 0)))] := hD
  refine lv_aload_n hx hb dX0_init_99 rfl (lv_at hl 2 rfl) ?_
  refine lv_iconst (v := 4) hx hb dX0_init_100 (by decide) ?_
  refine z_eq (show (4) = nI 4 from rfl) ?_
  refine z_newi (n := 4) C0 zk_ai hK hP hD hS hA (by omega) (show 5 + 1 ≤ 6 by decide) (show 10257 + 4 ≤ 10261 by omega) dX0_init_101 (fun q6 e6 H hK hP hD hS => ?_)
  have hP : va_P D classes [(h0, .inr (0, [.int (nI w), .int (nI n), .ref q1, .ref q2, .ref q3, .ref q4, .ref q5, .int 0, .int 0, .int 0, .int 0, .int 0, .int 0, .int 0, .null])), (q1, .inl (e1, n, .inl (fun _ => 0))), (q2, .inl (e2, n, .inl (fun _ => 0))), (q3, .inl (e3, n, .inl (fun _ => 0))), (q4, .inl (e4, n, .inl (fun _ => 0))), (q5, .inl (e5, nr, .inl (fun _ => 0))), (q6, .inl (e6, 4, .inl (fun _ => 0)))] H := hP
  have hD : va_D A [(h0, .inr (0, [.int (nI w), .int (nI n), .ref q1, .ref q2, .ref q3, .ref q4, .ref q5, .int 0, .int 0, .int 0, .int 0, .int 0, .int 0, .int 0, .null])), (q1, .inl (e1, n, .inl (fun _ => 0))), (q2, .inl (e2, n, .inl (fun _ => 0))), (q3, .inl (e3, n, .inl (fun _ => 0))), (q4, .inl (e4, n, .inl (fun _ => 0))), (q5, .inl (e5, nr, .inl (fun _ => 0))), (q6, .inl (e6, 4, .inl (fun _ => 0)))] := hD
  have hK : va_K D classes [(e1, .int), (e2, .int), (e3, .int), (e4, .int), (e5, .int), (e6, .int)] s := hK
  refine W.widen (k := 6) (n := 10261) (by omega) (by omega) ?_
  refine z_putF (ty := .array .int) C0 zt_x0 tyX0 tyX0_ok nmX0 hK hP hD hS hname 0 rfl rfl 14 (by decide) fl_X0_41 rfl rfl (by decide +kernel) rfl rfl (Nat.le_of_ble_eq_true rfl) dX0_init_103 (fun H locs hP hD hS => ?_)
  have hP : va_P D classes [(h0, .inr (0, [.int (nI w), .int (nI n), .ref q1, .ref q2, .ref q3, .ref q4, .ref q5, .int 0, .int 0, .int 0, .int 0, .int 0, .int 0, .int 0, .ref q6])), (q1, .inl (e1, n, .inl (fun _ => 0))), (q2, .inl (e2, n, .inl (fun _ => 0))), (q3, .inl (e3, n, .inl (fun _ => 0))), (q4, .inl (e4, n, .inl (fun _ => 0))), (q5, .inl (e5, nr, .inl (fun _ => 0))), (q6, .inl (e6, 4, .inl (fun _ => 0)))] H := hP
  have hD : va_D A [(h0, .inr (0, [.int (nI w), .int (nI n), .ref q1, .ref q2, .ref q3, .ref q4, .ref q5, .int 0, .int 0, .int 0, .int 0, .int 0, .int 0, .int 0, .ref q6])), (q1, .inl (e1, n, .inl (fun _ => 0))), (q2, .inl (e2, n, .inl (fun _ => 0))), (q3, .inl (e3, n, .inl (fun _ => 0))), (q4, .inl (e4, n, .inl (fun _ => 0))), (q5, .inl (e5, nr, .inl (fun _ => 0))), (q6, .inl (e6, 4, .inl (fun _ => 0)))] := hD
  exact hret ((fun k => match k with | 0 => h0 | 1 => q1 | 2 => q2 | 3 => q3 | 4 => q4 | 5 => q5 | _ => q6, fun k => match k with | 1 => e1 | 2 => e2 | 3 => e3 | 4 => e4 | 5 => e5 | _ => e6)) _ _ _ _ hK hP hD hS (rfl) dX0_init_106
