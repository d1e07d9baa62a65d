set_option maxHeartbeats 8000000 in
set_option maxRecDepth 100000 in
theorem law_9 {p : Program} {l : Launch} {e : Env} {s : State} {m : MethodId} {below : List Frame} {meth : Method} {c : Code} {b L : Nat} {xs : Nat → Int32} {D : va_G} {ad : Nat → Nat} {cs : Nat → ClassId} {bd : Nat → Nat} {cr : Nat → ClassId} {oa : Nat} {oc : ClassId} {w n nr i : Nat} (hC : LC p s m c b L xs D cs cr oc) (hl9 : l.stackTraces = false) (hi : i + 5 ≤ L) (hL : L ≤ 2562) (hz : lS w n nr) (hB : LB p l e s m below meth c b D ad cs bd cr oa oc w n nr i) (K V O M RL G OM LF : Nat → Int32) (f r c0 : Nat) (se op ck cv th held cur nk nv gc gu gl gm : Int32) (g : Nat → Int64) (H : Heap) (locs : List Loc) (ls : Array Slot) (hI : li w n K O RL G OM f r c0 se op ck cv held cur nk nv gc gu gl gm) (hP : va_P D classes (lwd ad cs bd cr oa oc w n nr K V O M RL G OM LF f r c0 se op ck cv th held cur nk nv gc gu gl gm g) H) (hD : va_D (fun q => s.heap.size ≤ q) (lwd ad cs bd cr oa oc w n nr K V O M RL G OM LF f r c0 se op ck cv th held cur nk nv gc gu gl gm g)) (hS : va_S (fun q => s.heap.size ≤ q) s.heap H locs) (hl : lv_has ls 7 [(0, .ref b), (1, .ref (ad 0)), (2, .ref (bd 0)), (3, .ref oa), (4, .int (nI i))]) : W p l e room_1 s m #[Value.ref b] below meth c H locs (14 + i) (20000 + 6 * i) (lw_Z below #[Value.ref b] s) (F0 m 346 ls []) := by
  obtain ⟨C0, hX, hbl, hK, hxh⟩ := hC
  have hx := C0.1
  have hb := C0.2.1
  have hbA : ¬ (fun q => s.heap.size ≤ q) b := Nat.not_le.mpr hbl
  have hA : ∀ q, s.heap.size ≤ q → (fun q => s.heap.size ≤ q) q := fun _ h => h
  have hKx : va_K D classes (xt cs) s := hK.sub [1, 2, 3, 4, 5, 6] rfl
  have hKm : va_K D classes (mt cr) s := hK.sub [7, 8, 9, 10] rfl
  have hKh : va_K D classes ((oc, .long) :: xt cs) s := hK.sub [0, 1, 2, 3, 4, 5, 6] rfl
  obtain ⟨z1, z2, z3, z4, z5⟩ := id hz
  obtain ⟨l1, l2, l3, l4, l5, l6⟩ := hI
  subst l4
  by_cases hbad : xs (i + 1) < 0 ∨ ¬ xs (i + 1) < 4
  · have hP : va_P D classes ((ow oa oc g) :: ((xw ad cs w n nr K V O M RL G (nI f) (nI r) se (nI c0) op ck cv) ++ (mw bd cr w n K V OM LF th (nI f) (nI r) (nI (f - r * w)) se (nI c0) cur nk nv gc gu gl gm))) H := hP
    have hD : va_D (fun q => s.heap.size ≤ q) ((ow oa oc g) :: ((xw ad cs w n nr K V O M RL G (nI f) (nI r) se (nI c0) op ck cv) ++ (mw bd cr w n K V OM LF th (nI f) (nI r) (nI (f - r * w)) se (nI c0) cur nk nv gc gu gl gm))) := hD
    refine lv_aload_n hx hb dL_law_346 rfl (lv_at hl 1 rfl) ?_
    refine lv_aload_n hx hb dL_law_347 rfl (lv_at hl 0 rfl) ?_
    refine lv_iload hx hb dL_law_348 (lv_at hl 4 rfl) ?_
    refine lv_iconst (v := 1) hx hb dL_law_350 (by decide) ?_
    refine lv_iadd hx hb dL_law_351 ?_
    refine z_eq (show nI i + 1 = nI (i + 1) from nI_add i 1) ?_
    refine z_sld (j := (i + 1)) C0 hX hbl hbA hS (by omega) (by omega) dL_law_352 ?_
    refine lv_aload_n hx hb dL_law_353 rfl (lv_at hl 3 rfl) ?_
    refine zl_callX (As := [.ref (ad 0), .int (xs (i + 1)), .ref oa]) (rest := []) [] (mw bd cr w n K V OM LF th (nI f) (nI r) (nI (f - r * w)) se (nI c0) cur nk nv gc gu gl gm) C0 (l_group_x l D (ad 0) oa oc (xt cs) g (xw ad cs w n nr K V O M RL G (nI f) (nI r) se (nI c0) op ck cv) _ rfl (xs (i + 1)) hl9 hbad) zw_group ⟨by decide, by decide⟩ ⟨rfl, rfl⟩ rfl hKh hP hD hS hA (fun q h => h) hxh hl.1 rfl (Nat.le_of_ble_eq_true rfl) dL_law_354 ⟨show 14 + i + 1 ≤ 601024 by omega, show 20000 + 6 * i + 6 ≤ 7293000 by omega⟩ (fun H locs hP hS => ?_)
    have hP : va_P D classes ((ow oa oc g) :: ((xw ad cs w n nr K V O M RL G (nI f) (nI r) se (nI c0) op ck cv) ++ (mw bd cr w n K V OM LF th (nI f) (nI r) (nI (f - r * w)) se (nI c0) cur nk nv gc gu gl gm))) H := hP
    have hD : va_D (fun q => s.heap.size ≤ q) ((ow oa oc g) :: ((xw ad cs w n nr K V O M RL G (nI f) (nI r) se (nI c0) op ck cv) ++ (mw bd cr w n K V OM LF th (nI f) (nI r) (nI (f - r * w)) se (nI c0) cur nk nv gc gu gl gm))) := hD
    refine W.widen (k := 15 + i) (n := 20006 + 6 * i) (by omega) (by omega) ?_
    refine lv_istore (lv' := [(5, .int 1), (0, .ref b), (1, .ref (ad 0)), (2, .ref (bd 0)), (3, .ref oa), (4, .int (nI i))]) hx hb dL_law_357 hl (by decide) rfl (fun ls hl => ?_)
    refine lv_aload_n hx hb dL_law_359 rfl (lv_at hl 3 rfl) ?_
    refine lv_aload_n hx hb dL_law_360 rfl (lv_at hl 1 rfl) ?_
    refine lv_iload hx hb dL_law_361 (lv_at hl 5 rfl) ?_
    refine lv_iconst (v := 1) hx hb dL_law_363 (by decide) ?_
    refine lv_iadd hx hb dL_law_364 ?_
    refine z_eq (show nI i + 1 = nI (i + 1) from nI_add i 1) ?_
    refine z_sld (j := (i + 1)) C0 hX hbl hbA hS (by omega) (by omega) dL_law_365 ?_
    refine zi_callV (As := [.int (xs (i + 1))]) (rest := []) (q0 := 0) (ci := 1) ((ow oa oc g) :: (xw ad cs w n nr K V O M RL G (nI f) (nI r) se (nI c0) op ck cv)) [] C0 (m_group_x l D bd cr w n K V OM LF th (nI f) (nI r) (nI (f - r * w)) se (nI c0) cur nk nv gc gu gl gm (xs (i + 1)) (hbad.imp id w43)) zv_L_X1_group ⟨by decide, by decide⟩ ⟨rfl, rfl⟩ rfl hKm hP hD hS hA rfl rfl rfl hl.1 rfl (Nat.le_of_ble_eq_true rfl) dL_law_366 ⟨show 15 + i ≤ 601024 by omega, show 20006 + 6 * i ≤ 7293000 by omega⟩ (fun v2 _ H locs h2 hP hD hS => ?_)
    have hP : va_P D classes ((ow oa oc g) :: ((xw ad cs w n nr K V O M RL G (nI f) (nI r) se (nI c0) op ck cv) ++ (mw bd cr w n K V OM LF 1 (nI f) (nI r) (nI (f - r * w)) se (nI c0) cur nk nv gc gu gl gm))) H := hP
    have hD : va_D (fun q => s.heap.size ≤ q) ((ow oa oc g) :: ((xw ad cs w n nr K V O M RL G (nI f) (nI r) se (nI c0) op ck cv) ++ (mw bd cr w n K V OM LF 1 (nI f) (nI r) (nI (f - r * w)) se (nI c0) cur nk nv gc gu gl gm))) := hD
    refine lv_istore (lv' := [(6, .int v2), (5, .int 1), (0, .ref b), (1, .ref (ad 0)), (2, .ref (bd 0)), (3, .ref oa), (4, .int (nI i))]) hx hb dL_law_369 hl (by decide) rfl (fun ls hl => ?_)
    refine lv_aload_n hx hb dL_law_371 rfl (lv_at hl 4 rfl) ?_
    refine zr_callV (As := []) (rest := []) (q0 := 0) (ci := 1) (A := fun q => s.heap.size ≤ q) C0 (m_thrown l D bd cr w n K V OM LF 1 (nI f) (nI r) (nI (f - r * w)) se (nI c0) cur nk nv gc gu gl gm) zv_L_X1_thrown ⟨by decide, by decide⟩ ⟨rfl, rfl⟩ rfl hKm (z_subP (w1 := ((ow oa oc g) :: (xw ad cs w n nr K V O M RL G (nI f) (nI r) se (nI c0) op ck cv))) (w2 := []) hP) (z_subD (w1 := ((ow oa oc g) :: (xw ad cs w n nr K V O M RL G (nI f) (nI r) se (nI c0) op ck cv))) (w2 := []) hD) rfl rfl rfl hl.1 rfl (Nat.le_of_ble_eq_true rfl) dL_law_372 ⟨show 15 + i ≤ 601024 by omega, show 20006 + 6 * i ≤ 7293000 by omega⟩ (fun v3 h3 => ?_)
    subst h3
    refine lv_iload hx hb dL_law_375 (lv_at hl 1 rfl) ?_
    refine lv_icmp_eq (tgt := 382) hx hb dL_law_377 (by decide) (fun _ => ?_) (fun hne => absurd (rfl) hne)
    refine lv_iload hx hb dL_law_382 (lv_at hl 1 rfl) ?_
    refine lv_if_ne (tgt := 399) hx hb dL_law_384 (by decide) (fun _ => ?_) (fun hne => absurd hne (by decide))
    refine lv_goto (tgt := 458) hx hb dL_law_399 (by decide) ?_
    refine W.widen (k := 15 + i) (n := 20006 + 6 * i) (by omega) (by omega) ?_
    exact hB K V O M RL G OM LF f r c0 se op ck cv 1 (nI (f - r * w)) cur nk nv gc gu gl gm g _ _ _ (⟨l1, l2, l3, rfl, l5, l6⟩) hP hD hS (lv_sub hl [2, 3, 4, 5, 6] rfl)
  · obtain ⟨j, hj3, hj4⟩ : ∃ j : Nat, j ≤ 3 ∧ xs (i + 1) = nI j := nI_of2 (M := 3) (by decide) (fun z => hbad (Or.inl z)) (w34 (Classical.not_not.mp (fun z => hbad (Or.inr z))))
    have hP : va_P D classes ((ow oa oc g) :: ((xw ad cs w n nr K V O M RL G (nI f) (nI r) se (nI c0) op ck cv) ++ (mw bd cr w n K V OM LF th (nI f) (nI r) (nI (f - r * w)) se (nI c0) cur nk nv gc gu gl gm))) H := hP
    have hD : va_D (fun q => s.heap.size ≤ q) ((ow oa oc g) :: ((xw ad cs w n nr K V O M RL G (nI f) (nI r) se (nI c0) op ck cv) ++ (mw bd cr w n K V OM LF th (nI f) (nI r) (nI (f - r * w)) se (nI c0) cur nk nv gc gu gl gm))) := hD
    refine lv_aload_n hx hb dL_law_346 rfl (lv_at hl 1 rfl) ?_
    refine lv_aload_n hx hb dL_law_347 rfl (lv_at hl 0 rfl) ?_
    refine lv_iload hx hb dL_law_348 (lv_at hl 4 rfl) ?_
    refine lv_iconst (v := 1) hx hb dL_law_350 (by decide) ?_
    refine lv_iadd hx hb dL_law_351 ?_
    refine z_eq (show nI i + 1 = nI (i + 1) from nI_add i 1) ?_
    refine z_sld (j := (i + 1)) C0 hX hbl hbA hS (by omega) (by omega) dL_law_352 ?_
    refine z_eq (show (xs (i + 1)) = nI j from hj4) ?_
    refine lv_aload_n hx hb dL_law_353 rfl (lv_at hl 3 rfl) ?_
    refine zl_call (As := [.ref (ad 0), .int (nI j), .ref oa]) (rest := []) [] (mw bd cr w n K V OM LF th (nI f) (nI r) (nI (f - r * w)) se (nI c0) cur nk nv gc gu gl gm) C0 (l_group_k l D (ad 0) oa oc (xt cs) g (xw ad cs w n nr K V O M RL G (nI f) (nI r) se (nI c0) op ck cv) _ rfl (nI j) (c_group l D ad cs w n nr (by omega) (by omega) K V O M RL G (nI f) (nI r) se (nI c0) op ck cv (nI j) (nI_pos (by omega)) (nI_lt (b := 4) (by omega) (by decide)))) zw_group ⟨by decide, by decide⟩ ⟨rfl, rfl⟩ rfl hKh hP hD hS hA hl.1 rfl (Nat.le_of_ble_eq_true rfl) dL_law_354 ⟨show 14 + i ≤ 601024 by omega, show 20000 + 6 * i ≤ 7293000 by omega⟩ (fun v1 g1 H locs h1 hP hD hS => ?_)
    obtain ⟨a1, v, a2, a3⟩ := h1
    subst a1
    have hP : va_P D classes ((ow oa oc g1) :: ((xw ad cs w n nr K V O M RL G (nI f) (nI r) se (nI c0) op ck cv) ++ (mw bd cr w n K V OM LF th (nI f) (nI r) (nI (f - r * w)) se (nI c0) cur nk nv gc gu gl gm))) H := hP
    have hD : va_D (fun q => s.heap.size ≤ q) ((ow oa oc g1) :: ((xw ad cs w n nr K V O M RL G (nI f) (nI r) se (nI c0) op ck cv) ++ (mw bd cr w n K V OM LF th (nI f) (nI r) (nI (f - r * w)) se (nI c0) cur nk nv gc gu gl gm))) := hD
    refine lv_istore (lv' := [(5, .int 0), (0, .ref b), (1, .ref (ad 0)), (2, .ref (bd 0)), (3, .ref oa), (4, .int (nI i))]) hx hb dL_law_357 hl (by decide) rfl (fun ls hl => ?_)
    refine lv_aload_n hx hb dL_law_359 rfl (lv_at hl 3 rfl) ?_
    refine lv_aload_n hx hb dL_law_360 rfl (lv_at hl 1 rfl) ?_
    refine lv_iload hx hb dL_law_361 (lv_at hl 5 rfl) ?_
    refine lv_iconst (v := 1) hx hb dL_law_363 (by decide) ?_
    refine lv_iadd hx hb dL_law_364 ?_
    refine z_eq (show nI i + 1 = nI (i + 1) from nI_add i 1) ?_
    refine z_sld (j := (i + 1)) C0 hX hbl hbA hS (by omega) (by omega) dL_law_365 ?_
    refine z_eq (show (xs (i + 1)) = nI j from hj4) ?_
    refine zi_callV (As := [.int (nI j)]) (rest := []) (q0 := 0) (ci := 1) ((ow oa oc g1) :: (xw ad cs w n nr K V O M RL G (nI f) (nI r) se (nI c0) op ck cv)) [] C0 (m_group l D bd cr w n K V OM LF th (nI f) (nI r) (nI (f - r * w)) se (nI c0) cur nk nv gc gu gl gm (nI j) (nI_pos (by omega)) (nI_le (b := 3) hj3 (by decide))) zv_L_X1_group ⟨by decide, by decide⟩ ⟨rfl, rfl⟩ rfl hKm hP hD hS hA rfl rfl rfl hl.1 rfl (Nat.le_of_ble_eq_true rfl) dL_law_366 ⟨show 14 + i ≤ 601024 by omega, show 20000 + 6 * i ≤ 7293000 by omega⟩ (fun v2 _ H locs h2 hP hD hS => ?_)
    have hP : va_P D classes ((ow oa oc g1) :: ((xw ad cs w n nr K V O M RL G (nI f) (nI r) se (nI c0) op ck cv) ++ (mw bd cr w n K V OM LF 0 (nI f) (nI r) (nI (f - r * w)) se (nI c0) cur nk nv gc gu gl gm))) H := hP
    have hD : va_D (fun q => s.heap.size ≤ q) ((ow oa oc g1) :: ((xw ad cs w n nr K V O M RL G (nI f) (nI r) se (nI c0) op ck cv) ++ (mw bd cr w n K V OM LF 0 (nI f) (nI r) (nI (f - r * w)) se (nI c0) cur nk nv gc gu gl gm))) := hD
    refine lv_istore (lv' := [(6, .int v2), (5, .int 0), (0, .ref b), (1, .ref (ad 0)), (2, .ref (bd 0)), (3, .ref oa), (4, .int (nI i))]) hx hb dL_law_369 hl (by decide) rfl (fun ls hl => ?_)
    refine lv_aload_n hx hb dL_law_371 rfl (lv_at hl 4 rfl) ?_
    refine zr_callV (As := []) (rest := []) (q0 := 0) (ci := 1) (A := fun q => s.heap.size ≤ q) C0 (m_thrown l D bd cr w n K V OM LF 0 (nI f) (nI r) (nI (f - r * w)) se (nI c0) cur nk nv gc gu gl gm) zv_L_X1_thrown ⟨by decide, by decide⟩ ⟨rfl, rfl⟩ rfl hKm (z_subP (w1 := ((ow oa oc g1) :: (xw ad cs w n nr K V O M RL G (nI f) (nI r) se (nI c0) op ck cv))) (w2 := []) hP) (z_subD (w1 := ((ow oa oc g1) :: (xw ad cs w n nr K V O M RL G (nI f) (nI r) se (nI c0) op ck cv))) (w2 := []) hD) rfl rfl rfl hl.1 rfl (Nat.le_of_ble_eq_true rfl) dL_law_372 ⟨show 14 + i ≤ 601024 by omega, show 20000 + 6 * i ≤ 7293000 by omega⟩ (fun v3 h3 => ?_)
    subst h3
    refine lv_iload hx hb dL_law_375 (lv_at hl 1 rfl) ?_
    refine lv_icmp_eq (tgt := 382) hx hb dL_law_377 (by decide) (fun _ => ?_) (fun hne => absurd (rfl) hne)
    refine lv_iload hx hb dL_law_382 (lv_at hl 1 rfl) ?_
    refine lv_if_ne (tgt := 399) hx hb dL_law_384 (by decide) (fun hne => absurd rfl hne) (fun _ => ?_)
    refine lv_aload_n hx hb dL_law_387 rfl (lv_at hl 5 rfl) ?_
    refine lv_iconst (v := 0) hx hb dL_law_388 (by decide) ?_
    refine va_lald hx hb hK hP 0 0 rfl rfl (vp_in_nI (n := 0) (N := 1) (by decide) (by decide)) dL_law_389 ?_
    refine lv_iload hx hb dL_law_390 (lv_at hl 0 rfl) ?_
    refine lv_i2l (v := v2.toInt64) hx hb dL_law_392 rfl ?_
    refine W.lcmp hx hb dL_law_393 ?_
    refine z_eq (show lg_cmp (g1 (0 : Int32).toNatClampNeg) v2.toInt64 = 0 from cmp_eq (by rw [sb_cl0, a3, a2, h2, za_at (by omega) (by decide)]; exact congrArg Int32.toInt64 (lC_group l5 hj3))) ?_
    refine lv_if_eq (tgt := 399) hx hb dL_law_394 (by decide) (fun _ => ?_) (fun hne => absurd rfl hne)
    refine lv_goto (tgt := 458) hx hb dL_law_399 (by decide) ?_
    refine W.widen (k := 15 + i) (n := 20006 + 6 * i) (by omega) (by omega) ?_
    exact hB K V O M RL G OM LF f r c0 se op ck cv 0 (nI (f - r * w)) cur nk nv gc gu gl gm g1 _ _ _ (⟨l1, l2, l3, rfl, l5, l6⟩) hP hD hS (lv_sub hl [2, 3, 4, 5, 6] rfl)
set_option maxHeartbeats 8000000 in
set_option maxRecDepth 100000 in
theorem law_10 {p : Program} {l : Launch} {e : Env} {s : State} {m : MethodId} {below : List Frame} {meth : Method} {c : Code} {b L : Nat} {xs : Nat → Int32} {D : va_G} {ad : Nat → Nat} {cs : Nat → ClassId} {bd : Nat → Nat} {cr : Nat → ClassId} {oa : Nat} {oc : ClassId} {w n nr i : Nat} (hC : LC p s m c b L xs D cs cr oc) (hl9 : l.stackTraces = false) (hi : i + 5 ≤ L) (hL : L ≤ 2562) (hz : lS w n nr) (hB : LB p l e s m below meth c b D ad cs bd cr oa oc w n nr i) (K V O M RL G OM LF : Nat → Int32) (f r c0 : Nat) (se op ck cv th held cur nk nv gc gu gl gm : Int32) (g : Nat → Int64) (H : Heap) (locs : List Loc) (ls : Array Slot) (hI : li w n K O RL G OM f r c0 se op ck cv held cur nk nv gc gu gl gm) (hP : va_P D classes (lwd ad cs bd cr oa oc w n nr K V O M RL G OM LF f r c0 se op ck cv th held cur nk nv gc gu gl gm g) H) (hD : va_D (fun q => s.heap.size ≤ q) (lwd ad cs bd cr oa oc w n nr K V O M RL G OM LF f r c0 se op ck cv th held cur nk nv gc gu gl gm g)) (hS : va_S (fun q => s.heap.size ≤ q) s.heap H locs) (hl : lv_has ls 7 [(0, .ref b), (1, .ref (ad 0)), (2, .ref (bd 0)), (3, .ref oa), (4, .int (nI i))]) : W p l e room_1 s m #[Value.ref b] below meth c H locs (14 + i) (20000 + 6 * i) (lw_Z below #[Value.ref b] s) (F0 m 402 ls []) := by
  obtain ⟨C0, hX, hbl, hK, hxh⟩ := hC
  have hx := C0.1
  have hb := C0.2.1
  have hbA : ¬ (fun q => s.heap.size ≤ q) b := Nat.not_le.mpr hbl
  have hA : ∀ q, s.heap.size ≤ q → (fun q => s.heap.size ≤ q) q := fun _ h => h
  have hKx : va_K D classes (xt cs) s := hK.sub [1, 2, 3, 4, 5, 6] rfl
  have hKm : va_K D classes (mt cr) s := hK.sub [7, 8, 9, 10] rfl
  have hKh : va_K D classes ((oc, .long) :: xt cs) s := hK.sub [0, 1, 2, 3, 4, 5, 6] rfl
  obtain ⟨z1, z2, z3, z4, z5⟩ := id hz
  obtain ⟨l1, l2, l3, l4, l5, l6⟩ := hI
  subst l4
  by_cases hbad : xs (i + 1) < 0 ∨ ¬ xs (i + 1) < 4
  · have hP : va_P D classes ((ow oa oc g) :: ((xw ad cs w n nr K V O M RL G (nI f) (nI r) se (nI c0) op ck cv) ++ (mw bd cr w n K V OM LF th (nI f) (nI r) (nI (f - r * w)) se (nI c0) cur nk nv gc gu gl gm))) H := hP
    have hD : va_D (fun q => s.heap.size ≤ q) ((ow oa oc g) :: ((xw ad cs w n nr K V O M RL G (nI f) (nI r) se (nI c0) op ck cv) ++ (mw bd cr w n K V OM LF th (nI f) (nI r) (nI (f - r * w)) se (nI c0) cur nk nv gc gu gl gm))) := hD
    refine lv_aload_n hx hb dL_law_402 rfl (lv_at hl 1 rfl) ?_
    refine lv_aload_n hx hb dL_law_403 rfl (lv_at hl 0 rfl) ?_
    refine lv_iload hx hb dL_law_404 (lv_at hl 4 rfl) ?_
    refine lv_iconst (v := 1) hx hb dL_law_406 (by decide) ?_
    refine lv_iadd hx hb dL_law_407 ?_
    refine z_eq (show nI i + 1 = nI (i + 1) from nI_add i 1) ?_
    refine z_sld (j := (i + 1)) C0 hX hbl hbA hS (by omega) (by omega) dL_law_408 ?_
    refine lv_aload_n hx hb dL_law_409 rfl (lv_at hl 3 rfl) ?_
    refine zl_callX (As := [.ref (ad 0), .int (xs (i + 1)), .ref oa]) (rest := []) [] (mw bd cr w n K V OM LF th (nI f) (nI r) (nI (f - r * w)) se (nI c0) cur nk nv gc gu gl gm) C0 (l_count_x l D (ad 0) oa oc (xt cs) g (xw ad cs w n nr K V O M RL G (nI f) (nI r) se (nI c0) op ck cv) _ rfl (xs (i + 1)) hl9 hbad) zw_count ⟨by decide, by decide⟩ ⟨rfl, rfl⟩ rfl hKh hP hD hS hA (fun q h => h) hxh hl.1 rfl (Nat.le_of_ble_eq_true rfl) dL_law_410 ⟨show 14 + i + 1 ≤ 601024 by omega, show 20000 + 6 * i + 6 ≤ 7293000 by omega⟩ (fun H locs hP hS => ?_)
    have hP : va_P D classes ((ow oa oc g) :: ((xw ad cs w n nr K V O M RL G (nI f) (nI r) se (nI c0) op ck cv) ++ (mw bd cr w n K V OM LF th (nI f) (nI r) (nI (f - r * w)) se (nI c0) cur nk nv gc gu gl gm))) H := hP
    have hD : va_D (fun q => s.heap.size ≤ q) ((ow oa oc g) :: ((xw ad cs w n nr K V O M RL G (nI f) (nI r) se (nI c0) op ck cv) ++ (mw bd cr w n K V OM LF th (nI f) (nI r) (nI (f - r * w)) se (nI c0) cur nk nv gc gu gl gm))) := hD
    refine W.widen (k := 15 + i) (n := 20006 + 6 * i) (by omega) (by omega) ?_
    refine lv_istore (lv' := [(5, .int 1), (0, .ref b), (1, .ref (ad 0)), (2, .ref (bd 0)), (3, .ref oa), (4, .int (nI i))]) hx hb dL_law_413 hl (by decide) rfl (fun ls hl => ?_)
    refine lv_aload_n hx hb dL_law_415 rfl (lv_at hl 3 rfl) ?_
    refine lv_aload_n hx hb dL_law_416 rfl (lv_at hl 1 rfl) ?_
    refine lv_iload hx hb dL_law_417 (lv_at hl 5 rfl) ?_
    refine lv_iconst (v := 1) hx hb dL_law_419 (by decide) ?_
    refine lv_iadd hx hb dL_law_420 ?_
    refine z_eq (show nI i + 1 = nI (i + 1) from nI_add i 1) ?_
    refine z_sld (j := (i + 1)) C0 hX hbl hbA hS (by omega) (by omega) dL_law_421 ?_
    refine zi_callV (As := [.int (xs (i + 1))]) (rest := []) (q0 := 0) (ci := 1) ((ow oa oc g) :: (xw ad cs w n nr K V O M RL G (nI f) (nI r) se (nI c0) op ck cv)) [] C0 (m_count_x l D bd cr w n K V OM LF th (nI f) (nI r) (nI (f - r * w)) se (nI c0) cur nk nv gc gu gl gm (xs (i + 1)) (hbad.imp id w43)) zv_L_X1_count ⟨by decide, by decide⟩ ⟨rfl, rfl⟩ rfl hKm hP hD hS hA rfl rfl rfl hl.1 rfl (Nat.le_of_ble_eq_true rfl) dL_law_422 ⟨show 15 + i ≤ 601024 by omega, show 20006 + 6 * i ≤ 7293000 by omega⟩ (fun v2 _ H locs h2 hP hD hS => ?_)
    have hP : va_P D classes ((ow oa oc g) :: ((xw ad cs w n nr K V O M RL G (nI f) (nI r) se (nI c0) op ck cv) ++ (mw bd cr w n K V OM LF 1 (nI f) (nI r) (nI (f - r * w)) se (nI c0) cur nk nv gc gu gl gm))) H := hP
    have hD : va_D (fun q => s.heap.size ≤ q) ((ow oa oc g) :: ((xw ad cs w n nr K V O M RL G (nI f) (nI r) se (nI c0) op ck cv) ++ (mw bd cr w n K V OM LF 1 (nI f) (nI r) (nI (f - r * w)) se (nI c0) cur nk nv gc gu gl gm))) := hD
    refine lv_istore (lv' := [(6, .int v2), (5, .int 1), (0, .ref b), (1, .ref (ad 0)), (2, .ref (bd 0)), (3, .ref oa), (4, .int (nI i))]) hx hb dL_law_425 hl (by decide) rfl (fun ls hl => ?_)
    refine lv_aload_n hx hb dL_law_427 rfl (lv_at hl 4 rfl) ?_
    refine zr_callV (As := []) (rest := []) (q0 := 0) (ci := 1) (A := fun q => s.heap.size ≤ q) C0 (m_thrown l D bd cr w n K V OM LF 1 (nI f) (nI r) (nI (f - r * w)) se (nI c0) cur nk nv gc gu gl gm) zv_L_X1_thrown ⟨by decide, by decide⟩ ⟨rfl, rfl⟩ rfl hKm (z_subP (w1 := ((ow oa oc g) :: (xw ad cs w n nr K V O M RL G (nI f) (nI r) se (nI c0) op ck cv))) (w2 := []) hP) (z_subD (w1 := ((ow oa oc g) :: (xw ad cs w n nr K V O M RL G (nI f) (nI r) se (nI c0) op ck cv))) (w2 := []) hD) rfl rfl rfl hl.1 rfl (Nat.le_of_ble_eq_true rfl) dL_law_428 ⟨show 15 + i ≤ 601024 by omega, show 20006 + 6 * i ≤ 7293000 by omega⟩ (fun v3 h3 => ?_)
    subst h3
    refine lv_iload hx hb dL_law_431 (lv_at hl 1 rfl) ?_
    refine lv_icmp_eq (tgt := 438) hx hb dL_law_433 (by decide) (fun _ => ?_) (fun hne => absurd (rfl) hne)
    refine lv_iload hx hb dL_law_438 (lv_at hl 1 rfl) ?_
    refine lv_if_ne (tgt := 455) hx hb dL_law_440 (by decide) (fun _ => ?_) (fun hne => absurd hne (by decide))
    refine lv_goto (tgt := 458) hx hb dL_law_455 (by decide) ?_
    refine W.widen (k := 15 + i) (n := 20006 + 6 * i) (by omega) (by omega) ?_
    exact hB K V O M RL G OM LF f r c0 se op ck cv 1 (nI (f - r * w)) cur nk nv gc gu gl gm g _ _ _ (⟨l1, l2, l3, rfl, l5, l6⟩) hP hD hS (lv_sub hl [2, 3, 4, 5, 6] rfl)
  · obtain ⟨j, hj3, hj4⟩ : ∃ j : Nat, j ≤ 3 ∧ xs (i + 1) = nI j := nI_of2 (M := 3) (by decide) (fun z => hbad (Or.inl z)) (w34 (Classical.not_not.mp (fun z => hbad (Or.inr z))))
    rcases (show j = 0 ∨ j = 1 ∨ j = 2 ∨ j = 3 by omega) with rfl | rfl | rfl | rfl
    · have hP : va_P D classes ((ow oa oc g) :: ((xw ad cs w n nr K V O M RL G (nI f) (nI r) se (nI c0) op ck cv) ++ (mw bd cr w n K V OM LF th (nI f) (nI r) (nI (f - r * w)) se (nI c0) cur nk nv gc gu gl gm))) H := hP
      have hD : va_D (fun q => s.heap.size ≤ q) ((ow oa oc g) :: ((xw ad cs w n nr K V O M RL G (nI f) (nI r) se (nI c0) op ck cv) ++ (mw bd cr w n K V OM LF th (nI f) (nI r) (nI (f - r * w)) se (nI c0) cur nk nv gc gu gl gm))) := hD
      refine lv_aload_n hx hb dL_law_402 rfl (lv_at hl 1 rfl) ?_
      refine lv_aload_n hx hb dL_law_403 rfl (lv_at hl 0 rfl) ?_
      refine lv_iload hx hb dL_law_404 (lv_at hl 4 rfl) ?_
      refine lv_iconst (v := 1) hx hb dL_law_406 (by decide) ?_
      refine lv_iadd hx hb dL_law_407 ?_
      refine z_eq (show nI i + 1 = nI (i + 1) from nI_add i 1) ?_
      refine z_sld (j := (i + 1)) C0 hX hbl hbA hS (by omega) (by omega) dL_law_408 ?_
      refine z_eq (show (xs (i + 1)) = 0 from hj4) ?_
      refine lv_aload_n hx hb dL_law_409 rfl (lv_at hl 3 rfl) ?_
      refine zl_call (As := [.ref (ad 0), .int 0, .ref oa]) (rest := []) [] (mw bd cr w n K V OM LF th (nI f) (nI r) (nI (f - r * w)) se (nI c0) cur nk nv gc gu gl gm) C0 (l_count_k l D (ad 0) oa oc (xt cs) g (xw ad cs w n nr K V O M RL G (nI f) (nI r) se (nI c0) op ck cv) _ rfl 0 (c_count_0 l D ad cs w n nr (by omega) (by omega) K V O M RL G (nI f) (nI r) se (nI c0) op ck cv)) zw_count ⟨by decide, by decide⟩ ⟨rfl, rfl⟩ rfl hKh hP hD hS hA hl.1 rfl (Nat.le_of_ble_eq_true rfl) dL_law_410 ⟨show 14 + i ≤ 601024 by omega, show 20000 + 6 * i ≤ 7293000 by omega⟩ (fun v1 g1 H locs h1 hP hD hS => ?_)
      obtain ⟨a1, v, a2, a3⟩ := h1
      subst a1
      have hP : va_P D classes ((ow oa oc g1) :: ((xw ad cs w n nr K V O M RL G (nI f) (nI r) se (nI c0) op ck cv) ++ (mw bd cr w n K V OM LF th (nI f) (nI r) (nI (f - r * w)) se (nI c0) cur nk nv gc gu gl gm))) H := hP
      have hD : va_D (fun q => s.heap.size ≤ q) ((ow oa oc g1) :: ((xw ad cs w n nr K V O M RL G (nI f) (nI r) se (nI c0) op ck cv) ++ (mw bd cr w n K V OM LF th (nI f) (nI r) (nI (f - r * w)) se (nI c0) cur nk nv gc gu gl gm))) := hD
      refine lv_istore (lv' := [(5, .int 0), (0, .ref b), (1, .ref (ad 0)), (2, .ref (bd 0)), (3, .ref oa), (4, .int (nI i))]) hx hb dL_law_413 hl (by decide) rfl (fun ls hl => ?_)
      refine lv_aload_n hx hb dL_law_415 rfl (lv_at hl 3 rfl) ?_
      refine lv_aload_n hx hb dL_law_416 rfl (lv_at hl 1 rfl) ?_
      refine lv_iload hx hb dL_law_417 (lv_at hl 5 rfl) ?_
      refine lv_iconst (v := 1) hx hb dL_law_419 (by decide) ?_
      refine lv_iadd hx hb dL_law_420 ?_
      refine z_eq (show nI i + 1 = nI (i + 1) from nI_add i 1) ?_
      refine z_sld (j := (i + 1)) C0 hX hbl hbA hS (by omega) (by omega) dL_law_421 ?_
      refine z_eq (show (xs (i + 1)) = 0 from hj4) ?_
      refine zi_callV (As := [.int 0]) (rest := []) (q0 := 0) (ci := 1) ((ow oa oc g1) :: (xw ad cs w n nr K V O M RL G (nI f) (nI r) se (nI c0) op ck cv)) [] C0 (m_count_0 l D bd cr w n K V OM LF th (nI f) (nI r) (nI (f - r * w)) se (nI c0) cur nk nv gc gu gl gm) zv_L_X1_count ⟨by decide, by decide⟩ ⟨rfl, rfl⟩ rfl hKm hP hD hS hA rfl rfl rfl hl.1 rfl (Nat.le_of_ble_eq_true rfl) dL_law_422 ⟨show 14 + i ≤ 601024 by omega, show 20000 + 6 * i ≤ 7293000 by omega⟩ (fun v2 _ H locs h2 hP hD hS => ?_)
      have hP : va_P D classes ((ow oa oc g1) :: ((xw ad cs w n nr K V O M RL G (nI f) (nI r) se (nI c0) op ck cv) ++ (mw bd cr w n K V OM LF 0 (nI f) (nI r) (nI (f - r * w)) se (nI c0) cur nk nv gc gu gl gm))) H := hP
      have hD : va_D (fun q => s.heap.size ≤ q) ((ow oa oc g1) :: ((xw ad cs w n nr K V O M RL G (nI f) (nI r) se (nI c0) op ck cv) ++ (mw bd cr w n K V OM LF 0 (nI f) (nI r) (nI (f - r * w)) se (nI c0) cur nk nv gc gu gl gm))) := hD
      refine lv_istore (lv' := [(6, .int v2), (5, .int 0), (0, .ref b), (1, .ref (ad 0)), (2, .ref (bd 0)), (3, .ref oa), (4, .int (nI i))]) hx hb dL_law_425 hl (by decide) rfl (fun ls hl => ?_)
      refine lv_aload_n hx hb dL_law_427 rfl (lv_at hl 4 rfl) ?_
      refine zr_callV (As := []) (rest := []) (q0 := 0) (ci := 1) (A := fun q => s.heap.size ≤ q) C0 (m_thrown l D bd cr w n K V OM LF 0 (nI f) (nI r) (nI (f - r * w)) se (nI c0) cur nk nv gc gu gl gm) zv_L_X1_thrown ⟨by decide, by decide⟩ ⟨rfl, rfl⟩ rfl hKm (z_subP (w1 := ((ow oa oc g1) :: (xw ad cs w n nr K V O M RL G (nI f) (nI r) se (nI c0) op ck cv))) (w2 := []) hP) (z_subD (w1 := ((ow oa oc g1) :: (xw ad cs w n nr K V O M RL G (nI f) (nI r) se (nI c0) op ck cv))) (w2 := []) hD) rfl rfl rfl hl.1 rfl (Nat.le_of_ble_eq_true rfl) dL_law_428 ⟨show 14 + i ≤ 601024 by omega, show 20000 + 6 * i ≤ 7293000 by omega⟩ (fun v3 h3 => ?_)
      subst h3
      refine lv_iload hx hb dL_law_431 (lv_at hl 1 rfl) ?_
      refine lv_icmp_eq (tgt := 438) hx hb dL_law_433 (by decide) (fun _ => ?_) (fun hne => absurd (rfl) hne)
      refine lv_iload hx hb dL_law_438 (lv_at hl 1 rfl) ?_
      refine lv_if_ne (tgt := 455) hx hb dL_law_440 (by decide) (fun hne => absurd rfl hne) (fun _ => ?_)
      refine lv_aload_n hx hb dL_law_443 rfl (lv_at hl 5 rfl) ?_
      refine lv_iconst (v := 0) hx hb dL_law_444 (by decide) ?_
      refine va_lald hx hb hK hP 0 0 rfl rfl (vp_in_nI (n := 0) (N := 1) (by decide) (by decide)) dL_law_445 ?_
      refine lv_iload hx hb dL_law_446 (lv_at hl 0 rfl) ?_
      refine lv_i2l (v := v2.toInt64) hx hb dL_law_448 rfl ?_
      refine W.lcmp hx hb dL_law_449 ?_
      refine z_eq (show lg_cmp (g1 (0 : Int32).toNatClampNeg) v2.toInt64 = 0 from cmp_eq (by rw [sb_cl0, a3, a2, h2])) ?_
      refine lv_if_eq (tgt := 455) hx hb dL_law_450 (by decide) (fun _ => ?_) (fun hne => absurd rfl hne)
      refine lv_goto (tgt := 458) hx hb dL_law_455 (by decide) ?_
      refine W.widen (k := 15 + i) (n := 20006 + 6 * i) (by omega) (by omega) ?_
      exact hB K V O M RL G OM LF f r c0 se op ck cv 0 (nI (f - r * w)) cur nk nv gc gu gl gm g1 _ _ _ (⟨l1, l2, l3, rfl, l5, l6⟩) hP hD hS (lv_sub hl [2, 3, 4, 5, 6] rfl)
    · have hP : va_P D classes ((ow oa oc g) :: ((xw ad cs w n nr K V O M RL G (nI f) (nI r) se (nI c0) op ck cv) ++ (mw bd cr w n K V OM LF th (nI f) (nI r) (nI (f - r * w)) se (nI c0) cur nk nv gc gu gl gm))) H := hP
      have hD : va_D (fun q => s.heap.size ≤ q) ((ow oa oc g) :: ((xw ad cs w n nr K V O M RL G (nI f) (nI r) se (nI c0) op ck cv) ++ (mw bd cr w n K V OM LF th (nI f) (nI r) (nI (f - r * w)) se (nI c0) cur nk nv gc gu gl gm))) := hD
      refine lv_aload_n hx hb dL_law_402 rfl (lv_at hl 1 rfl) ?_
      refine lv_aload_n hx hb dL_law_403 rfl (lv_at hl 0 rfl) ?_
      refine lv_iload hx hb dL_law_404 (lv_at hl 4 rfl) ?_
      refine lv_iconst (v := 1) hx hb dL_law_406 (by decide) ?_
      refine lv_iadd hx hb dL_law_407 ?_
      refine z_eq (show nI i + 1 = nI (i + 1) from nI_add i 1) ?_
      refine z_sld (j := (i + 1)) C0 hX hbl hbA hS (by omega) (by omega) dL_law_408 ?_
      refine z_eq (show (xs (i + 1)) = 1 from hj4) ?_
      refine lv_aload_n hx hb dL_law_409 rfl (lv_at hl 3 rfl) ?_
      refine zl_call (As := [.ref (ad 0), .int 1, .ref oa]) (rest := []) [] (mw bd cr w n K V OM LF th (nI f) (nI r) (nI (f - r * w)) se (nI c0) cur nk nv gc gu gl gm) C0 (l_count_k l D (ad 0) oa oc (xt cs) g (xw ad cs w n nr K V O M RL G (nI f) (nI r) se (nI c0) op ck cv) _ rfl 1 (c_count_1 l D ad cs w n nr (by omega) (by omega) K V O M RL G (nI f) (nI r) se (nI c0) op ck cv)) zw_count ⟨by decide, by decide⟩ ⟨rfl, rfl⟩ rfl hKh hP hD hS hA hl.1 rfl (Nat.le_of_ble_eq_true rfl) dL_law_410 ⟨show 14 + i ≤ 601024 by omega, show 20000 + 6 * i ≤ 7293000 by omega⟩ (fun v1 g1 H locs h1 hP hD hS => ?_)
      obtain ⟨a1, v, a2, a3⟩ := h1
      subst a1
      have hP : va_P D classes ((ow oa oc g1) :: ((xw ad cs w n nr K V O M RL G (nI f) (nI r) se (nI c0) op ck cv) ++ (mw bd cr w n K V OM LF th (nI f) (nI r) (nI (f - r * w)) se (nI c0) cur nk nv gc gu gl gm))) H := hP
      have hD : va_D (fun q => s.heap.size ≤ q) ((ow oa oc g1) :: ((xw ad cs w n nr K V O M RL G (nI f) (nI r) se (nI c0) op ck cv) ++ (mw bd cr w n K V OM LF th (nI f) (nI r) (nI (f - r * w)) se (nI c0) cur nk nv gc gu gl gm))) := hD
      refine lv_istore (lv' := [(5, .int 0), (0, .ref b), (1, .ref (ad 0)), (2, .ref (bd 0)), (3, .ref oa), (4, .int (nI i))]) hx hb dL_law_413 hl (by decide) rfl (fun ls hl => ?_)
      refine lv_aload_n hx hb dL_law_415 rfl (lv_at hl 3 rfl) ?_
      refine lv_aload_n hx hb dL_law_416 rfl (lv_at hl 1 rfl) ?_
      refine lv_iload hx hb dL_law_417 (lv_at hl 5 rfl) ?_
      refine lv_iconst (v := 1) hx hb dL_law_419 (by decide) ?_
      refine lv_iadd hx hb dL_law_420 ?_
      refine z_eq (show nI i + 1 = nI (i + 1) from nI_add i 1) ?_
      refine z_sld (j := (i + 1)) C0 hX hbl hbA hS (by omega) (by omega) dL_law_421 ?_
      refine z_eq (show (xs (i + 1)) = 1 from hj4) ?_
      refine zi_callV (As := [.int 1]) (rest := []) (q0 := 0) (ci := 1) ((ow oa oc g1) :: (xw ad cs w n nr K V O M RL G (nI f) (nI r) se (nI c0) op ck cv)) [] C0 (m_count_1 l D bd cr w n K V OM LF th (nI f) (nI r) (nI (f - r * w)) se (nI c0) cur nk nv gc gu gl gm) zv_L_X1_count ⟨by decide, by decide⟩ ⟨rfl, rfl⟩ rfl hKm hP hD hS hA rfl rfl rfl hl.1 rfl (Nat.le_of_ble_eq_true rfl) dL_law_422 ⟨show 14 + i ≤ 601024 by omega, show 20000 + 6 * i ≤ 7293000 by omega⟩ (fun v2 _ H locs h2 hP hD hS => ?_)
      have hP : va_P D classes ((ow oa oc g1) :: ((xw ad cs w n nr K V O M RL G (nI f) (nI r) se (nI c0) op ck cv) ++ (mw bd cr w n K V OM LF 0 (nI f) (nI r) (nI (f - r * w)) se (nI c0) cur nk nv gc gu gl gm))) H := hP
      have hD : va_D (fun q => s.heap.size ≤ q) ((ow oa oc g1) :: ((xw ad cs w n nr K V O M RL G (nI f) (nI r) se (nI c0) op ck cv) ++ (mw bd cr w n K V OM LF 0 (nI f) (nI r) (nI (f - r * w)) se (nI c0) cur nk nv gc gu gl gm))) := hD
      refine lv_istore (lv' := [(6, .int v2), (5, .int 0), (0, .ref b), (1, .ref (ad 0)), (2, .ref (bd 0)), (3, .ref oa), (4, .int (nI i))]) hx hb dL_law_425 hl (by decide) rfl (fun ls hl => ?_)
      refine lv_aload_n hx hb dL_law_427 rfl (lv_at hl 4 rfl) ?_
      refine zr_callV (As := []) (rest := []) (q0 := 0) (ci := 1) (A := fun q => s.heap.size ≤ q) C0 (m_thrown l D bd cr w n K V OM LF 0 (nI f) (nI r) (nI (f - r * w)) se (nI c0) cur nk nv gc gu gl gm) zv_L_X1_thrown ⟨by decide, by decide⟩ ⟨rfl, rfl⟩ rfl hKm (z_subP (w1 := ((ow oa oc g1) :: (xw ad cs w n nr K V O M RL G (nI f) (nI r) se (nI c0) op ck cv))) (w2 := []) hP) (z_subD (w1 := ((ow oa oc g1) :: (xw ad cs w n nr K V O M RL G (nI f) (nI r) se (nI c0) op ck cv))) (w2 := []) hD) rfl rfl rfl hl.1 rfl (Nat.le_of_ble_eq_true rfl) dL_law_428 ⟨show 14 + i ≤ 601024 by omega, show 20000 + 6 * i ≤ 7293000 by omega⟩ (fun v3 h3 => ?_)
      subst h3
      refine lv_iload hx hb dL_law_431 (lv_at hl 1 rfl) ?_
      refine lv_icmp_eq (tgt := 438) hx hb dL_law_433 (by decide) (fun _ => ?_) (fun hne => absurd (rfl) hne)
      refine lv_iload hx hb dL_law_438 (lv_at hl 1 rfl) ?_
      refine lv_if_ne (tgt := 455) hx hb dL_law_440 (by decide) (fun hne => absurd rfl hne) (fun _ => ?_)
      refine lv_aload_n hx hb dL_law_443 rfl (lv_at hl 5 rfl) ?_
      refine lv_iconst (v := 0) hx hb dL_law_444 (by decide) ?_
      refine va_lald hx hb hK hP 0 0 rfl rfl (vp_in_nI (n := 0) (N := 1) (by decide) (by decide)) dL_law_445 ?_
      refine lv_iload hx hb dL_law_446 (lv_at hl 0 rfl) ?_
      refine lv_i2l (v := v2.toInt64) hx hb dL_law_448 rfl ?_
      refine W.lcmp hx hb dL_law_449 ?_
      refine z_eq (show lg_cmp (g1 (0 : Int32).toNatClampNeg) v2.toInt64 = 0 from cmp_eq (by rw [sb_cl0, a3, a2, h2])) ?_
      refine lv_if_eq (tgt := 455) hx hb dL_law_450 (by decide) (fun _ => ?_) (fun hne => absurd rfl hne)
      refine lv_goto (tgt := 458) hx hb dL_law_455 (by decide) ?_
      refine W.widen (k := 15 + i) (n := 20006 + 6 * i) (by omega) (by omega) ?_
      exact hB K V O M RL G OM LF f r c0 se op ck cv 0 (nI (f - r * w)) cur nk nv gc gu gl gm g1 _ _ _ (⟨l1, l2, l3, rfl, l5, l6⟩) hP hD hS (lv_sub hl [2, 3, 4, 5, 6] rfl)
    · have hP : va_P D classes ((ow oa oc g) :: ((xw ad cs w n nr K V O M RL G (nI f) (nI r) se (nI c0) op ck cv) ++ (mw bd cr w n K V OM LF th (nI f) (nI r) (nI (f - r * w)) se (nI c0) cur nk nv gc gu gl gm))) H := hP
      have hD : va_D (fun q => s.heap.size ≤ q) ((ow oa oc g) :: ((xw ad cs w n nr K V O M RL G (nI f) (nI r) se (nI c0) op ck cv) ++ (mw bd cr w n K V OM LF th (nI f) (nI r) (nI (f - r * w)) se (nI c0) cur nk nv gc gu gl gm))) := hD
      refine lv_aload_n hx hb dL_law_402 rfl (lv_at hl 1 rfl) ?_
      refine lv_aload_n hx hb dL_law_403 rfl (lv_at hl 0 rfl) ?_
      refine lv_iload hx hb dL_law_404 (lv_at hl 4 rfl) ?_
      refine lv_iconst (v := 1) hx hb dL_law_406 (by decide) ?_
      refine lv_iadd hx hb dL_law_407 ?_
      refine z_eq (show nI i + 1 = nI (i + 1) from nI_add i 1) ?_
      refine z_sld (j := (i + 1)) C0 hX hbl hbA hS (by omega) (by omega) dL_law_408 ?_
      refine z_eq (show (xs (i + 1)) = 2 from hj4) ?_
      refine lv_aload_n hx hb dL_law_409 rfl (lv_at hl 3 rfl) ?_
      refine zl_call (As := [.ref (ad 0), .int 2, .ref oa]) (rest := []) [] (mw bd cr w n K V OM LF th (nI f) (nI r) (nI (f - r * w)) se (nI c0) cur nk nv gc gu gl gm) C0 (l_count_k l D (ad 0) oa oc (xt cs) g (xw ad cs w n nr K V O M RL G (nI f) (nI r) se (nI c0) op ck cv) _ rfl 2 (c_count_2 l D ad cs w n nr (by omega) (by omega) K V O M RL G (nI f) (nI r) se (nI c0) op ck cv)) zw_count ⟨by decide, by decide⟩ ⟨rfl, rfl⟩ rfl hKh hP hD hS hA hl.1 rfl (Nat.le_of_ble_eq_true rfl) dL_law_410 ⟨show 14 + i ≤ 601024 by omega, show 20000 + 6 * i ≤ 7293000 by omega⟩ (fun v1 g1 H locs h1 hP hD hS => ?_)
      obtain ⟨a1, v, a2, a3⟩ := h1
      subst a1
      have hP : va_P D classes ((ow oa oc g1) :: ((xw ad cs w n nr K V O M RL G (nI f) (nI r) se (nI c0) op ck cv) ++ (mw bd cr w n K V OM LF th (nI f) (nI r) (nI (f - r * w)) se (nI c0) cur nk nv gc gu gl gm))) H := hP
      have hD : va_D (fun q => s.heap.size ≤ q) ((ow oa oc g1) :: ((xw ad cs w n nr K V O M RL G (nI f) (nI r) se (nI c0) op ck cv) ++ (mw bd cr w n K V OM LF th (nI f) (nI r) (nI (f - r * w)) se (nI c0) cur nk nv gc gu gl gm))) := hD
      refine lv_istore (lv' := [(5, .int 0), (0, .ref b), (1, .ref (ad 0)), (2, .ref (bd 0)), (3, .ref oa), (4, .int (nI i))]) hx hb dL_law_413 hl (by decide) rfl (fun ls hl => ?_)
      refine lv_aload_n hx hb dL_law_415 rfl (lv_at hl 3 rfl) ?_
      refine lv_aload_n hx hb dL_law_416 rfl (lv_at hl 1 rfl) ?_
      refine lv_iload hx hb dL_law_417 (lv_at hl 5 rfl) ?_
      refine lv_iconst (v := 1) hx hb dL_law_419 (by decide) ?_
      refine lv_iadd hx hb dL_law_420 ?_
      refine z_eq (show nI i + 1 = nI (i + 1) from nI_add i 1) ?_
      refine z_sld (j := (i + 1)) C0 hX hbl hbA hS (by omega) (by omega) dL_law_421 ?_
      refine z_eq (show (xs (i + 1)) = 2 from hj4) ?_
      refine zi_callV (As := [.int 2]) (rest := []) (q0 := 0) (ci := 1) ((ow oa oc g1) :: (xw ad cs w n nr K V O M RL G (nI f) (nI r) se (nI c0) op ck cv)) [] C0 (m_count_2 l D bd cr w n K V OM LF th (nI f) (nI r) (nI (f - r * w)) se (nI c0) cur nk nv gc gu gl gm) zv_L_X1_count ⟨by decide, by decide⟩ ⟨rfl, rfl⟩ rfl hKm hP hD hS hA rfl rfl rfl hl.1 rfl (Nat.le_of_ble_eq_true rfl) dL_law_422 ⟨show 14 + i ≤ 601024 by omega, show 20000 + 6 * i ≤ 7293000 by omega⟩ (fun v2 _ H locs h2 hP hD hS => ?_)
      have hP : va_P D classes ((ow oa oc g1) :: ((xw ad cs w n nr K V O M RL G (nI f) (nI r) se (nI c0) op ck cv) ++ (mw bd cr w n K V OM LF 0 (nI f) (nI r) (nI (f - r * w)) se (nI c0) cur nk nv gc gu gl gm))) H := hP
      have hD : va_D (fun q => s.heap.size ≤ q) ((ow oa oc g1) :: ((xw ad cs w n nr K V O M RL G (nI f) (nI r) se (nI c0) op ck cv) ++ (mw bd cr w n K V OM LF 0 (nI f) (nI r) (nI (f - r * w)) se (nI c0) cur nk nv gc gu gl gm))) := hD
      refine lv_istore (lv' := [(6, .int v2), (5, .int 0), (0, .ref b), (1, .ref (ad 0)), (2, .ref (bd 0)), (3, .ref oa), (4, .int (nI i))]) hx hb dL_law_425 hl (by decide) rfl (fun ls hl => ?_)
      refine lv_aload_n hx hb dL_law_427 rfl (lv_at hl 4 rfl) ?_
      refine zr_callV (As := []) (rest := []) (q0 := 0) (ci := 1) (A := fun q => s.heap.size ≤ q) C0 (m_thrown l D bd cr w n K V OM LF 0 (nI f) (nI r) (nI (f - r * w)) se (nI c0) cur nk nv gc gu gl gm) zv_L_X1_thrown ⟨by decide, by decide⟩ ⟨rfl, rfl⟩ rfl hKm (z_subP (w1 := ((ow oa oc g1) :: (xw ad cs w n nr K V O M RL G (nI f) (nI r) se (nI c0) op ck cv))) (w2 := []) hP) (z_subD (w1 := ((ow oa oc g1) :: (xw ad cs w n nr K V O M RL G (nI f) (nI r) se (nI c0) op ck cv))) (w2 := []) hD) rfl rfl rfl hl.1 rfl (Nat.le_of_ble_eq_true rfl) dL_law_428 ⟨show 14 + i ≤ 601024 by omega, show 20000 + 6 * i ≤ 7293000 by omega⟩ (fun v3 h3 => ?_)
      subst h3
      refine lv_iload hx hb dL_law_431 (lv_at hl 1 rfl) ?_
      refine lv_icmp_eq (tgt := 438) hx hb dL_law_433 (by decide) (fun _ => ?_) (fun hne => absurd (rfl) hne)
      refine lv_iload hx hb dL_law_438 (lv_at hl 1 rfl) ?_
      refine lv_if_ne (tgt := 455) hx hb dL_law_440 (by decide) (fun hne => absurd rfl hne) (fun _ => ?_)
      refine lv_aload_n hx hb dL_law_443 rfl (lv_at hl 5 rfl) ?_
      refine lv_iconst (v := 0) hx hb dL_law_444 (by decide) ?_
      refine va_lald hx hb hK hP 0 0 rfl rfl (vp_in_nI (n := 0) (N := 1) (by decide) (by decide)) dL_law_445 ?_
      refine lv_iload hx hb dL_law_446 (lv_at hl 0 rfl) ?_
      refine lv_i2l (v := v2.toInt64) hx hb dL_law_448 rfl ?_
      refine W.lcmp hx hb dL_law_449 ?_
      refine z_eq (show lg_cmp (g1 (0 : Int32).toNatClampNeg) v2.toInt64 = 0 from cmp_eq (by rw [sb_cl0, a3, a2, h2])) ?_
      refine lv_if_eq (tgt := 455) hx hb dL_law_450 (by decide) (fun _ => ?_) (fun hne => absurd rfl hne)
      refine lv_goto (tgt := 458) hx hb dL_law_455 (by decide) ?_
      refine W.widen (k := 15 + i) (n := 20006 + 6 * i) (by omega) (by omega) ?_
      exact hB K V O M RL G OM LF f r c0 se op ck cv 0 (nI (f - r * w)) cur nk nv gc gu gl gm g1 _ _ _ (⟨l1, l2, l3, rfl, l5, l6⟩) hP hD hS (lv_sub hl [2, 3, 4, 5, 6] rfl)
    · rcases l6 with ⟨rfl, rfl, rfl, h6⟩ | ⟨rfl, h7, o, h8, h9, h10⟩
      · have hP : va_P D classes ((ow oa oc g) :: ((xw ad cs w n nr K V O M RL G (nI f) (nI r) 0 (nI 0) op ck cv) ++ (mw bd cr w n K V OM LF th (nI f) (nI r) (nI (f - r * w)) 0 (nI 0) 0 nk nv gc gu gl gm))) H := hP
        have hD : va_D (fun q => s.heap.size ≤ q) ((ow oa oc g) :: ((xw ad cs w n nr K V O M RL G (nI f) (nI r) 0 (nI 0) op ck cv) ++ (mw bd cr w n K V OM LF th (nI f) (nI r) (nI (f - r * w)) 0 (nI 0) 0 nk nv gc gu gl gm))) := hD
        refine lv_aload_n hx hb dL_law_402 rfl (lv_at hl 1 rfl) ?_
        refine lv_aload_n hx hb dL_law_403 rfl (lv_at hl 0 rfl) ?_
        refine lv_iload hx hb dL_law_404 (lv_at hl 4 rfl) ?_
        refine lv_iconst (v := 1) hx hb dL_law_406 (by decide) ?_
        refine lv_iadd hx hb dL_law_407 ?_
        refine z_eq (show nI i + 1 = nI (i + 1) from nI_add i 1) ?_
        refine z_sld (j := (i + 1)) C0 hX hbl hbA hS (by omega) (by omega) dL_law_408 ?_
        refine z_eq (show (xs (i + 1)) = 3 from hj4) ?_
        refine lv_aload_n hx hb dL_law_409 rfl (lv_at hl 3 rfl) ?_
        refine zl_call (As := [.ref (ad 0), .int 3, .ref oa]) (rest := []) [] (mw bd cr w n K V OM LF th (nI f) (nI r) (nI (f - r * w)) 0 (nI 0) 0 nk nv gc gu gl gm) C0 (l_count_k l D (ad 0) oa oc (xt cs) g (xw ad cs w n nr K V O M RL G (nI f) (nI r) 0 (nI 0) op ck cv) _ rfl 3 (c_count_3u l D ad cs w n nr (by omega) (by omega) K V O M RL G (nI f) (nI r) (nI 0) op ck cv)) zw_count ⟨by decide, by decide⟩ ⟨rfl, rfl⟩ rfl hKh hP hD hS hA hl.1 rfl (Nat.le_of_ble_eq_true rfl) dL_law_410 ⟨show 14 + i ≤ 601024 by omega, show 20000 + 6 * i ≤ 7293000 by omega⟩ (fun v1 g1 H locs h1 hP hD hS => ?_)
        obtain ⟨a1, v, a2, a3⟩ := h1
        subst a1
        have hP : va_P D classes ((ow oa oc g1) :: ((xw ad cs w n nr K V O M RL G (nI f) (nI r) 0 (nI 0) op ck cv) ++ (mw bd cr w n K V OM LF th (nI f) (nI r) (nI (f - r * w)) 0 (nI 0) 0 nk nv gc gu gl gm))) H := hP
        have hD : va_D (fun q => s.heap.size ≤ q) ((ow oa oc g1) :: ((xw ad cs w n nr K V O M RL G (nI f) (nI r) 0 (nI 0) op ck cv) ++ (mw bd cr w n K V OM LF th (nI f) (nI r) (nI (f - r * w)) 0 (nI 0) 0 nk nv gc gu gl gm))) := hD
        refine lv_istore (lv' := [(5, .int 0), (0, .ref b), (1, .ref (ad 0)), (2, .ref (bd 0)), (3, .ref oa), (4, .int (nI i))]) hx hb dL_law_413 hl (by decide) rfl (fun ls hl => ?_)
        refine lv_aload_n hx hb dL_law_415 rfl (lv_at hl 3 rfl) ?_
        refine lv_aload_n hx hb dL_law_416 rfl (lv_at hl 1 rfl) ?_
        refine lv_iload hx hb dL_law_417 (lv_at hl 5 rfl) ?_
        refine lv_iconst (v := 1) hx hb dL_law_419 (by decide) ?_
        refine lv_iadd hx hb dL_law_420 ?_
        refine z_eq (show nI i + 1 = nI (i + 1) from nI_add i 1) ?_
        refine z_sld (j := (i + 1)) C0 hX hbl hbA hS (by omega) (by omega) dL_law_421 ?_
        refine z_eq (show (xs (i + 1)) = 3 from hj4) ?_
        refine zi_callV (As := [.int 3]) (rest := []) (q0 := 0) (ci := 1) ((ow oa oc g1) :: (xw ad cs w n nr K V O M RL G (nI f) (nI r) 0 (nI 0) op ck cv)) [] C0 (m_count_3u l D bd cr w n K V OM LF th (nI f) (nI r) (nI (f - r * w)) (nI 0) 0 nk nv gc gu gl gm) zv_L_X1_count ⟨by decide, by decide⟩ ⟨rfl, rfl⟩ rfl hKm hP hD hS hA rfl rfl rfl hl.1 rfl (Nat.le_of_ble_eq_true rfl) dL_law_422 ⟨show 14 + i ≤ 601024 by omega, show 20000 + 6 * i ≤ 7293000 by omega⟩ (fun v2 _ H locs h2 hP hD hS => ?_)
        have hP : va_P D classes ((ow oa oc g1) :: ((xw ad cs w n nr K V O M RL G (nI f) (nI r) 0 (nI 0) op ck cv) ++ (mw bd cr w n K V OM LF 0 (nI f) (nI r) (nI (f - r * w)) 0 (nI 0) 0 nk nv gc gu gl gm))) H := hP
        have hD : va_D (fun q => s.heap.size ≤ q) ((ow oa oc g1) :: ((xw ad cs w n nr K V O M RL G (nI f) (nI r) 0 (nI 0) op ck cv) ++ (mw bd cr w n K V OM LF 0 (nI f) (nI r) (nI (f - r * w)) 0 (nI 0) 0 nk nv gc gu gl gm))) := hD
        refine lv_istore (lv' := [(6, .int v2), (5, .int 0), (0, .ref b), (1, .ref (ad 0)), (2, .ref (bd 0)), (3, .ref oa), (4, .int (nI i))]) hx hb dL_law_425 hl (by decide) rfl (fun ls hl => ?_)
        refine lv_aload_n hx hb dL_law_427 rfl (lv_at hl 4 rfl) ?_
        refine zr_callV (As := []) (rest := []) (q0 := 0) (ci := 1) (A := fun q => s.heap.size ≤ q) C0 (m_thrown l D bd cr w n K V OM LF 0 (nI f) (nI r) (nI (f - r * w)) 0 (nI 0) 0 nk nv gc gu gl gm) zv_L_X1_thrown ⟨by decide, by decide⟩ ⟨rfl, rfl⟩ rfl hKm (z_subP (w1 := ((ow oa oc g1) :: (xw ad cs w n nr K V O M RL G (nI f) (nI r) 0 (nI 0) op ck cv))) (w2 := []) hP) (z_subD (w1 := ((ow oa oc g1) :: (xw ad cs w n nr K V O M RL G (nI f) (nI r) 0 (nI 0) op ck cv))) (w2 := []) hD) rfl rfl rfl hl.1 rfl (Nat.le_of_ble_eq_true rfl) dL_law_428 ⟨show 14 + i ≤ 601024 by omega, show 20000 + 6 * i ≤ 7293000 by omega⟩ (fun v3 h3 => ?_)
        subst h3
        refine lv_iload hx hb dL_law_431 (lv_at hl 1 rfl) ?_
        refine lv_icmp_eq (tgt := 438) hx hb dL_law_433 (by decide) (fun _ => ?_) (fun hne => absurd (rfl) hne)
        refine lv_iload hx hb dL_law_438 (lv_at hl 1 rfl) ?_
        refine lv_if_ne (tgt := 455) hx hb dL_law_440 (by decide) (fun hne => absurd rfl hne) (fun _ => ?_)
        refine lv_aload_n hx hb dL_law_443 rfl (lv_at hl 5 rfl) ?_
        refine lv_iconst (v := 0) hx hb dL_law_444 (by decide) ?_
        refine va_lald hx hb hK hP 0 0 rfl rfl (vp_in_nI (n := 0) (N := 1) (by decide) (by decide)) dL_law_445 ?_
        refine lv_iload hx hb dL_law_446 (lv_at hl 0 rfl) ?_
        refine lv_i2l (v := v2.toInt64) hx hb dL_law_448 rfl ?_
        refine W.lcmp hx hb dL_law_449 ?_
        refine z_eq (show lg_cmp (g1 (0 : Int32).toNatClampNeg) v2.toInt64 = 0 from cmp_eq (by rw [sb_cl0, a3, a2, h2])) ?_
        refine lv_if_eq (tgt := 455) hx hb dL_law_450 (by decide) (fun _ => ?_) (fun hne => absurd rfl hne)
        refine lv_goto (tgt := 458) hx hb dL_law_455 (by decide) ?_
        refine W.widen (k := 15 + i) (n := 20006 + 6 * i) (by omega) (by omega) ?_
        exact hB K V O M RL G OM LF f r 0 0 op ck cv 0 (nI (f - r * w)) 0 nk nv gc gu gl gm g1 _ _ _ (⟨l1, l2, l3, rfl, l5, Or.inl ⟨rfl, rfl, rfl, h6⟩⟩) hP hD hS (lv_sub hl [2, 3, 4, 5, 6] rfl)
      · have hP : va_P D classes ((ow oa oc g) :: ((xw ad cs w n nr K V O M RL G (nI f) (nI r) 1 (nI c0) op ck cv) ++ (mw bd cr w n K V OM LF th (nI f) (nI r) (nI (f - r * w)) 1 (nI c0) cur nk nv gc gu gl gm))) H := hP
        have hD : va_D (fun q => s.heap.size ≤ q) ((ow oa oc g) :: ((xw ad cs w n nr K V O M RL G (nI f) (nI r) 1 (nI c0) op ck cv) ++ (mw bd cr w n K V OM LF th (nI f) (nI r) (nI (f - r * w)) 1 (nI c0) cur nk nv gc gu gl gm))) := hD
        refine lv_aload_n hx hb dL_law_402 rfl (lv_at hl 1 rfl) ?_
        refine lv_aload_n hx hb dL_law_403 rfl (lv_at hl 0 rfl) ?_
        refine lv_iload hx hb dL_law_404 (lv_at hl 4 rfl) ?_
        refine lv_iconst (v := 1) hx hb dL_law_406 (by decide) ?_
        refine lv_iadd hx hb dL_law_407 ?_
        refine z_eq (show nI i + 1 = nI (i + 1) from nI_add i 1) ?_
        refine z_sld (j := (i + 1)) C0 hX hbl hbA hS (by omega) (by omega) dL_law_408 ?_
        refine z_eq (show (xs (i + 1)) = 3 from hj4) ?_
        refine lv_aload_n hx hb dL_law_409 rfl (lv_at hl 3 rfl) ?_
        refine zl_call (As := [.ref (ad 0), .int 3, .ref oa]) (rest := []) [] (mw bd cr w n K V OM LF th (nI f) (nI r) (nI (f - r * w)) 1 (nI c0) cur nk nv gc gu gl gm) C0 (l_count_k l D (ad 0) oa oc (xt cs) g (xw ad cs w n nr K V O M RL G (nI f) (nI r) 1 (nI c0) op ck cv) _ rfl 3 (c_count_3s l D ad cs w n nr (by omega) (by omega) K V O M RL G (nI f) (nI r) (nI c0) op ck cv)) zw_count ⟨by decide, by decide⟩ ⟨rfl, rfl⟩ rfl hKh hP hD hS hA hl.1 rfl (Nat.le_of_ble_eq_true rfl) dL_law_410 ⟨show 14 + i ≤ 601024 by omega, show 20000 + 6 * i ≤ 7293000 by omega⟩ (fun v1 g1 H locs h1 hP hD hS => ?_)
        obtain ⟨a1, v, a2, a3⟩ := h1
        subst a1
        have hP : va_P D classes ((ow oa oc g1) :: ((xw ad cs w n nr K V O M RL G (nI f) (nI r) 1 (nI c0) op ck cv) ++ (mw bd cr w n K V OM LF th (nI f) (nI r) (nI (f - r * w)) 1 (nI c0) cur nk nv gc gu gl gm))) H := hP
        have hD : va_D (fun q => s.heap.size ≤ q) ((ow oa oc g1) :: ((xw ad cs w n nr K V O M RL G (nI f) (nI r) 1 (nI c0) op ck cv) ++ (mw bd cr w n K V OM LF th (nI f) (nI r) (nI (f - r * w)) 1 (nI c0) cur nk nv gc gu gl gm))) := hD
        refine lv_istore (lv' := [(5, .int 0), (0, .ref b), (1, .ref (ad 0)), (2, .ref (bd 0)), (3, .ref oa), (4, .int (nI i))]) hx hb dL_law_413 hl (by decide) rfl (fun ls hl => ?_)
        refine lv_aload_n hx hb dL_law_415 rfl (lv_at hl 3 rfl) ?_
        refine lv_aload_n hx hb dL_law_416 rfl (lv_at hl 1 rfl) ?_
        refine lv_iload hx hb dL_law_417 (lv_at hl 5 rfl) ?_
        refine lv_iconst (v := 1) hx hb dL_law_419 (by decide) ?_
        refine lv_iadd hx hb dL_law_420 ?_
        refine z_eq (show nI i + 1 = nI (i + 1) from nI_add i 1) ?_
        refine z_sld (j := (i + 1)) C0 hX hbl hbA hS (by omega) (by omega) dL_law_421 ?_
        refine z_eq (show (xs (i + 1)) = 3 from hj4) ?_
        refine zi_callV (As := [.int 3]) (rest := []) (q0 := 0) (ci := 1) ((ow oa oc g1) :: (xw ad cs w n nr K V O M RL G (nI f) (nI r) 1 (nI c0) op ck cv)) [] C0 (m_count_3s l D bd cr w n K V OM LF th (nI r) (nI (f - r * w)) cur nk nv gc gu gl gm f c0 r o (by omega) h9 h7 z1 (by omega) l2.2) zv_L_X1_count ⟨by decide, by decide⟩ ⟨rfl, rfl⟩ rfl hKm hP hD hS hA rfl rfl rfl hl.1 rfl (Nat.le_of_ble_eq_true rfl) dL_law_422 ⟨show 14 + i ≤ 601024 by omega, show 20000 + 6 * i ≤ 7293000 by omega⟩ (fun v2 LF1 H locs h2 hP hD hS => ?_)
        have hP : va_P D classes ((ow oa oc g1) :: ((xw ad cs w n nr K V O M RL G (nI f) (nI r) 1 (nI c0) op ck cv) ++ (mw bd cr w n K V OM LF1 0 (nI f) (nI r) (nI (f - r * w)) 1 (nI c0) cur nk nv gc gu gl gm))) H := hP
        have hD : va_D (fun q => s.heap.size ≤ q) ((ow oa oc g1) :: ((xw ad cs w n nr K V O M RL G (nI f) (nI r) 1 (nI c0) op ck cv) ++ (mw bd cr w n K V OM LF1 0 (nI f) (nI r) (nI (f - r * w)) 1 (nI c0) cur nk nv gc gu gl gm))) := hD
        refine lv_istore (lv' := [(6, .int v2), (5, .int 0), (0, .ref b), (1, .ref (ad 0)), (2, .ref (bd 0)), (3, .ref oa), (4, .int (nI i))]) hx hb dL_law_425 hl (by decide) rfl (fun ls hl => ?_)
        refine lv_aload_n hx hb dL_law_427 rfl (lv_at hl 4 rfl) ?_
        refine zr_callV (As := []) (rest := []) (q0 := 0) (ci := 1) (A := fun q => s.heap.size ≤ q) C0 (m_thrown l D bd cr w n K V OM LF1 0 (nI f) (nI r) (nI (f - r * w)) 1 (nI c0) cur nk nv gc gu gl gm) zv_L_X1_thrown ⟨by decide, by decide⟩ ⟨rfl, rfl⟩ rfl hKm (z_subP (w1 := ((ow oa oc g1) :: (xw ad cs w n nr K V O M RL G (nI f) (nI r) 1 (nI c0) op ck cv))) (w2 := []) hP) (z_subD (w1 := ((ow oa oc g1) :: (xw ad cs w n nr K V O M RL G (nI f) (nI r) 1 (nI c0) op ck cv))) (w2 := []) hD) rfl rfl rfl hl.1 rfl (Nat.le_of_ble_eq_true rfl) dL_law_428 ⟨show 14 + i ≤ 601024 by omega, show 20000 + 6 * i ≤ 7293000 by omega⟩ (fun v3 h3 => ?_)
        subst h3
        refine lv_iload hx hb dL_law_431 (lv_at hl 1 rfl) ?_
        refine lv_icmp_eq (tgt := 438) hx hb dL_law_433 (by decide) (fun _ => ?_) (fun hne => absurd (rfl) hne)
        refine lv_iload hx hb dL_law_438 (lv_at hl 1 rfl) ?_
        refine lv_if_ne (tgt := 455) hx hb dL_law_440 (by decide) (fun hne => absurd rfl hne) (fun _ => ?_)
        refine lv_aload_n hx hb dL_law_443 rfl (lv_at hl 5 rfl) ?_
        refine lv_iconst (v := 0) hx hb dL_law_444 (by decide) ?_
        refine va_lald hx hb hK hP 0 0 rfl rfl (vp_in_nI (n := 0) (N := 1) (by decide) (by decide)) dL_law_445 ?_
        refine lv_iload hx hb dL_law_446 (lv_at hl 0 rfl) ?_
        refine lv_i2l (v := v2.toInt64) hx hb dL_law_448 rfl ?_
        refine W.lcmp hx hb dL_law_449 ?_
        refine z_eq (show lg_cmp (g1 (0 : Int32).toNatClampNeg) v2.toInt64 = 0 from cmp_eq (by rw [sb_cl0, a3, a2, h2, h10.2])) ?_
        refine lv_if_eq (tgt := 455) hx hb dL_law_450 (by decide) (fun _ => ?_) (fun hne => absurd rfl hne)
        refine lv_goto (tgt := 458) hx hb dL_law_455 (by decide) ?_
        refine W.widen (k := 15 + i) (n := 20006 + 6 * i) (by omega) (by omega) ?_
        exact hB K V O M RL G OM LF1 f r c0 1 op ck cv 0 (nI (f - r * w)) cur nk nv gc gu gl gm g1 _ _ _ (⟨l1, l2, l3, rfl, l5, Or.inr ⟨rfl, h7, o, h8, h9, h10⟩⟩) hP hD hS (lv_sub hl [2, 3, 4, 5, 6] rfl)
set_option maxHeartbeats 8000000 in
set_option maxRecDepth 100000 in
theorem law_2 {p : Program} {l : Launch} {e : Env} {s : State} {m : MethodId} {below : List Frame} {meth : Method} {c : Code} {b L : Nat} {xs : Nat → Int32} {D : va_G} {ad : Nat → Nat} {cs : Nat → ClassId} {bd : Nat → Nat} {cr : Nat → ClassId} {oa : Nat} {oc : ClassId} {w n nr i : Nat} (hC : LC p s m c b L xs D cs cr oc) (hl9 : l.stackTraces = false) (hi : i + 5 ≤ L) (hL : L ≤ 2562) (hz : lS w n nr) (hB : LB p l e s m below meth c b D ad cs bd cr oa oc w n nr i) (K V O M RL G OM LF : Nat → Int32) (f r c0 : Nat) (se op ck cv th held cur nk nv gc gu gl gm : Int32) (g : Nat → Int64) (H : Heap) (locs : List Loc) (ls : Array Slot) (hI : li w n K O RL G OM f r c0 se op ck cv held cur nk nv gc gu gl gm) (hP : va_P D classes (lwd ad cs bd cr oa oc w n nr K V O M RL G OM LF f r c0 se op ck cv th held cur nk nv gc gu gl gm g) H) (hD : va_D (fun q => s.heap.size ≤ q) (lwd ad cs bd cr oa oc w n nr K V O M RL G OM LF f r c0 se op ck cv th held cur nk nv gc gu gl gm g)) (hS : va_S (fun q => s.heap.size ≤ q) s.heap H locs) (hl : lv_has ls 7 [(0, .ref b), (1, .ref (ad 0)), (2, .ref (bd 0)), (3, .ref oa), (4, .int (nI i))]) : W p l e room_1 s m #[Value.ref b] below meth c H locs (14 + i) (20000 + 6 * i) (lw_Z below #[Value.ref b] s) (F0 m 164 ls []) := by
  obtain ⟨C0, hX, hbl, hK, hxh⟩ := hC
  have hx := C0.1
  have hb := C0.2.1
  have hbA : ¬ (fun q => s.heap.size ≤ q) b := Nat.not_le.mpr hbl
  have hA : ∀ q, s.heap.size ≤ q → (fun q => s.heap.size ≤ q) q := fun _ h => h
  have hKx : va_K D classes (xt cs) s := hK.sub [1, 2, 3, 4, 5, 6] rfl
  have hKm : va_K D classes (mt cr) s := hK.sub [7, 8, 9, 10] rfl
  have hKh : va_K D classes ((oc, .long) :: xt cs) s := hK.sub [0, 1, 2, 3, 4, 5, 6] rfl
  obtain ⟨z1, z2, z3, z4, z5⟩ := id hz
  obtain ⟨l1, l2, l3, l4, l5, l6⟩ := hI
  subst l4
  by_cases hbad : xs (i + 4) < 0 ∨ ¬ xs (i + 4) ≤ 200
  · have hP : va_P D classes ((ow oa oc g) :: ((xw ad cs w n nr K V O M RL G (nI f) (nI r) se (nI c0) op ck cv) ++ (mw bd cr w n K V OM LF th (nI f) (nI r) (nI (f - r * w)) se (nI c0) cur nk nv gc gu gl gm))) H := hP
    have hD : va_D (fun q => s.heap.size ≤ q) ((ow oa oc g) :: ((xw ad cs w n nr K V O M RL G (nI f) (nI r) se (nI c0) op ck cv) ++ (mw bd cr w n K V OM LF th (nI f) (nI r) (nI (f - r * w)) se (nI c0) cur nk nv gc gu gl gm))) := hD
    refine lv_aload_n hx hb dL_law_164 rfl (lv_at hl 1 rfl) ?_
    refine lv_aload_n hx hb dL_law_165 rfl (lv_at hl 0 rfl) ?_
    refine lv_iload hx hb dL_law_166 (lv_at hl 4 rfl) ?_
    refine lv_iconst (v := 1) hx hb dL_law_168 (by decide) ?_
    refine lv_iadd hx hb dL_law_169 ?_
    refine z_eq (show nI i + 1 = nI (i + 1) from nI_add i 1) ?_
    refine z_sld (j := (i + 1)) C0 hX hbl hbA hS (by omega) (by omega) dL_law_170 ?_
    refine lv_aload_n hx hb dL_law_171 rfl (lv_at hl 0 rfl) ?_
    refine lv_iload hx hb dL_law_172 (lv_at hl 4 rfl) ?_
    refine lv_iconst (v := 2) hx hb dL_law_174 (by decide) ?_
    refine lv_iadd hx hb dL_law_175 ?_
    refine z_eq (show nI i + 2 = nI (i + 2) from nI_add i 2) ?_
    refine z_sld (j := (i + 2)) C0 hX hbl hbA hS (by omega) (by omega) dL_law_176 ?_
    refine lv_aload_n hx hb dL_law_177 rfl (lv_at hl 0 rfl) ?_
    refine lv_iload hx hb dL_law_178 (lv_at hl 4 rfl) ?_
    refine lv_iconst (v := 3) hx hb dL_law_180 (by decide) ?_
    refine lv_iadd hx hb dL_law_181 ?_
    refine z_eq (show nI i + 3 = nI (i + 3) from nI_add i 3) ?_
    refine z_sld (j := (i + 3)) C0 hX hbl hbA hS (by omega) (by omega) dL_law_182 ?_
    refine lv_aload_n hx hb dL_law_183 rfl (lv_at hl 0 rfl) ?_
    refine lv_iload hx hb dL_law_184 (lv_at hl 4 rfl) ?_
    refine lv_iconst (v := 4) hx hb dL_law_186 (by decide) ?_
    refine lv_iadd hx hb dL_law_187 ?_
    refine z_eq (show nI i + 4 = nI (i + 4) from nI_add i 4) ?_
    refine z_sld (j := (i + 4)) C0 hX hbl hbA hS (by omega) (by omega) dL_law_188 ?_
    refine lv_aload_n hx hb dL_law_189 rfl (lv_at hl 3 rfl) ?_
    refine zl_callX (As := [.ref (ad 0), .int (xs (i + 1)), .int (xs (i + 2)), .int (xs (i + 3)), .int (xs (i + 4)), .ref oa]) (rest := []) [] (mw bd cr w n K V OM LF th (nI f) (nI r) (nI (f - r * w)) se (nI c0) cur nk nv gc gu gl gm) C0 (l_feedMany_x l D (ad 0) oa oc (xt cs) g (xw ad cs w n nr K V O M RL G (nI f) (nI r) se (nI c0) op ck cv) _ rfl (xs (i + 1)) (xs (i + 2)) (xs (i + 3)) (xs (i + 4)) hl9 hbad) zw_feedMany ⟨by decide, by decide⟩ ⟨rfl, rfl⟩ rfl hKh hP hD hS hA (fun q h => h) hxh hl.1 rfl (Nat.le_of_ble_eq_true rfl) dL_law_190 ⟨show 14 + i + 1 ≤ 601024 by omega, show 20000 + 6 * i + 6 ≤ 7293000 by omega⟩ (fun H locs hP hS => ?_)
    have hP : va_P D classes ((ow oa oc g) :: ((xw ad cs w n nr K V O M RL G (nI f) (nI r) se (nI c0) op ck cv) ++ (mw bd cr w n K V OM LF th (nI f) (nI r) (nI (f - r * w)) se (nI c0) cur nk nv gc gu gl gm))) H := hP
    have hD : va_D (fun q => s.heap.size ≤ q) ((ow oa oc g) :: ((xw ad cs w n nr K V O M RL G (nI f) (nI r) se (nI c0) op ck cv) ++ (mw bd cr w n K V OM LF th (nI f) (nI r) (nI (f - r * w)) se (nI c0) cur nk nv gc gu gl gm))) := hD
    refine W.widen (k := 15 + i) (n := 20006 + 6 * i) (by omega) (by omega) ?_
    refine lv_istore (lv' := [(5, .int 1), (0, .ref b), (1, .ref (ad 0)), (2, .ref (bd 0)), (3, .ref oa), (4, .int (nI i))]) hx hb dL_law_193 hl (by decide) rfl (fun ls hl => ?_)
    refine lv_aload_n hx hb dL_law_195 rfl (lv_at hl 3 rfl) ?_
    refine lv_aload_n hx hb dL_law_196 rfl (lv_at hl 1 rfl) ?_
    refine lv_iload hx hb dL_law_197 (lv_at hl 5 rfl) ?_
    refine lv_iconst (v := 1) hx hb dL_law_199 (by decide) ?_
    refine lv_iadd hx hb dL_law_200 ?_
    refine z_eq (show nI i + 1 = nI (i + 1) from nI_add i 1) ?_
    refine z_sld (j := (i + 1)) C0 hX hbl hbA hS (by omega) (by omega) dL_law_201 ?_
    refine lv_aload_n hx hb dL_law_202 rfl (lv_at hl 1 rfl) ?_
    refine lv_iload hx hb dL_law_203 (lv_at hl 5 rfl) ?_
    refine lv_iconst (v := 2) hx hb dL_law_205 (by decide) ?_
    refine lv_iadd hx hb dL_law_206 ?_
    refine z_eq (show nI i + 2 = nI (i + 2) from nI_add i 2) ?_
    refine z_sld (j := (i + 2)) C0 hX hbl hbA hS (by omega) (by omega) dL_law_207 ?_
    refine lv_aload_n hx hb dL_law_208 rfl (lv_at hl 1 rfl) ?_
    refine lv_iload hx hb dL_law_209 (lv_at hl 5 rfl) ?_
    refine lv_iconst (v := 3) hx hb dL_law_211 (by decide) ?_
    refine lv_iadd hx hb dL_law_212 ?_
    refine z_eq (show nI i + 3 = nI (i + 3) from nI_add i 3) ?_
    refine z_sld (j := (i + 3)) C0 hX hbl hbA hS (by omega) (by omega) dL_law_213 ?_
    refine lv_aload_n hx hb dL_law_214 rfl (lv_at hl 1 rfl) ?_
    refine lv_iload hx hb dL_law_215 (lv_at hl 5 rfl) ?_
    refine lv_iconst (v := 4) hx hb dL_law_217 (by decide) ?_
    refine lv_iadd hx hb dL_law_218 ?_
    refine z_eq (show nI i + 4 = nI (i + 4) from nI_add i 4) ?_
    refine z_sld (j := (i + 4)) C0 hX hbl hbA hS (by omega) (by omega) dL_law_219 ?_
    refine zi_callV (As := [.int (xs (i + 1)), .int (xs (i + 2)), .int (xs (i + 3)), .int (xs (i + 4))]) (rest := []) (q0 := 0) (ci := 1) ((ow oa oc g) :: (xw ad cs w n nr K V O M RL G (nI f) (nI r) se (nI c0) op ck cv)) [] C0 (m_feedMany_x l D bd cr w n K V OM LF th (nI f) (nI r) (nI (f - r * w)) se (nI c0) cur nk nv gc gu gl gm (xs (i + 1)) (xs (i + 2)) (xs (i + 3)) (xs (i + 4)) hbad) zv_L_X1_feedMany ⟨by decide, by decide⟩ ⟨rfl, rfl⟩ rfl hKm hP hD hS hA rfl rfl rfl hl.1 rfl (Nat.le_of_ble_eq_true rfl) dL_law_220 ⟨show 15 + i ≤ 601024 by omega, show 20006 + 6 * i ≤ 7293000 by omega⟩ (fun v2 _ H locs h2 hP hD hS => ?_)
    have hP : va_P D classes ((ow oa oc g) :: ((xw ad cs w n nr K V O M RL G (nI f) (nI r) se (nI c0) op ck cv) ++ (mw bd cr w n K V OM LF 1 (nI f) (nI r) (nI (f - r * w)) se (nI c0) cur nk nv gc gu gl gm))) H := hP
    have hD : va_D (fun q => s.heap.size ≤ q) ((ow oa oc g) :: ((xw ad cs w n nr K V O M RL G (nI f) (nI r) se (nI c0) op ck cv) ++ (mw bd cr w n K V OM LF 1 (nI f) (nI r) (nI (f - r * w)) se (nI c0) cur nk nv gc gu gl gm))) := hD
    refine lv_istore (lv' := [(6, .int v2), (5, .int 1), (0, .ref b), (1, .ref (ad 0)), (2, .ref (bd 0)), (3, .ref oa), (4, .int (nI i))]) hx hb dL_law_223 hl (by decide) rfl (fun ls hl => ?_)
    refine lv_aload_n hx hb dL_law_225 rfl (lv_at hl 4 rfl) ?_
    refine zr_callV (As := []) (rest := []) (q0 := 0) (ci := 1) (A := fun q => s.heap.size ≤ q) C0 (m_thrown l D bd cr w n K V OM LF 1 (nI f) (nI r) (nI (f - r * w)) se (nI c0) cur nk nv gc gu gl gm) zv_L_X1_thrown ⟨by decide, by decide⟩ ⟨rfl, rfl⟩ rfl hKm (z_subP (w1 := ((ow oa oc g) :: (xw ad cs w n nr K V O M RL G (nI f) (nI r) se (nI c0) op ck cv))) (w2 := []) hP) (z_subD (w1 := ((ow oa oc g) :: (xw ad cs w n nr K V O M RL G (nI f) (nI r) se (nI c0) op ck cv))) (w2 := []) hD) rfl rfl rfl hl.1 rfl (Nat.le_of_ble_eq_true rfl) dL_law_226 ⟨show 15 + i ≤ 601024 by omega, show 20006 + 6 * i ≤ 7293000 by omega⟩ (fun v3 h3 => ?_)
    subst h3
    refine lv_iload hx hb dL_law_229 (lv_at hl 1 rfl) ?_
    refine lv_icmp_eq (tgt := 236) hx hb dL_law_231 (by decide) (fun _ => ?_) (fun hne => absurd (rfl) hne)
    refine lv_iload hx hb dL_law_236 (lv_at hl 1 rfl) ?_
    refine lv_if_ne (tgt := 253) hx hb dL_law_238 (by decide) (fun _ => ?_) (fun hne => absurd hne (by decide))
    refine lv_goto (tgt := 458) hx hb dL_law_253 (by decide) ?_
    refine W.widen (k := 15 + i) (n := 20006 + 6 * i) (by omega) (by omega) ?_
    exact hB K V O M RL G OM LF f r c0 se op ck cv 1 (nI (f - r * w)) cur nk nv gc gu gl gm g _ _ _ (⟨l1, l2, l3, rfl, l5, l6⟩) hP hD hS (lv_sub hl [2, 3, 4, 5, 6] rfl)
  · obtain ⟨j, hj3, hj4⟩ : ∃ j : Nat, j ≤ 200 ∧ xs (i + 4) = nI j := nI_of2 (M := 200) (by decide) (fun z => hbad (Or.inl z)) (Classical.not_not.mp (fun z => hbad (Or.inr z)))
    rcases l6 with ⟨rfl, rfl, rfl, h6⟩ | ⟨rfl, h7, o, h8, h9, h10⟩
    · have hP : va_P D classes ((ow oa oc g) :: ((xw ad cs w n nr K V O M RL G (nI f) (nI r) 0 (nI 0) op ck cv) ++ (mw bd cr w n K V OM LF th (nI f) (nI r) (nI (f - r * w)) 0 (nI 0) 0 nk nv gc gu gl gm))) H := hP
      have hD : va_D (fun q => s.heap.size ≤ q) ((ow oa oc g) :: ((xw ad cs w n nr K V O M RL G (nI f) (nI r) 0 (nI 0) op ck cv) ++ (mw bd cr w n K V OM LF th (nI f) (nI r) (nI (f - r * w)) 0 (nI 0) 0 nk nv gc gu gl gm))) := hD
      refine lv_aload_n hx hb dL_law_164 rfl (lv_at hl 1 rfl) ?_
      refine lv_aload_n hx hb dL_law_165 rfl (lv_at hl 0 rfl) ?_
      refine lv_iload hx hb dL_law_166 (lv_at hl 4 rfl) ?_
      refine lv_iconst (v := 1) hx hb dL_law_168 (by decide) ?_
      refine lv_iadd hx hb dL_law_169 ?_
      refine z_eq (show nI i + 1 = nI (i + 1) from nI_add i 1) ?_
      refine z_sld (j := (i + 1)) C0 hX hbl hbA hS (by omega) (by omega) dL_law_170 ?_
      refine lv_aload_n hx hb dL_law_171 rfl (lv_at hl 0 rfl) ?_
      refine lv_iload hx hb dL_law_172 (lv_at hl 4 rfl) ?_
      refine lv_iconst (v := 2) hx hb dL_law_174 (by decide) ?_
      refine lv_iadd hx hb dL_law_175 ?_
      refine z_eq (show nI i + 2 = nI (i + 2) from nI_add i 2) ?_
      refine z_sld (j := (i + 2)) C0 hX hbl hbA hS (by omega) (by omega) dL_law_176 ?_
      refine lv_aload_n hx hb dL_law_177 rfl (lv_at hl 0 rfl) ?_
      refine lv_iload hx hb dL_law_178 (lv_at hl 4 rfl) ?_
      refine lv_iconst (v := 3) hx hb dL_law_180 (by decide) ?_
      refine lv_iadd hx hb dL_law_181 ?_
      refine z_eq (show nI i + 3 = nI (i + 3) from nI_add i 3) ?_
      refine z_sld (j := (i + 3)) C0 hX hbl hbA hS (by omega) (by omega) dL_law_182 ?_
      refine lv_aload_n hx hb dL_law_183 rfl (lv_at hl 0 rfl) ?_
      refine lv_iload hx hb dL_law_184 (lv_at hl 4 rfl) ?_
      refine lv_iconst (v := 4) hx hb dL_law_186 (by decide) ?_
      refine lv_iadd hx hb dL_law_187 ?_
      refine z_eq (show nI i + 4 = nI (i + 4) from nI_add i 4) ?_
      refine z_sld (j := (i + 4)) C0 hX hbl hbA hS (by omega) (by omega) dL_law_188 ?_
      refine z_eq (show (xs (i + 4)) = nI j from hj4) ?_
      refine lv_aload_n hx hb dL_law_189 rfl (lv_at hl 3 rfl) ?_
      refine zl_call (As := [.ref (ad 0), .int (xs (i + 1)), .int (xs (i + 2)), .int (xs (i + 3)), .int (nI j), .ref oa]) (rest := []) [] (mw bd cr w n K V OM LF th (nI f) (nI r) (nI (f - r * w)) 0 (nI 0) 0 nk nv gc gu gl gm) C0 (l_feedMany_k l D (ad 0) oa oc (xt cs) g (xw ad cs w n nr K V O M RL G (nI f) (nI r) 0 (nI 0) op ck cv) _ rfl (xs (i + 1)) (xs (i + 2)) (xs (i + 3)) (nI j) (c_feedMany l D ad cs w n nr (by omega) (by omega) K V O M RL G (nI 0) op ck cv (xs (i + 1)) (xs (i + 2)) (xs (i + 3)) j r f hj3 l1 (by omega) z1 (by omega) h6)) zw_feedMany ⟨by decide, by decide⟩ ⟨rfl, rfl⟩ rfl hKh hP hD hS hA hl.1 rfl (Nat.le_of_ble_eq_true rfl) dL_law_190 ⟨show 14 + i ≤ 601024 by omega, show 20000 + 6 * i ≤ 7293000 by omega⟩ (fun v1 u1 H locs h1 hP hD hS => ?_)
      obtain ⟨⟨O1, r1⟩, g1⟩ := u1
      obtain ⟨a1, v, ⟨a4, a5, a6⟩, a3⟩ := h1
      dsimp only at a3 a5 a6 hP hD
      subst a1
      subst a5
      have hP : va_P D classes ((ow oa oc g1) :: ((xw ad cs w n nr (fm_K K f (xs (i + 1)) (xs (i + 2)) (min j (n - f))) (fm_V V f (xs (i + 3)) (min j (n - f))) O1 M RL G (nI (f + min j (n - f))) (nI (fm_r w r f (min j (n - f)))) 0 (nI 0) op ck cv) ++ (mw bd cr w n K V OM LF th (nI f) (nI r) (nI (f - r * w)) 0 (nI 0) 0 nk nv gc gu gl gm))) H := hP
      have hD : va_D (fun q => s.heap.size ≤ q) ((ow oa oc g1) :: ((xw ad cs w n nr (fm_K K f (xs (i + 1)) (xs (i + 2)) (min j (n - f))) (fm_V V f (xs (i + 3)) (min j (n - f))) O1 M RL G (nI (f + min j (n - f))) (nI (fm_r w r f (min j (n - f)))) 0 (nI 0) op ck cv) ++ (mw bd cr w n K V OM LF th (nI f) (nI r) (nI (f - r * w)) 0 (nI 0) 0 nk nv gc gu gl gm))) := hD
      refine lv_istore (lv' := [(5, .int 0), (0, .ref b), (1, .ref (ad 0)), (2, .ref (bd 0)), (3, .ref oa), (4, .int (nI i))]) hx hb dL_law_193 hl (by decide) rfl (fun ls hl => ?_)
      refine lv_aload_n hx hb dL_law_195 rfl (lv_at hl 3 rfl) ?_
      refine lv_aload_n hx hb dL_law_196 rfl (lv_at hl 1 rfl) ?_
      refine lv_iload hx hb dL_law_197 (lv_at hl 5 rfl) ?_
      refine lv_iconst (v := 1) hx hb dL_law_199 (by decide) ?_
      refine lv_iadd hx hb dL_law_200 ?_
      refine z_eq (show nI i + 1 = nI (i + 1) from nI_add i 1) ?_
      refine z_sld (j := (i + 1)) C0 hX hbl hbA hS (by omega) (by omega) dL_law_201 ?_
      refine lv_aload_n hx hb dL_law_202 rfl (lv_at hl 1 rfl) ?_
      refine lv_iload hx hb dL_law_203 (lv_at hl 5 rfl) ?_
      refine lv_iconst (v := 2) hx hb dL_law_205 (by decide) ?_
      refine lv_iadd hx hb dL_law_206 ?_
      refine z_eq (show nI i + 2 = nI (i + 2) from nI_add i 2) ?_
      refine z_sld (j := (i + 2)) C0 hX hbl hbA hS (by omega) (by omega) dL_law_207 ?_
      refine lv_aload_n hx hb dL_law_208 rfl (lv_at hl 1 rfl) ?_
      refine lv_iload hx hb dL_law_209 (lv_at hl 5 rfl) ?_
      refine lv_iconst (v := 3) hx hb dL_law_211 (by decide) ?_
      refine lv_iadd hx hb dL_law_212 ?_
      refine z_eq (show nI i + 3 = nI (i + 3) from nI_add i 3) ?_
      refine z_sld (j := (i + 3)) C0 hX hbl hbA hS (by omega) (by omega) dL_law_213 ?_
      refine lv_aload_n hx hb dL_law_214 rfl (lv_at hl 1 rfl) ?_
      refine lv_iload hx hb dL_law_215 (lv_at hl 5 rfl) ?_
      refine lv_iconst (v := 4) hx hb dL_law_217 (by decide) ?_
      refine lv_iadd hx hb dL_law_218 ?_
      refine z_eq (show nI i + 4 = nI (i + 4) from nI_add i 4) ?_
      refine z_sld (j := (i + 4)) C0 hX hbl hbA hS (by omega) (by omega) dL_law_219 ?_
      refine z_eq (show (xs (i + 4)) = nI j from hj4) ?_
      refine zi_callV (As := [.int (xs (i + 1)), .int (xs (i + 2)), .int (xs (i + 3)), .int (nI j)]) (rest := []) (q0 := 0) (ci := 1) ((ow oa oc g1) :: (xw ad cs w n nr (fm_K K f (xs (i + 1)) (xs (i + 2)) (min j (n - f))) (fm_V V f (xs (i + 3)) (min j (n - f))) O1 M RL G (nI (f + min j (n - f))) (nI (fm_r w r f (min j (n - f)))) 0 (nI 0) op ck cv)) [] C0 (m_feedMany l D bd cr w n K V OM LF th (nI 0) 0 nk nv gc gu gl gm (xs (i + 1)) (xs (i + 2)) (xs (i + 3)) j r f hj3 l1 z5 z1 (by omega) l2) zv_L_X1_feedMany ⟨by decide, by decide⟩ ⟨rfl, rfl⟩ rfl hKm hP hD hS hA rfl rfl rfl hl.1 rfl (Nat.le_of_ble_eq_true rfl) dL_law_220 ⟨show 14 + i ≤ 601024 by omega, show 20000 + 6 * i ≤ 7293000 by omega⟩ (fun v2 r2 H locs h2 hP hD hS => ?_)
      obtain ⟨b1, b2⟩ := h2
      subst b2
      have hP : va_P D classes ((ow oa oc g1) :: ((xw ad cs w n nr (fm_K K f (xs (i + 1)) (xs (i + 2)) (min j (n - f))) (fm_V V f (xs (i + 3)) (min j (n - f))) O1 M RL G (nI (f + min j (n - f))) (nI (fm_r w r f (min j (n - f)))) 0 (nI 0) op ck cv) ++ (mw bd cr w n (fm_K K f (xs (i + 1)) (xs (i + 2)) (min j (n - f))) (fm_V V f (xs (i + 3)) (min j (n - f))) OM LF 0 (nI (f + min j (n - f))) (nI (fm_r w r f (min j (n - f)))) (nI (f + min j (n - f) - fm_r w r f (min j (n - f)) * w)) 0 (nI 0) 0 nk nv gc gu gl gm))) H := hP
      have hD : va_D (fun q => s.heap.size ≤ q) ((ow oa oc g1) :: ((xw ad cs w n nr (fm_K K f (xs (i + 1)) (xs (i + 2)) (min j (n - f))) (fm_V V f (xs (i + 3)) (min j (n - f))) O1 M RL G (nI (f + min j (n - f))) (nI (fm_r w r f (min j (n - f)))) 0 (nI 0) op ck cv) ++ (mw bd cr w n (fm_K K f (xs (i + 1)) (xs (i + 2)) (min j (n - f))) (fm_V V f (xs (i + 3)) (min j (n - f))) OM LF 0 (nI (f + min j (n - f))) (nI (fm_r w r f (min j (n - f)))) (nI (f + min j (n - f) - fm_r w r f (min j (n - f)) * w)) 0 (nI 0) 0 nk nv gc gu gl gm))) := hD
      refine lv_istore (lv' := [(6, .int v2), (5, .int 0), (0, .ref b), (1, .ref (ad 0)), (2, .ref (bd 0)), (3, .ref oa), (4, .int (nI i))]) hx hb dL_law_223 hl (by decide) rfl (fun ls hl => ?_)
      refine lv_aload_n hx hb dL_law_225 rfl (lv_at hl 4 rfl) ?_
      refine zr_callV (As := []) (rest := []) (q0 := 0) (ci := 1) (A := fun q => s.heap.size ≤ q) C0 (m_thrown l D bd cr w n (fm_K K f (xs (i + 1)) (xs (i + 2)) (min j (n - f))) (fm_V V f (xs (i + 3)) (min j (n - f))) OM LF 0 (nI (f + min j (n - f))) (nI (fm_r w r f (min j (n - f)))) (nI (f + min j (n - f) - fm_r w r f (min j (n - f)) * w)) 0 (nI 0) 0 nk nv gc gu gl gm) zv_L_X1_thrown ⟨by decide, by decide⟩ ⟨rfl, rfl⟩ rfl hKm (z_subP (w1 := ((ow oa oc g1) :: (xw ad cs w n nr (fm_K K f (xs (i + 1)) (xs (i + 2)) (min j (n - f))) (fm_V V f (xs (i + 3)) (min j (n - f))) O1 M RL G (nI (f + min j (n - f))) (nI (fm_r w r f (min j (n - f)))) 0 (nI 0) op ck cv))) (w2 := []) hP) (z_subD (w1 := ((ow oa oc g1) :: (xw ad cs w n nr (fm_K K f (xs (i + 1)) (xs (i + 2)) (min j (n - f))) (fm_V V f (xs (i + 3)) (min j (n - f))) O1 M RL G (nI (f + min j (n - f))) (nI (fm_r w r f (min j (n - f)))) 0 (nI 0) op ck cv))) (w2 := []) hD) rfl rfl rfl hl.1 rfl (Nat.le_of_ble_eq_true rfl) dL_law_226 ⟨show 14 + i ≤ 601024 by omega, show 20000 + 6 * i ≤ 7293000 by omega⟩ (fun v3 h3 => ?_)
      subst h3
      refine lv_iload hx hb dL_law_229 (lv_at hl 1 rfl) ?_
      refine lv_icmp_eq (tgt := 236) hx hb dL_law_231 (by decide) (fun _ => ?_) (fun hne => absurd (rfl) hne)
      refine lv_iload hx hb dL_law_236 (lv_at hl 1 rfl) ?_
      refine lv_if_ne (tgt := 253) hx hb dL_law_238 (by decide) (fun hne => absurd rfl hne) (fun _ => ?_)
      refine lv_aload_n hx hb dL_law_241 rfl (lv_at hl 5 rfl) ?_
      refine lv_iconst (v := 0) hx hb dL_law_242 (by decide) ?_
      refine va_lald hx hb hK hP 0 0 rfl rfl (vp_in_nI (n := 0) (N := 1) (by decide) (by decide)) dL_law_243 ?_
      refine lv_iload hx hb dL_law_244 (lv_at hl 0 rfl) ?_
      refine lv_i2l (v := v2.toInt64) hx hb dL_law_246 rfl ?_
      refine W.lcmp hx hb dL_law_247 ?_
      refine z_eq (show lg_cmp (g1 (0 : Int32).toNatClampNeg) v2.toInt64 = 0 from cmp_eq (by rw [sb_cl0, a3, a4, b1])) ?_
      refine lv_if_eq (tgt := 253) hx hb dL_law_248 (by decide) (fun _ => ?_) (fun hne => absurd rfl hne)
      refine lv_goto (tgt := 458) hx hb dL_law_253 (by decide) ?_
      refine W.widen (k := 15 + i) (n := 20006 + 6 * i) (by omega) (by omega) ?_
      exact hB (fm_K K f (xs (i + 1)) (xs (i + 2)) (min j (n - f))) (fm_V V f (xs (i + 3)) (min j (n - f))) O1 M RL G OM LF (f + min j (n - f)) (fm_r w r f (min j (n - f))) 0 0 op ck cv 0 (nI (f + min j (n - f) - fm_r w r f (min j (n - f)) * w)) 0 nk nv gc gu gl gm g1 _ _ _ (⟨by omega, xW_fm l2 z1 _, fun h => fm_le l2 z1 l3 _ h, rfl, l5, Or.inl ⟨rfl, rfl, rfl, a6⟩⟩) hP hD hS (lv_sub hl [2, 3, 4, 5, 6] rfl)
    · have hP : va_P D classes ((ow oa oc g) :: ((xw ad cs w n nr K V O M RL G (nI f) (nI r) 1 (nI c0) op ck cv) ++ (mw bd cr w n K V OM LF th (nI f) (nI r) (nI (f - r * w)) 1 (nI c0) cur nk nv gc gu gl gm))) H := hP
      have hD : va_D (fun q => s.heap.size ≤ q) ((ow oa oc g) :: ((xw ad cs w n nr K V O M RL G (nI f) (nI r) 1 (nI c0) op ck cv) ++ (mw bd cr w n K V OM LF th (nI f) (nI r) (nI (f - r * w)) 1 (nI c0) cur nk nv gc gu gl gm))) := hD
      refine lv_aload_n hx hb dL_law_164 rfl (lv_at hl 1 rfl) ?_
      refine lv_aload_n hx hb dL_law_165 rfl (lv_at hl 0 rfl) ?_
      refine lv_iload hx hb dL_law_166 (lv_at hl 4 rfl) ?_
      refine lv_iconst (v := 1) hx hb dL_law_168 (by decide) ?_
      refine lv_iadd hx hb dL_law_169 ?_
      refine z_eq (show nI i + 1 = nI (i + 1) from nI_add i 1) ?_
      refine z_sld (j := (i + 1)) C0 hX hbl hbA hS (by omega) (by omega) dL_law_170 ?_
      refine lv_aload_n hx hb dL_law_171 rfl (lv_at hl 0 rfl) ?_
      refine lv_iload hx hb dL_law_172 (lv_at hl 4 rfl) ?_
      refine lv_iconst (v := 2) hx hb dL_law_174 (by decide) ?_
      refine lv_iadd hx hb dL_law_175 ?_
      refine z_eq (show nI i + 2 = nI (i + 2) from nI_add i 2) ?_
      refine z_sld (j := (i + 2)) C0 hX hbl hbA hS (by omega) (by omega) dL_law_176 ?_
      refine lv_aload_n hx hb dL_law_177 rfl (lv_at hl 0 rfl) ?_
      refine lv_iload hx hb dL_law_178 (lv_at hl 4 rfl) ?_
      refine lv_iconst (v := 3) hx hb dL_law_180 (by decide) ?_
      refine lv_iadd hx hb dL_law_181 ?_
      refine z_eq (show nI i + 3 = nI (i + 3) from nI_add i 3) ?_
      refine z_sld (j := (i + 3)) C0 hX hbl hbA hS (by omega) (by omega) dL_law_182 ?_
      refine lv_aload_n hx hb dL_law_183 rfl (lv_at hl 0 rfl) ?_
      refine lv_iload hx hb dL_law_184 (lv_at hl 4 rfl) ?_
      refine lv_iconst (v := 4) hx hb dL_law_186 (by decide) ?_
      refine lv_iadd hx hb dL_law_187 ?_
      refine z_eq (show nI i + 4 = nI (i + 4) from nI_add i 4) ?_
      refine z_sld (j := (i + 4)) C0 hX hbl hbA hS (by omega) (by omega) dL_law_188 ?_
      refine z_eq (show (xs (i + 4)) = nI j from hj4) ?_
      refine lv_aload_n hx hb dL_law_189 rfl (lv_at hl 3 rfl) ?_
      refine zl_call (As := [.ref (ad 0), .int (xs (i + 1)), .int (xs (i + 2)), .int (xs (i + 3)), .int (nI j), .ref oa]) (rest := []) [] (mw bd cr w n K V OM LF th (nI f) (nI r) (nI (f - r * w)) 1 (nI c0) cur nk nv gc gu gl gm) C0 (l_feedMany_k l D (ad 0) oa oc (xt cs) g (xw ad cs w n nr K V O M RL G (nI f) (nI r) 1 (nI c0) op ck cv) _ rfl (xs (i + 1)) (xs (i + 2)) (xs (i + 3)) (nI j) (c_feedMany_s l D ad cs w n nr (by omega) (by omega) K V O M RL G (nI f) (nI r) (nI c0) op ck cv (xs (i + 1)) (xs (i + 2)) (xs (i + 3)) j hj3)) zw_feedMany ⟨by decide, by decide⟩ ⟨rfl, rfl⟩ rfl hKh hP hD hS hA hl.1 rfl (Nat.le_of_ble_eq_true rfl) dL_law_190 ⟨show 14 + i ≤ 601024 by omega, show 20000 + 6 * i ≤ 7293000 by omega⟩ (fun v1 u1 H locs h1 hP hD hS => ?_)
      obtain ⟨u0, g1⟩ := u1
      obtain ⟨a1, v, a2, a3⟩ := h1
      dsimp only at a3 hP hD
      subst a1
      have hP : va_P D classes ((ow oa oc g1) :: ((xw ad cs w n nr K V O M RL G (nI f) (nI r) 1 (nI c0) op ck cv) ++ (mw bd cr w n K V OM LF th (nI f) (nI r) (nI (f - r * w)) 1 (nI c0) cur nk nv gc gu gl gm))) H := hP
      have hD : va_D (fun q => s.heap.size ≤ q) ((ow oa oc g1) :: ((xw ad cs w n nr K V O M RL G (nI f) (nI r) 1 (nI c0) op ck cv) ++ (mw bd cr w n K V OM LF th (nI f) (nI r) (nI (f - r * w)) 1 (nI c0) cur nk nv gc gu gl gm))) := hD
      refine lv_istore (lv' := [(5, .int 0), (0, .ref b), (1, .ref (ad 0)), (2, .ref (bd 0)), (3, .ref oa), (4, .int (nI i))]) hx hb dL_law_193 hl (by decide) rfl (fun ls hl => ?_)
      refine lv_aload_n hx hb dL_law_195 rfl (lv_at hl 3 rfl) ?_
      refine lv_aload_n hx hb dL_law_196 rfl (lv_at hl 1 rfl) ?_
      refine lv_iload hx hb dL_law_197 (lv_at hl 5 rfl) ?_
      refine lv_iconst (v := 1) hx hb dL_law_199 (by decide) ?_
      refine lv_iadd hx hb dL_law_200 ?_
      refine z_eq (show nI i + 1 = nI (i + 1) from nI_add i 1) ?_
      refine z_sld (j := (i + 1)) C0 hX hbl hbA hS (by omega) (by omega) dL_law_201 ?_
      refine lv_aload_n hx hb dL_law_202 rfl (lv_at hl 1 rfl) ?_
      refine lv_iload hx hb dL_law_203 (lv_at hl 5 rfl) ?_
      refine lv_iconst (v := 2) hx hb dL_law_205 (by decide) ?_
      refine lv_iadd hx hb dL_law_206 ?_
      refine z_eq (show nI i + 2 = nI (i + 2) from nI_add i 2) ?_
      refine z_sld (j := (i + 2)) C0 hX hbl hbA hS (by omega) (by omega) dL_law_207 ?_
      refine lv_aload_n hx hb dL_law_208 rfl (lv_at hl 1 rfl) ?_
      refine lv_iload hx hb dL_law_209 (lv_at hl 5 rfl) ?_
      refine lv_iconst (v := 3) hx hb dL_law_211 (by decide) ?_
      refine lv_iadd hx hb dL_law_212 ?_
      refine z_eq (show nI i + 3 = nI (i + 3) from nI_add i 3) ?_
      refine z_sld (j := (i + 3)) C0 hX hbl hbA hS (by omega) (by omega) dL_law_213 ?_
      refine lv_aload_n hx hb dL_law_214 rfl (lv_at hl 1 rfl) ?_
      refine lv_iload hx hb dL_law_215 (lv_at hl 5 rfl) ?_
      refine lv_iconst (v := 4) hx hb dL_law_217 (by decide) ?_
      refine lv_iadd hx hb dL_law_218 ?_
      refine z_eq (show nI i + 4 = nI (i + 4) from nI_add i 4) ?_
      refine z_sld (j := (i + 4)) C0 hX hbl hbA hS (by omega) (by omega) dL_law_219 ?_
      refine z_eq (show (xs (i + 4)) = nI j from hj4) ?_
      refine zi_callV (As := [.int (xs (i + 1)), .int (xs (i + 2)), .int (xs (i + 3)), .int (nI j)]) (rest := []) (q0 := 0) (ci := 1) ((ow oa oc g1) :: (xw ad cs w n nr K V O M RL G (nI f) (nI r) 1 (nI c0) op ck cv)) [] C0 (m_feedMany_s l D bd cr w n K V OM LF th (nI f) (nI r) (nI (f - r * w)) (nI c0) cur nk nv gc gu gl gm (xs (i + 1)) (xs (i + 2)) (xs (i + 3)) j hj3) zv_L_X1_feedMany ⟨by decide, by decide⟩ ⟨rfl, rfl⟩ rfl hKm hP hD hS hA rfl rfl rfl hl.1 rfl (Nat.le_of_ble_eq_true rfl) dL_law_220 ⟨show 14 + i ≤ 601024 by omega, show 20000 + 6 * i ≤ 7293000 by omega⟩ (fun v2 _ H locs h2 hP hD hS => ?_)
      have hP : va_P D classes ((ow oa oc g1) :: ((xw ad cs w n nr K V O M RL G (nI f) (nI r) 1 (nI c0) op ck cv) ++ (mw bd cr w n K V OM LF 0 (nI f) (nI r) (nI (f - r * w)) 1 (nI c0) cur nk nv gc gu gl gm))) H := hP
      have hD : va_D (fun q => s.heap.size ≤ q) ((ow oa oc g1) :: ((xw ad cs w n nr K V O M RL G (nI f) (nI r) 1 (nI c0) op ck cv) ++ (mw bd cr w n K V OM LF 0 (nI f) (nI r) (nI (f - r * w)) 1 (nI c0) cur nk nv gc gu gl gm))) := hD
      refine lv_istore (lv' := [(6, .int v2), (5, .int 0), (0, .ref b), (1, .ref (ad 0)), (2, .ref (bd 0)), (3, .ref oa), (4, .int (nI i))]) hx hb dL_law_223 hl (by decide) rfl (fun ls hl => ?_)
      refine lv_aload_n hx hb dL_law_225 rfl (lv_at hl 4 rfl) ?_
      refine zr_callV (As := []) (rest := []) (q0 := 0) (ci := 1) (A := fun q => s.heap.size ≤ q) C0 (m_thrown l D bd cr w n K V OM LF 0 (nI f) (nI r) (nI (f - r * w)) 1 (nI c0) cur nk nv gc gu gl gm) zv_L_X1_thrown ⟨by decide, by decide⟩ ⟨rfl, rfl⟩ rfl hKm (z_subP (w1 := ((ow oa oc g1) :: (xw ad cs w n nr K V O M RL G (nI f) (nI r) 1 (nI c0) op ck cv))) (w2 := []) hP) (z_subD (w1 := ((ow oa oc g1) :: (xw ad cs w n nr K V O M RL G (nI f) (nI r) 1 (nI c0) op ck cv))) (w2 := []) hD) rfl rfl rfl hl.1 rfl (Nat.le_of_ble_eq_true rfl) dL_law_226 ⟨show 14 + i ≤ 601024 by omega, show 20000 + 6 * i ≤ 7293000 by omega⟩ (fun v3 h3 => ?_)
      subst h3
      refine lv_iload hx hb dL_law_229 (lv_at hl 1 rfl) ?_
      refine lv_icmp_eq (tgt := 236) hx hb dL_law_231 (by decide) (fun _ => ?_) (fun hne => absurd (rfl) hne)
      refine lv_iload hx hb dL_law_236 (lv_at hl 1 rfl) ?_
      refine lv_if_ne (tgt := 253) hx hb dL_law_238 (by decide) (fun hne => absurd rfl hne) (fun _ => ?_)
      refine lv_aload_n hx hb dL_law_241 rfl (lv_at hl 5 rfl) ?_
      refine lv_iconst (v := 0) hx hb dL_law_242 (by decide) ?_
      refine va_lald hx hb hK hP 0 0 rfl rfl (vp_in_nI (n := 0) (N := 1) (by decide) (by decide)) dL_law_243 ?_
      refine lv_iload hx hb dL_law_244 (lv_at hl 0 rfl) ?_
      refine lv_i2l (v := v2.toInt64) hx hb dL_law_246 rfl ?_
      refine W.lcmp hx hb dL_law_247 ?_
      refine z_eq (show lg_cmp (g1 (0 : Int32).toNatClampNeg) v2.toInt64 = 0 from cmp_eq (by rw [sb_cl0, a3, a2, h2])) ?_
      refine lv_if_eq (tgt := 253) hx hb dL_law_248 (by decide) (fun _ => ?_) (fun hne => absurd rfl hne)
      refine lv_goto (tgt := 458) hx hb dL_law_253 (by decide) ?_
      refine W.widen (k := 15 + i) (n := 20006 + 6 * i) (by omega) (by omega) ?_
      exact hB K V O M RL G OM LF f r c0 1 op ck cv 0 (nI (f - r * w)) cur nk nv gc gu gl gm g1 _ _ _ (⟨l1, l2, l3, rfl, l5, Or.inr ⟨rfl, h7, o, h8, h9, h10⟩⟩) hP hD hS (lv_sub hl [2, 3, 4, 5, 6] rfl)
