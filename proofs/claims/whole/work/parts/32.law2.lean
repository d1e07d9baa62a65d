set_option maxHeartbeats 8000000 in
set_option maxRecDepth 100000 in
theorem law_0 {p : Program} {l : Launch} {e : Env} {s : State} {m : MethodId} {below : List Frame} {meth : Method} {c : Code} {b L : Nat} {xs : Nat → Int32} {D : va_G} {ad : Nat → Nat} {cs : Nat → ClassId} {bd : Nat → Nat} {cr : Nat → ClassId} {oa : Nat} {oc : ClassId} {w n nr i : Nat} (hC : LC p s m c b L xs D cs cr oc) (hl9 : l.stackTraces = false) (hi : i + 5 ≤ L) (hL : L ≤ 2562) (hz : lS w n nr) (hB : LB p l e s m below meth c b D ad cs bd cr oa oc w n nr i) (K V O M RL G OM LF : Nat → Int32) (f r c0 : Nat) (se op ck cv th held cur nk nv gc gu gl gm : Int32) (g : Nat → Int64) (H : Heap) (locs : List Loc) (ls : Array Slot) (hI : li w n K O RL G OM f r c0 se op ck cv held cur nk nv gc gu gl gm) (hP : va_P D classes (lwd ad cs bd cr oa oc w n nr K V O M RL G OM LF f r c0 se op ck cv th held cur nk nv gc gu gl gm g) H) (hD : va_D (fun q => s.heap.size ≤ q) (lwd ad cs bd cr oa oc w n nr K V O M RL G OM LF f r c0 se op ck cv th held cur nk nv gc gu gl gm g)) (hS : va_S (fun q => s.heap.size ≤ q) s.heap H locs) (hl : lv_has ls 7 [(0, .ref b), (1, .ref (ad 0)), (2, .ref (bd 0)), (3, .ref oa), (4, .int (nI i))]) : W p l e room_1 s m #[Value.ref b] below meth c H locs (14 + i) (20000 + 6 * i) (lw_Z below #[Value.ref b] s) (F0 m 116 ls []) := by
  obtain ⟨C0, hX, hbl, hK, hxh⟩ := hC
  have hx := C0.1
  have hb := C0.2.1
  have hbA : ¬ (fun q => s.heap.size ≤ q) b := Nat.not_le.mpr hbl
  have hA : ∀ q, s.heap.size ≤ q → (fun q => s.heap.size ≤ q) q := fun _ h => h
  have hKx : va_K D classes (xt cs) s := hK.sub [1, 2, 3, 4, 5, 6] rfl
  have hKm : va_K D classes (mt cr) s := hK.sub [7, 8, 9, 10] rfl
  have hKh : va_K D classes ((oc, .long) :: xt cs) s := hK.sub [0, 1, 2, 3, 4, 5, 6] rfl
  obtain ⟨z1, z2, z3, z4, z5⟩ := id hz
  obtain ⟨l1, l2, l3, l4, l5, l6⟩ := hI
  subst l4
  have hP : va_P D classes ((ow oa oc g) :: ((xw ad cs w n nr K V O M RL G (nI f) (nI r) se (nI c0) op ck cv) ++ (mw bd cr w n K V OM LF th (nI f) (nI r) (nI (f - r * w)) se (nI c0) cur nk nv gc gu gl gm))) H := hP
  have hD : va_D (fun q => s.heap.size ≤ q) ((ow oa oc g) :: ((xw ad cs w n nr K V O M RL G (nI f) (nI r) se (nI c0) op ck cv) ++ (mw bd cr w n K V OM LF th (nI f) (nI r) (nI (f - r * w)) se (nI c0) cur nk nv gc gu gl gm))) := hD
  refine lv_aload_n hx hb dL_law_116 rfl (lv_at hl 1 rfl) ?_
  refine zv_callV (As := []) (rest := []) (q0 := 0) (ci := 0) [(ow oa oc g)] (mw bd cr w n K V OM LF th (nI f) (nI r) (nI (f - r * w)) se (nI c0) cur nk nv gc gu gl gm) C0 (c_reset l D ad cs w n nr (by omega) (by omega) K V O M RL G (nI f) (nI r) se (nI c0) op ck cv) zv_L_X0_reset ⟨by decide, by decide⟩ ⟨rfl, rfl⟩ rfl hKx hP hD hS hA rfl rfl rfl hl.1 rfl (Nat.le_of_ble_eq_true rfl) dL_law_117 ⟨show 14 + i ≤ 601024 by omega, show 20000 + 6 * i ≤ 7293000 by omega⟩ (fun G1 H locs hg hP hD hS => ?_)
  have hP : va_P D classes ((ow oa oc g) :: ((xw ad cs w n nr K V O M RL G1 (nI 0) (nI 0) 0 (nI 0) 0 0 0) ++ (mw bd cr w n K V OM LF th (nI f) (nI r) (nI (f - r * w)) se (nI c0) cur nk nv gc gu gl gm))) H := hP
  have hD : va_D (fun q => s.heap.size ≤ q) ((ow oa oc g) :: ((xw ad cs w n nr K V O M RL G1 (nI 0) (nI 0) 0 (nI 0) 0 0 0) ++ (mw bd cr w n K V OM LF th (nI f) (nI r) (nI (f - r * w)) se (nI c0) cur nk nv gc gu gl gm))) := hD
  refine lv_aload_n hx hb dL_law_120 rfl (lv_at hl 2 rfl) ?_
  refine zv_callV (As := []) (rest := []) (q0 := 0) (ci := 1) ((ow oa oc g) :: (xw ad cs w n nr K V O M RL G1 (nI 0) (nI 0) 0 (nI 0) 0 0 0)) [] C0 (m_reset l D bd cr w n K V OM LF th (nI f) (nI r) (nI (f - r * w)) se (nI c0) cur nk nv gc gu gl gm) zv_L_X1_reset ⟨by decide, by decide⟩ ⟨rfl, rfl⟩ rfl hKm hP hD hS hA rfl rfl rfl hl.1 rfl (Nat.le_of_ble_eq_true rfl) dL_law_121 ⟨show 14 + i ≤ 601024 by omega, show 20000 + 6 * i ≤ 7293000 by omega⟩ (fun u_ H locs h_ hP hD hS => ?_)
  have hP : va_P D classes ((ow oa oc g) :: ((xw ad cs w n nr K V O M RL G1 (nI 0) (nI 0) 0 (nI 0) 0 0 0) ++ (mw bd cr w n K V OM LF 0 (nI 0) (nI 0) 0 0 (nI 0) 0 nk nv gc gu gl gm))) H := hP
  have hD : va_D (fun q => s.heap.size ≤ q) ((ow oa oc g) :: ((xw ad cs w n nr K V O M RL G1 (nI 0) (nI 0) 0 (nI 0) 0 0 0) ++ (mw bd cr w n K V OM LF 0 (nI 0) (nI 0) 0 0 (nI 0) 0 nk nv gc gu gl gm))) := hD
  refine lv_goto (tgt := 458) hx hb dL_law_124 (by decide) ?_
  refine W.widen (k := 15 + i) (n := 20006 + 6 * i) (by omega) (by omega) ?_
  exact hB K V O M RL G1 OM LF 0 0 0 0 0 0 0 0 0 0 nk nv gc gu gl gm g _ _ _ (⟨Nat.zero_le _, ⟨by omega, by omega⟩, fun h => absurd h (Nat.lt_irrefl 0), by rw [Nat.zero_mul]; rfl, Or.inl ⟨rfl, rfl, rfl, hg⟩, Or.inl ⟨rfl, rfl, rfl, xO_0 w n K O⟩⟩) hP hD hS (lv_sub hl [0, 1, 2, 3, 4] rfl)
set_option maxHeartbeats 8000000 in
set_option maxRecDepth 100000 in
theorem law_1 {p : Program} {l : Launch} {e : Env} {s : State} {m : MethodId} {below : List Frame} {meth : Method} {c : Code} {b L : Nat} {xs : Nat → Int32} {D : va_G} {ad : Nat → Nat} {cs : Nat → ClassId} {bd : Nat → Nat} {cr : Nat → ClassId} {oa : Nat} {oc : ClassId} {w n nr i : Nat} (hC : LC p s m c b L xs D cs cr oc) (hl9 : l.stackTraces = false) (hi : i + 5 ≤ L) (hL : L ≤ 2562) (hz : lS w n nr) (hB : LB p l e s m below meth c b D ad cs bd cr oa oc w n nr i) (K V O M RL G OM LF : Nat → Int32) (f r c0 : Nat) (se op ck cv th held cur nk nv gc gu gl gm : Int32) (g : Nat → Int64) (H : Heap) (locs : List Loc) (ls : Array Slot) (hI : li w n K O RL G OM f r c0 se op ck cv held cur nk nv gc gu gl gm) (hP : va_P D classes (lwd ad cs bd cr oa oc w n nr K V O M RL G OM LF f r c0 se op ck cv th held cur nk nv gc gu gl gm g) H) (hD : va_D (fun q => s.heap.size ≤ q) (lwd ad cs bd cr oa oc w n nr K V O M RL G OM LF f r c0 se op ck cv th held cur nk nv gc gu gl gm g)) (hS : va_S (fun q => s.heap.size ≤ q) s.heap H locs) (hl : lv_has ls 7 [(0, .ref b), (1, .ref (ad 0)), (2, .ref (bd 0)), (3, .ref oa), (4, .int (nI i))]) : W p l e room_1 s m #[Value.ref b] below meth c H locs (14 + i) (20000 + 6 * i) (lw_Z below #[Value.ref b] s) (F0 m 127 ls []) := by
  obtain ⟨C0, hX, hbl, hK, hxh⟩ := hC
  have hx := C0.1
  have hb := C0.2.1
  have hbA : ¬ (fun q => s.heap.size ≤ q) b := Nat.not_le.mpr hbl
  have hA : ∀ q, s.heap.size ≤ q → (fun q => s.heap.size ≤ q) q := fun _ h => h
  have hKx : va_K D classes (xt cs) s := hK.sub [1, 2, 3, 4, 5, 6] rfl
  have hKm : va_K D classes (mt cr) s := hK.sub [7, 8, 9, 10] rfl
  have hKh : va_K D classes ((oc, .long) :: xt cs) s := hK.sub [0, 1, 2, 3, 4, 5, 6] rfl
  obtain ⟨z1, z2, z3, z4, z5⟩ := id hz
  obtain ⟨l1, l2, l3, l4, l5, l6⟩ := hI
  subst l4
  rcases l6 with ⟨rfl, rfl, rfl, h6⟩ | ⟨rfl, h7, o, h8, h9, h10⟩
  · rcases Nat.lt_or_ge f n with q | q
    · have hP : va_P D classes ((ow oa oc g) :: ((xw ad cs w n nr K V O M RL G (nI f) (nI r) 0 (nI 0) op ck cv) ++ (mw bd cr w n K V OM LF th (nI f) (nI r) (nI (f - r * w)) 0 (nI 0) 0 nk nv gc gu gl gm))) H := hP
      have hD : va_D (fun q => s.heap.size ≤ q) ((ow oa oc g) :: ((xw ad cs w n nr K V O M RL G (nI f) (nI r) 0 (nI 0) op ck cv) ++ (mw bd cr w n K V OM LF th (nI f) (nI r) (nI (f - r * w)) 0 (nI 0) 0 nk nv gc gu gl gm))) := hD
      refine lv_aload_n hx hb dL_law_127 rfl (lv_at hl 1 rfl) ?_
      refine lv_aload_n hx hb dL_law_128 rfl (lv_at hl 0 rfl) ?_
      refine lv_iload hx hb dL_law_129 (lv_at hl 4 rfl) ?_
      refine lv_iconst (v := 1) hx hb dL_law_131 (by decide) ?_
      refine lv_iadd hx hb dL_law_132 ?_
      refine z_eq (show nI i + 1 = nI (i + 1) from nI_add i 1) ?_
      refine z_sld (j := (i + 1)) C0 hX hbl hbA hS (by omega) (by omega) dL_law_133 ?_
      refine lv_aload_n hx hb dL_law_134 rfl (lv_at hl 0 rfl) ?_
      refine lv_iload hx hb dL_law_135 (lv_at hl 4 rfl) ?_
      refine lv_iconst (v := 2) hx hb dL_law_137 (by decide) ?_
      refine lv_iadd hx hb dL_law_138 ?_
      refine z_eq (show nI i + 2 = nI (i + 2) from nI_add i 2) ?_
      refine z_sld (j := (i + 2)) C0 hX hbl hbA hS (by omega) (by omega) dL_law_139 ?_
      refine zi_callV (As := [.int (xs (i + 1)), .int (xs (i + 2))]) (rest := []) (q0 := 0) (ci := 0) [(ow oa oc g)] (mw bd cr w n K V OM LF th (nI f) (nI r) (nI (f - r * w)) 0 (nI 0) 0 nk nv gc gu gl gm) C0 (c_feed l D ad cs w n nr (by omega) (by omega) K V O M RL G (nI 0) op ck cv (xs (i + 1)) (xs (i + 2)) r f q (by omega) z1 (by omega) h6) zv_L_X0_feed ⟨by decide, by decide⟩ ⟨rfl, rfl⟩ rfl hKx hP hD hS hA rfl rfl rfl hl.1 rfl (Nat.le_of_ble_eq_true rfl) dL_law_140 ⟨show 14 + i ≤ 601024 by omega, show 20000 + 6 * i ≤ 7293000 by omega⟩ (fun v1 u1 H locs h1 hP hD hS => ?_)
      obtain ⟨O1, r1⟩ := u1
      obtain ⟨a1, a2, a3⟩ := h1
      dsimp only at a2 a3 hP hD
      subst a2
      have hP : va_P D classes ((ow oa oc g) :: ((xw ad cs w n nr (upd K f (xs (i + 1))) (upd V f (xs (i + 2))) O1 M RL G (nI (f + 1)) (nI (rnx w r f)) 0 (nI 0) op ck cv) ++ (mw bd cr w n K V OM LF th (nI f) (nI r) (nI (f - r * w)) 0 (nI 0) 0 nk nv gc gu gl gm))) H := hP
      have hD : va_D (fun q => s.heap.size ≤ q) ((ow oa oc g) :: ((xw ad cs w n nr (upd K f (xs (i + 1))) (upd V f (xs (i + 2))) O1 M RL G (nI (f + 1)) (nI (rnx w r f)) 0 (nI 0) op ck cv) ++ (mw bd cr w n K V OM LF th (nI f) (nI r) (nI (f - r * w)) 0 (nI 0) 0 nk nv gc gu gl gm))) := hD
      refine lv_aload_n hx hb dL_law_143 rfl (lv_at hl 2 rfl) ?_
      refine lv_aload_n hx hb dL_law_144 rfl (lv_at hl 0 rfl) ?_
      refine lv_iload hx hb dL_law_145 (lv_at hl 4 rfl) ?_
      refine lv_iconst (v := 1) hx hb dL_law_147 (by decide) ?_
      refine lv_iadd hx hb dL_law_148 ?_
      refine z_eq (show nI i + 1 = nI (i + 1) from nI_add i 1) ?_
      refine z_sld (j := (i + 1)) C0 hX hbl hbA hS (by omega) (by omega) dL_law_149 ?_
      refine lv_aload_n hx hb dL_law_150 rfl (lv_at hl 0 rfl) ?_
      refine lv_iload hx hb dL_law_151 (lv_at hl 4 rfl) ?_
      refine lv_iconst (v := 2) hx hb dL_law_153 (by decide) ?_
      refine lv_iadd hx hb dL_law_154 ?_
      refine z_eq (show nI i + 2 = nI (i + 2) from nI_add i 2) ?_
      refine z_sld (j := (i + 2)) C0 hX hbl hbA hS (by omega) (by omega) dL_law_155 ?_
      refine zi_callV (As := [.int (xs (i + 1)), .int (xs (i + 2))]) (rest := [.int v1]) (q0 := 0) (ci := 1) ((ow oa oc g) :: (xw ad cs w n nr (upd K f (xs (i + 1))) (upd V f (xs (i + 2))) O1 M RL G (nI (f + 1)) (nI (rnx w r f)) 0 (nI 0) op ck cv)) [] C0 (m_feed l D bd cr w n K V OM LF th (nI 0) 0 nk nv gc gu gl gm (xs (i + 1)) (xs (i + 2)) r f q z5 (by omega) l2) zv_L_X1_feed ⟨by decide, by decide⟩ ⟨rfl, rfl⟩ rfl hKm hP hD hS hA rfl rfl rfl hl.1 rfl (Nat.le_of_ble_eq_true rfl) dL_law_156 ⟨show 14 + i ≤ 601024 by omega, show 20000 + 6 * i ≤ 7293000 by omega⟩ (fun v2 r2 H locs h2 hP hD hS => ?_)
      obtain ⟨b1, b2⟩ := h2
      subst b2
      have hP : va_P D classes ((ow oa oc g) :: ((xw ad cs w n nr (upd K f (xs (i + 1))) (upd V f (xs (i + 2))) O1 M RL G (nI (f + 1)) (nI (rnx w r f)) 0 (nI 0) op ck cv) ++ (mw bd cr w n (upd K f (xs (i + 1))) (upd V f (xs (i + 2))) OM LF 0 (nI (f + 1)) (nI (rnx w r f)) (nI (f + 1 - rnx w r f * w)) 0 (nI 0) 0 nk nv gc gu gl gm))) H := hP
      have hD : va_D (fun q => s.heap.size ≤ q) ((ow oa oc g) :: ((xw ad cs w n nr (upd K f (xs (i + 1))) (upd V f (xs (i + 2))) O1 M RL G (nI (f + 1)) (nI (rnx w r f)) 0 (nI 0) op ck cv) ++ (mw bd cr w n (upd K f (xs (i + 1))) (upd V f (xs (i + 2))) OM LF 0 (nI (f + 1)) (nI (rnx w r f)) (nI (f + 1 - rnx w r f * w)) 0 (nI 0) 0 nk nv gc gu gl gm))) := hD
      refine lv_icmp_eq (tgt := 458) hx hb dL_law_159 (by decide) (fun _ => ?_) (fun hne => absurd (a1.trans b1.symm) hne)
      refine W.widen (k := 15 + i) (n := 20006 + 6 * i) (by omega) (by omega) ?_
      exact hB (upd K f (xs (i + 1))) (upd V f (xs (i + 2))) O1 M RL G OM LF (f + 1) (rnx w r f) 0 0 op ck cv 0 (nI (f + 1 - rnx w r f * w)) 0 nk nv gc gu gl gm g _ _ _ (⟨by omega, xW_nx l2 z1, fun _ => by have := rnx_le l2; omega, rfl, l5, Or.inl ⟨rfl, rfl, rfl, a3⟩⟩) hP hD hS (lv_sub hl [0, 1, 2, 3, 4] rfl)
    · have ef : n = f := by omega
      subst ef
      have hP : va_P D classes ((ow oa oc g) :: ((xw ad cs w n nr K V O M RL G (nI n) (nI r) 0 (nI 0) op ck cv) ++ (mw bd cr w n K V OM LF th (nI n) (nI r) (nI (n - r * w)) 0 (nI 0) 0 nk nv gc gu gl gm))) H := hP
      have hD : va_D (fun q => s.heap.size ≤ q) ((ow oa oc g) :: ((xw ad cs w n nr K V O M RL G (nI n) (nI r) 0 (nI 0) op ck cv) ++ (mw bd cr w n K V OM LF th (nI n) (nI r) (nI (n - r * w)) 0 (nI 0) 0 nk nv gc gu gl gm))) := hD
      refine lv_aload_n hx hb dL_law_127 rfl (lv_at hl 1 rfl) ?_
      refine lv_aload_n hx hb dL_law_128 rfl (lv_at hl 0 rfl) ?_
      refine lv_iload hx hb dL_law_129 (lv_at hl 4 rfl) ?_
      refine lv_iconst (v := 1) hx hb dL_law_131 (by decide) ?_
      refine lv_iadd hx hb dL_law_132 ?_
      refine z_eq (show nI i + 1 = nI (i + 1) from nI_add i 1) ?_
      refine z_sld (j := (i + 1)) C0 hX hbl hbA hS (by omega) (by omega) dL_law_133 ?_
      refine lv_aload_n hx hb dL_law_134 rfl (lv_at hl 0 rfl) ?_
      refine lv_iload hx hb dL_law_135 (lv_at hl 4 rfl) ?_
      refine lv_iconst (v := 2) hx hb dL_law_137 (by decide) ?_
      refine lv_iadd hx hb dL_law_138 ?_
      refine z_eq (show nI i + 2 = nI (i + 2) from nI_add i 2) ?_
      refine z_sld (j := (i + 2)) C0 hX hbl hbA hS (by omega) (by omega) dL_law_139 ?_
      refine zi_callV (As := [.int (xs (i + 1)), .int (xs (i + 2))]) (rest := []) (q0 := 0) (ci := 0) [(ow oa oc g)] (mw bd cr w n K V OM LF th (nI n) (nI r) (nI (n - r * w)) 0 (nI 0) 0 nk nv gc gu gl gm) C0 (c_feed_f l D ad cs w n nr (by omega) (by omega) K V O M RL G (nI r) (nI 0) op ck cv (xs (i + 1)) (xs (i + 2))) zv_L_X0_feed ⟨by decide, by decide⟩ ⟨rfl, rfl⟩ rfl hKx hP hD hS hA rfl rfl rfl hl.1 rfl (Nat.le_of_ble_eq_true rfl) dL_law_140 ⟨show 14 + i ≤ 601024 by omega, show 20000 + 6 * i ≤ 7293000 by omega⟩ (fun v1 _ H locs h1 hP hD hS => ?_)
      have hP : va_P D classes ((ow oa oc g) :: ((xw ad cs w n nr K V O M RL G (nI n) (nI r) 0 (nI 0) op ck cv) ++ (mw bd cr w n K V OM LF th (nI n) (nI r) (nI (n - r * w)) 0 (nI 0) 0 nk nv gc gu gl gm))) H := hP
      have hD : va_D (fun q => s.heap.size ≤ q) ((ow oa oc g) :: ((xw ad cs w n nr K V O M RL G (nI n) (nI r) 0 (nI 0) op ck cv) ++ (mw bd cr w n K V OM LF th (nI n) (nI r) (nI (n - r * w)) 0 (nI 0) 0 nk nv gc gu gl gm))) := hD
      refine lv_aload_n hx hb dL_law_143 rfl (lv_at hl 2 rfl) ?_
      refine lv_aload_n hx hb dL_law_144 rfl (lv_at hl 0 rfl) ?_
      refine lv_iload hx hb dL_law_145 (lv_at hl 4 rfl) ?_
      refine lv_iconst (v := 1) hx hb dL_law_147 (by decide) ?_
      refine lv_iadd hx hb dL_law_148 ?_
      refine z_eq (show nI i + 1 = nI (i + 1) from nI_add i 1) ?_
      refine z_sld (j := (i + 1)) C0 hX hbl hbA hS (by omega) (by omega) dL_law_149 ?_
      refine lv_aload_n hx hb dL_law_150 rfl (lv_at hl 0 rfl) ?_
      refine lv_iload hx hb dL_law_151 (lv_at hl 4 rfl) ?_
      refine lv_iconst (v := 2) hx hb dL_law_153 (by decide) ?_
      refine lv_iadd hx hb dL_law_154 ?_
      refine z_eq (show nI i + 2 = nI (i + 2) from nI_add i 2) ?_
      refine z_sld (j := (i + 2)) C0 hX hbl hbA hS (by omega) (by omega) dL_law_155 ?_
      refine zi_callV (As := [.int (xs (i + 1)), .int (xs (i + 2))]) (rest := [.int v1]) (q0 := 0) (ci := 1) ((ow oa oc g) :: (xw ad cs w n nr K V O M RL G (nI n) (nI r) 0 (nI 0) op ck cv)) [] C0 (m_feed_f l D bd cr w n K V OM LF th (nI r) (nI (n - r * w)) (nI 0) 0 nk nv gc gu gl gm (xs (i + 1)) (xs (i + 2))) zv_L_X1_feed ⟨by decide, by decide⟩ ⟨rfl, rfl⟩ rfl hKm hP hD hS hA rfl rfl rfl hl.1 rfl (Nat.le_of_ble_eq_true rfl) dL_law_156 ⟨show 14 + i ≤ 601024 by omega, show 20000 + 6 * i ≤ 7293000 by omega⟩ (fun v2 _ H locs h2 hP hD hS => ?_)
      have hP : va_P D classes ((ow oa oc g) :: ((xw ad cs w n nr K V O M RL G (nI n) (nI r) 0 (nI 0) op ck cv) ++ (mw bd cr w n K V OM LF 0 (nI n) (nI r) (nI (n - r * w)) 0 (nI 0) 0 nk nv gc gu gl gm))) H := hP
      have hD : va_D (fun q => s.heap.size ≤ q) ((ow oa oc g) :: ((xw ad cs w n nr K V O M RL G (nI n) (nI r) 0 (nI 0) op ck cv) ++ (mw bd cr w n K V OM LF 0 (nI n) (nI r) (nI (n - r * w)) 0 (nI 0) 0 nk nv gc gu gl gm))) := hD
      refine lv_icmp_eq (tgt := 458) hx hb dL_law_159 (by decide) (fun _ => ?_) (fun hne => absurd (h1.trans h2.symm) hne)
      refine W.widen (k := 15 + i) (n := 20006 + 6 * i) (by omega) (by omega) ?_
      exact hB K V O M RL G OM LF n r 0 0 op ck cv 0 (nI (n - r * w)) 0 nk nv gc gu gl gm g _ _ _ (⟨Nat.le_refl _, l2, l3, rfl, l5, Or.inl ⟨rfl, rfl, rfl, h6⟩⟩) hP hD hS (lv_sub hl [0, 1, 2, 3, 4] rfl)
  · have hP : va_P D classes ((ow oa oc g) :: ((xw ad cs w n nr K V O M RL G (nI f) (nI r) 1 (nI c0) op ck cv) ++ (mw bd cr w n K V OM LF th (nI f) (nI r) (nI (f - r * w)) 1 (nI c0) cur nk nv gc gu gl gm))) H := hP
    have hD : va_D (fun q => s.heap.size ≤ q) ((ow oa oc g) :: ((xw ad cs w n nr K V O M RL G (nI f) (nI r) 1 (nI c0) op ck cv) ++ (mw bd cr w n K V OM LF th (nI f) (nI r) (nI (f - r * w)) 1 (nI c0) cur nk nv gc gu gl gm))) := hD
    refine lv_aload_n hx hb dL_law_127 rfl (lv_at hl 1 rfl) ?_
    refine lv_aload_n hx hb dL_law_128 rfl (lv_at hl 0 rfl) ?_
    refine lv_iload hx hb dL_law_129 (lv_at hl 4 rfl) ?_
    refine lv_iconst (v := 1) hx hb dL_law_131 (by decide) ?_
    refine lv_iadd hx hb dL_law_132 ?_
    refine z_eq (show nI i + 1 = nI (i + 1) from nI_add i 1) ?_
    refine z_sld (j := (i + 1)) C0 hX hbl hbA hS (by omega) (by omega) dL_law_133 ?_
    refine lv_aload_n hx hb dL_law_134 rfl (lv_at hl 0 rfl) ?_
    refine lv_iload hx hb dL_law_135 (lv_at hl 4 rfl) ?_
    refine lv_iconst (v := 2) hx hb dL_law_137 (by decide) ?_
    refine lv_iadd hx hb dL_law_138 ?_
    refine z_eq (show nI i + 2 = nI (i + 2) from nI_add i 2) ?_
    refine z_sld (j := (i + 2)) C0 hX hbl hbA hS (by omega) (by omega) dL_law_139 ?_
    refine zi_callV (As := [.int (xs (i + 1)), .int (xs (i + 2))]) (rest := []) (q0 := 0) (ci := 0) [(ow oa oc g)] (mw bd cr w n K V OM LF th (nI f) (nI r) (nI (f - r * w)) 1 (nI c0) cur nk nv gc gu gl gm) C0 (c_feed_s l D ad cs w n nr (by omega) (by omega) K V O M RL G (nI f) (nI r) (nI c0) op ck cv (xs (i + 1)) (xs (i + 2))) zv_L_X0_feed ⟨by decide, by decide⟩ ⟨rfl, rfl⟩ rfl hKx hP hD hS hA rfl rfl rfl hl.1 rfl (Nat.le_of_ble_eq_true rfl) dL_law_140 ⟨show 14 + i ≤ 601024 by omega, show 20000 + 6 * i ≤ 7293000 by omega⟩ (fun v1 _ H locs h1 hP hD hS => ?_)
    have hP : va_P D classes ((ow oa oc g) :: ((xw ad cs w n nr K V O M RL G (nI f) (nI r) 1 (nI c0) op ck cv) ++ (mw bd cr w n K V OM LF th (nI f) (nI r) (nI (f - r * w)) 1 (nI c0) cur nk nv gc gu gl gm))) H := hP
    have hD : va_D (fun q => s.heap.size ≤ q) ((ow oa oc g) :: ((xw ad cs w n nr K V O M RL G (nI f) (nI r) 1 (nI c0) op ck cv) ++ (mw bd cr w n K V OM LF th (nI f) (nI r) (nI (f - r * w)) 1 (nI c0) cur nk nv gc gu gl gm))) := hD
    refine lv_aload_n hx hb dL_law_143 rfl (lv_at hl 2 rfl) ?_
    refine lv_aload_n hx hb dL_law_144 rfl (lv_at hl 0 rfl) ?_
    refine lv_iload hx hb dL_law_145 (lv_at hl 4 rfl) ?_
    refine lv_iconst (v := 1) hx hb dL_law_147 (by decide) ?_
    refine lv_iadd hx hb dL_law_148 ?_
    refine z_eq (show nI i + 1 = nI (i + 1) from nI_add i 1) ?_
    refine z_sld (j := (i + 1)) C0 hX hbl hbA hS (by omega) (by omega) dL_law_149 ?_
    refine lv_aload_n hx hb dL_law_150 rfl (lv_at hl 0 rfl) ?_
    refine lv_iload hx hb dL_law_151 (lv_at hl 4 rfl) ?_
    refine lv_iconst (v := 2) hx hb dL_law_153 (by decide) ?_
    refine lv_iadd hx hb dL_law_154 ?_
    refine z_eq (show nI i + 2 = nI (i + 2) from nI_add i 2) ?_
    refine z_sld (j := (i + 2)) C0 hX hbl hbA hS (by omega) (by omega) dL_law_155 ?_
    refine zi_callV (As := [.int (xs (i + 1)), .int (xs (i + 2))]) (rest := [.int v1]) (q0 := 0) (ci := 1) ((ow oa oc g) :: (xw ad cs w n nr K V O M RL G (nI f) (nI r) 1 (nI c0) op ck cv)) [] C0 (m_feed_s l D bd cr w n K V OM LF th (nI f) (nI r) (nI (f - r * w)) (nI c0) cur nk nv gc gu gl gm (xs (i + 1)) (xs (i + 2))) zv_L_X1_feed ⟨by decide, by decide⟩ ⟨rfl, rfl⟩ rfl hKm hP hD hS hA rfl rfl rfl hl.1 rfl (Nat.le_of_ble_eq_true rfl) dL_law_156 ⟨show 14 + i ≤ 601024 by omega, show 20000 + 6 * i ≤ 7293000 by omega⟩ (fun v2 _ H locs h2 hP hD hS => ?_)
    have hP : va_P D classes ((ow oa oc g) :: ((xw ad cs w n nr K V O M RL G (nI f) (nI r) 1 (nI c0) op ck cv) ++ (mw bd cr w n K V OM LF 0 (nI f) (nI r) (nI (f - r * w)) 1 (nI c0) cur nk nv gc gu gl gm))) H := hP
    have hD : va_D (fun q => s.heap.size ≤ q) ((ow oa oc g) :: ((xw ad cs w n nr K V O M RL G (nI f) (nI r) 1 (nI c0) op ck cv) ++ (mw bd cr w n K V OM LF 0 (nI f) (nI r) (nI (f - r * w)) 1 (nI c0) cur nk nv gc gu gl gm))) := hD
    refine lv_icmp_eq (tgt := 458) hx hb dL_law_159 (by decide) (fun _ => ?_) (fun hne => absurd (h1.trans h2.symm) hne)
    refine W.widen (k := 15 + i) (n := 20006 + 6 * i) (by omega) (by omega) ?_
    exact hB K V O M RL G OM LF f r c0 1 op ck cv 0 (nI (f - r * w)) cur nk nv gc gu gl gm g _ _ _ (⟨l1, l2, l3, rfl, l5, Or.inr ⟨rfl, h7, o, h8, h9, h10⟩⟩) hP hD hS (lv_sub hl [0, 1, 2, 3, 4] rfl)
set_option maxHeartbeats 8000000 in
set_option maxRecDepth 100000 in
theorem law_3 {p : Program} {l : Launch} {e : Env} {s : State} {m : MethodId} {below : List Frame} {meth : Method} {c : Code} {b L : Nat} {xs : Nat → Int32} {D : va_G} {ad : Nat → Nat} {cs : Nat → ClassId} {bd : Nat → Nat} {cr : Nat → ClassId} {oa : Nat} {oc : ClassId} {w n nr i : Nat} (hC : LC p s m c b L xs D cs cr oc) (hl9 : l.stackTraces = false) (hi : i + 5 ≤ L) (hL : L ≤ 2562) (hz : lS w n nr) (hB : LB p l e s m below meth c b D ad cs bd cr oa oc w n nr i) (K V O M RL G OM LF : Nat → Int32) (f r c0 : Nat) (se op ck cv th held cur nk nv gc gu gl gm : Int32) (g : Nat → Int64) (H : Heap) (locs : List Loc) (ls : Array Slot) (hI : li w n K O RL G OM f r c0 se op ck cv held cur nk nv gc gu gl gm) (hP : va_P D classes (lwd ad cs bd cr oa oc w n nr K V O M RL G OM LF f r c0 se op ck cv th held cur nk nv gc gu gl gm g) H) (hD : va_D (fun q => s.heap.size ≤ q) (lwd ad cs bd cr oa oc w n nr K V O M RL G OM LF f r c0 se op ck cv th held cur nk nv gc gu gl gm g)) (hS : va_S (fun q => s.heap.size ≤ q) s.heap H locs) (hl : lv_has ls 7 [(0, .ref b), (1, .ref (ad 0)), (2, .ref (bd 0)), (3, .ref oa), (4, .int (nI i))]) : W p l e room_1 s m #[Value.ref b] below meth c H locs (14 + i) (20000 + 6 * i) (lw_Z below #[Value.ref b] s) (F0 m 256 ls []) := by
  obtain ⟨C0, hX, hbl, hK, hxh⟩ := hC
  have hx := C0.1
  have hb := C0.2.1
  have hbA : ¬ (fun q => s.heap.size ≤ q) b := Nat.not_le.mpr hbl
  have hA : ∀ q, s.heap.size ≤ q → (fun q => s.heap.size ≤ q) q := fun _ h => h
  have hKx : va_K D classes (xt cs) s := hK.sub [1, 2, 3, 4, 5, 6] rfl
  have hKm : va_K D classes (mt cr) s := hK.sub [7, 8, 9, 10] rfl
  have hKh : va_K D classes ((oc, .long) :: xt cs) s := hK.sub [0, 1, 2, 3, 4, 5, 6] rfl
  obtain ⟨z1, z2, z3, z4, z5⟩ := id hz
  obtain ⟨l1, l2, l3, l4, l5, l6⟩ := hI
  subst l4
  rcases l6 with ⟨rfl, rfl, rfl, h6⟩ | ⟨rfl, h7, o, h8, h9, h10⟩
  · have hP : va_P D classes ((ow oa oc g) :: ((xw ad cs w n nr K V O M RL G (nI f) (nI r) 0 (nI 0) op ck cv) ++ (mw bd cr w n K V OM LF th (nI f) (nI r) (nI (f - r * w)) 0 (nI 0) 0 nk nv gc gu gl gm))) H := hP
    have hD : va_D (fun q => s.heap.size ≤ q) ((ow oa oc g) :: ((xw ad cs w n nr K V O M RL G (nI f) (nI r) 0 (nI 0) op ck cv) ++ (mw bd cr w n K V OM LF th (nI f) (nI r) (nI (f - r * w)) 0 (nI 0) 0 nk nv gc gu gl gm))) := hD
    refine lv_aload_n hx hb dL_law_256 rfl (lv_at hl 1 rfl) ?_
    refine zi_callV (As := []) (rest := []) (q0 := 0) (ci := 0) [(ow oa oc g)] (mw bd cr w n K V OM LF th (nI f) (nI r) (nI (f - r * w)) 0 (nI 0) 0 nk nv gc gu gl gm) C0 (c_seal l D ad cs w n nr (by omega) (by omega) K V O M RL G (nI 0) op ck cv r f (by omega) z1 (by omega) h6 l3 (by rcases Nat.eq_zero_or_pos f with q | q; (have h := l2.1; rw [q] at h; have : r * 1 ≤ r * w := Nat.mul_le_mul_left _ z1; omega); (have := (hz.runs l1 l3).2 q; omega)) (hz.runs l1 l3).1 (hz.cap l1)) zv_L_X0_seal ⟨by decide, by decide⟩ ⟨rfl, rfl⟩ rfl hKx hP hD hS hA rfl rfl rfl hl.1 rfl (Nat.le_of_ble_eq_true rfl) dL_law_257 ⟨show 14 + i ≤ 601024 by omega, show 20000 + 6 * i ≤ 7293000 by omega⟩ (fun v1 u1 H locs h1 hP hD hS => ?_)
    obtain ⟨O1, M1, RL1⟩ := u1
    obtain ⟨a1, o, a2, a3⟩ := h1
    dsimp only at a2 a3 hP hD
    have hP : va_P D classes ((ow oa oc g) :: ((xw ad cs w n nr K V O1 M1 RL1 G (nI f) (nI r) 1 (nI 0) (nI (rnn r f)) ck cv) ++ (mw bd cr w n K V OM LF th (nI f) (nI r) (nI (f - r * w)) 0 (nI 0) 0 nk nv gc gu gl gm))) H := hP
    have hD : va_D (fun q => s.heap.size ≤ q) ((ow oa oc g) :: ((xw ad cs w n nr K V O1 M1 RL1 G (nI f) (nI r) 1 (nI 0) (nI (rnn r f)) ck cv) ++ (mw bd cr w n K V OM LF th (nI f) (nI r) (nI (f - r * w)) 0 (nI 0) 0 nk nv gc gu gl gm))) := hD
    refine lv_aload_n hx hb dL_law_260 rfl (lv_at hl 2 rfl) ?_
    refine zi_callV (As := []) (rest := [.int v1]) (q0 := 0) (ci := 1) ((ow oa oc g) :: (xw ad cs w n nr K V O1 M1 RL1 G (nI f) (nI r) 1 (nI 0) (nI (rnn r f)) ck cv)) [] C0 (m_seal l D bd cr w n K V OM LF th (nI r) (nI (f - r * w)) (nI 0) 0 nk nv gc gu gl gm f (by omega)) zv_L_X1_seal ⟨by decide, by decide⟩ ⟨rfl, rfl⟩ rfl hKm hP hD hS hA rfl rfl rfl hl.1 rfl (Nat.le_of_ble_eq_true rfl) dL_law_261 ⟨show 14 + i ≤ 601024 by omega, show 20000 + 6 * i ≤ 7293000 by omega⟩ (fun v2 OM1 H locs h2 hP hD hS => ?_)
    obtain ⟨b1, o2, b2⟩ := h2
    have hP : va_P D classes ((ow oa oc g) :: ((xw ad cs w n nr K V O1 M1 RL1 G (nI f) (nI r) 1 (nI 0) (nI (rnn r f)) ck cv) ++ (mw bd cr w n K V OM1 LF 0 (nI f) (nI r) (nI (f - r * w)) 1 (nI 0) 0 nk nv gc gu gl gm))) H := hP
    have hD : va_D (fun q => s.heap.size ≤ q) ((ow oa oc g) :: ((xw ad cs w n nr K V O1 M1 RL1 G (nI f) (nI r) 1 (nI 0) (nI (rnn r f)) ck cv) ++ (mw bd cr w n K V OM1 LF 0 (nI f) (nI r) (nI (f - r * w)) 1 (nI 0) 0 nk nv gc gu gl gm))) := hD
    refine lv_icmp_eq (tgt := 458) hx hb dL_law_264 (by decide) (fun _ => ?_) (fun hne => absurd (a1.trans b1.symm) hne)
    refine W.widen (k := 15 + i) (n := 20006 + 6 * i) (by omega) (by omega) ?_
    exact hB K V O1 M1 RL1 G OM1 LF f r 0 1 (nI (rnn r f)) ck cv 0 (nI (f - r * w)) 0 nk nv gc gu gl gm g _ _ _ (⟨l1, l2, l3, rfl, l5, Or.inr ⟨rfl, Nat.zero_le _, o, a2, xF_uniq a2 b2, a3⟩⟩) hP hD hS (lv_sub hl [0, 1, 2, 3, 4] rfl)
  · have hP : va_P D classes ((ow oa oc g) :: ((xw ad cs w n nr K V O M RL G (nI f) (nI r) 1 (nI c0) op ck cv) ++ (mw bd cr w n K V OM LF th (nI f) (nI r) (nI (f - r * w)) 1 (nI c0) cur nk nv gc gu gl gm))) H := hP
    have hD : va_D (fun q => s.heap.size ≤ q) ((ow oa oc g) :: ((xw ad cs w n nr K V O M RL G (nI f) (nI r) 1 (nI c0) op ck cv) ++ (mw bd cr w n K V OM LF th (nI f) (nI r) (nI (f - r * w)) 1 (nI c0) cur nk nv gc gu gl gm))) := hD
    refine lv_aload_n hx hb dL_law_256 rfl (lv_at hl 1 rfl) ?_
    refine zi_callV (As := []) (rest := []) (q0 := 0) (ci := 0) [(ow oa oc g)] (mw bd cr w n K V OM LF th (nI f) (nI r) (nI (f - r * w)) 1 (nI c0) cur nk nv gc gu gl gm) C0 (c_seal_s l D ad cs w n nr (by omega) (by omega) K V O M RL G (nI f) (nI r) (nI c0) op ck cv) zv_L_X0_seal ⟨by decide, by decide⟩ ⟨rfl, rfl⟩ rfl hKx hP hD hS hA rfl rfl rfl hl.1 rfl (Nat.le_of_ble_eq_true rfl) dL_law_257 ⟨show 14 + i ≤ 601024 by omega, show 20000 + 6 * i ≤ 7293000 by omega⟩ (fun v1 _ H locs h1 hP hD hS => ?_)
    have hP : va_P D classes ((ow oa oc g) :: ((xw ad cs w n nr K V O M RL G (nI f) (nI r) 1 (nI c0) op ck cv) ++ (mw bd cr w n K V OM LF th (nI f) (nI r) (nI (f - r * w)) 1 (nI c0) cur nk nv gc gu gl gm))) H := hP
    have hD : va_D (fun q => s.heap.size ≤ q) ((ow oa oc g) :: ((xw ad cs w n nr K V O M RL G (nI f) (nI r) 1 (nI c0) op ck cv) ++ (mw bd cr w n K V OM LF th (nI f) (nI r) (nI (f - r * w)) 1 (nI c0) cur nk nv gc gu gl gm))) := hD
    refine lv_aload_n hx hb dL_law_260 rfl (lv_at hl 2 rfl) ?_
    refine zi_callV (As := []) (rest := [.int v1]) (q0 := 0) (ci := 1) ((ow oa oc g) :: (xw ad cs w n nr K V O M RL G (nI f) (nI r) 1 (nI c0) op ck cv)) [] C0 (m_seal_s l D bd cr w n K V OM LF th (nI f) (nI r) (nI (f - r * w)) (nI c0) cur nk nv gc gu gl gm) zv_L_X1_seal ⟨by decide, by decide⟩ ⟨rfl, rfl⟩ rfl hKm hP hD hS hA rfl rfl rfl hl.1 rfl (Nat.le_of_ble_eq_true rfl) dL_law_261 ⟨show 14 + i ≤ 601024 by omega, show 20000 + 6 * i ≤ 7293000 by omega⟩ (fun v2 _ H locs h2 hP hD hS => ?_)
    have hP : va_P D classes ((ow oa oc g) :: ((xw ad cs w n nr K V O M RL G (nI f) (nI r) 1 (nI c0) op ck cv) ++ (mw bd cr w n K V OM LF 0 (nI f) (nI r) (nI (f - r * w)) 1 (nI c0) cur nk nv gc gu gl gm))) H := hP
    have hD : va_D (fun q => s.heap.size ≤ q) ((ow oa oc g) :: ((xw ad cs w n nr K V O M RL G (nI f) (nI r) 1 (nI c0) op ck cv) ++ (mw bd cr w n K V OM LF 0 (nI f) (nI r) (nI (f - r * w)) 1 (nI c0) cur nk nv gc gu gl gm))) := hD
    refine lv_icmp_eq (tgt := 458) hx hb dL_law_264 (by decide) (fun _ => ?_) (fun hne => absurd (h1.trans h2.symm) hne)
    refine W.widen (k := 15 + i) (n := 20006 + 6 * i) (by omega) (by omega) ?_
    exact hB K V O M RL G OM LF f r c0 1 op ck cv 0 (nI (f - r * w)) cur nk nv gc gu gl gm g _ _ _ (⟨l1, l2, l3, rfl, l5, Or.inr ⟨rfl, h7, o, h8, h9, h10⟩⟩) hP hD hS (lv_sub hl [0, 1, 2, 3, 4] rfl)
set_option maxHeartbeats 8000000 in
set_option maxRecDepth 100000 in
theorem law_4 {p : Program} {l : Launch} {e : Env} {s : State} {m : MethodId} {below : List Frame} {meth : Method} {c : Code} {b L : Nat} {xs : Nat → Int32} {D : va_G} {ad : Nat → Nat} {cs : Nat → ClassId} {bd : Nat → Nat} {cr : Nat → ClassId} {oa : Nat} {oc : ClassId} {w n nr i : Nat} (hC : LC p s m c b L xs D cs cr oc) (hl9 : l.stackTraces = false) (hi : i + 5 ≤ L) (hL : L ≤ 2562) (hz : lS w n nr) (hB : LB p l e s m below meth c b D ad cs bd cr oa oc w n nr i) (K V O M RL G OM LF : Nat → Int32) (f r c0 : Nat) (se op ck cv th held cur nk nv gc gu gl gm : Int32) (g : Nat → Int64) (H : Heap) (locs : List Loc) (ls : Array Slot) (hI : li w n K O RL G OM f r c0 se op ck cv held cur nk nv gc gu gl gm) (hP : va_P D classes (lwd ad cs bd cr oa oc w n nr K V O M RL G OM LF f r c0 se op ck cv th held cur nk nv gc gu gl gm g) H) (hD : va_D (fun q => s.heap.size ≤ q) (lwd ad cs bd cr oa oc w n nr K V O M RL G OM LF f r c0 se op ck cv th held cur nk nv gc gu gl gm g)) (hS : va_S (fun q => s.heap.size ≤ q) s.heap H locs) (hl : lv_has ls 7 [(0, .ref b), (1, .ref (ad 0)), (2, .ref (bd 0)), (3, .ref oa), (4, .int (nI i))]) : W p l e room_1 s m #[Value.ref b] below meth c H locs (14 + i) (20000 + 6 * i) (lw_Z below #[Value.ref b] s) (F0 m 269 ls []) := by
  obtain ⟨C0, hX, hbl, hK, hxh⟩ := hC
  have hx := C0.1
  have hb := C0.2.1
  have hbA : ¬ (fun q => s.heap.size ≤ q) b := Nat.not_le.mpr hbl
  have hA : ∀ q, s.heap.size ≤ q → (fun q => s.heap.size ≤ q) q := fun _ h => h
  have hKx : va_K D classes (xt cs) s := hK.sub [1, 2, 3, 4, 5, 6] rfl
  have hKm : va_K D classes (mt cr) s := hK.sub [7, 8, 9, 10] rfl
  have hKh : va_K D classes ((oc, .long) :: xt cs) s := hK.sub [0, 1, 2, 3, 4, 5, 6] rfl
  obtain ⟨z1, z2, z3, z4, z5⟩ := id hz
  obtain ⟨l1, l2, l3, l4, l5, l6⟩ := hI
  subst l4
  rcases l6 with ⟨rfl, rfl, rfl, h6⟩ | ⟨rfl, h7, o, h8, h9, h10⟩
  · have hP : va_P D classes ((ow oa oc g) :: ((xw ad cs w n nr K V O M RL G (nI f) (nI r) 0 (nI 0) op ck cv) ++ (mw bd cr w n K V OM LF th (nI f) (nI r) (nI (f - r * w)) 0 (nI 0) 0 nk nv gc gu gl gm))) H := hP
    have hD : va_D (fun q => s.heap.size ≤ q) ((ow oa oc g) :: ((xw ad cs w n nr K V O M RL G (nI f) (nI r) 0 (nI 0) op ck cv) ++ (mw bd cr w n K V OM LF th (nI f) (nI r) (nI (f - r * w)) 0 (nI 0) 0 nk nv gc gu gl gm))) := hD
    refine lv_aload_n hx hb dL_law_269 rfl (lv_at hl 1 rfl) ?_
    refine zi_callV (As := []) (rest := []) (q0 := 0) (ci := 0) [(ow oa oc g)] (mw bd cr w n K V OM LF th (nI f) (nI r) (nI (f - r * w)) 0 (nI 0) 0 nk nv gc gu gl gm) C0 (c_nextRow_u l D ad cs w n nr (by omega) (by omega) K V O M RL G (nI f) (nI r) (nI 0) op ck cv) zv_L_X0_nextRow ⟨by decide, by decide⟩ ⟨rfl, rfl⟩ rfl hKx hP hD hS hA rfl rfl rfl hl.1 rfl (Nat.le_of_ble_eq_true rfl) dL_law_270 ⟨show 14 + i ≤ 601024 by omega, show 20000 + 6 * i ≤ 7293000 by omega⟩ (fun v1 _ H locs h1 hP hD hS => ?_)
    have hP : va_P D classes ((ow oa oc g) :: ((xw ad cs w n nr K V O M RL G (nI f) (nI r) 0 (nI 0) op ck cv) ++ (mw bd cr w n K V OM LF th (nI f) (nI r) (nI (f - r * w)) 0 (nI 0) 0 nk nv gc gu gl gm))) H := hP
    have hD : va_D (fun q => s.heap.size ≤ q) ((ow oa oc g) :: ((xw ad cs w n nr K V O M RL G (nI f) (nI r) 0 (nI 0) op ck cv) ++ (mw bd cr w n K V OM LF th (nI f) (nI r) (nI (f - r * w)) 0 (nI 0) 0 nk nv gc gu gl gm))) := hD
    refine lv_aload_n hx hb dL_law_273 rfl (lv_at hl 2 rfl) ?_
    refine zi_callV (As := []) (rest := [.int v1]) (q0 := 0) (ci := 1) ((ow oa oc g) :: (xw ad cs w n nr K V O M RL G (nI f) (nI r) 0 (nI 0) op ck cv)) [] C0 (m_nextRow_u l D bd cr w n K V OM LF th (nI f) (nI r) (nI (f - r * w)) (nI 0) 0 nk nv gc gu gl gm) zv_L_X1_nextRow ⟨by decide, by decide⟩ ⟨rfl, rfl⟩ rfl hKm hP hD hS hA rfl rfl rfl hl.1 rfl (Nat.le_of_ble_eq_true rfl) dL_law_274 ⟨show 14 + i ≤ 601024 by omega, show 20000 + 6 * i ≤ 7293000 by omega⟩ (fun v2 _ H locs h2 hP hD hS => ?_)
    have hP : va_P D classes ((ow oa oc g) :: ((xw ad cs w n nr K V O M RL G (nI f) (nI r) 0 (nI 0) op ck cv) ++ (mw bd cr w n K V OM LF 0 (nI f) (nI r) (nI (f - r * w)) 0 (nI 0) 0 nk nv gc gu gl gm))) H := hP
    have hD : va_D (fun q => s.heap.size ≤ q) ((ow oa oc g) :: ((xw ad cs w n nr K V O M RL G (nI f) (nI r) 0 (nI 0) op ck cv) ++ (mw bd cr w n K V OM LF 0 (nI f) (nI r) (nI (f - r * w)) 0 (nI 0) 0 nk nv gc gu gl gm))) := hD
    refine lv_icmp_eq (tgt := 458) hx hb dL_law_277 (by decide) (fun _ => ?_) (fun hne => absurd (h1.trans h2.symm) hne)
    refine W.widen (k := 15 + i) (n := 20006 + 6 * i) (by omega) (by omega) ?_
    exact hB K V O M RL G OM LF f r 0 0 op ck cv 0 (nI (f - r * w)) 0 nk nv gc gu gl gm g _ _ _ (⟨l1, l2, l3, rfl, l5, Or.inl ⟨rfl, rfl, rfl, h6⟩⟩) hP hD hS (lv_sub hl [0, 1, 2, 3, 4] rfl)
  · rcases Nat.lt_or_ge c0 f with q | q
    · have hP : va_P D classes ((ow oa oc g) :: ((xw ad cs w n nr K V O M RL G (nI f) (nI r) 1 (nI c0) op ck cv) ++ (mw bd cr w n K V OM LF th (nI f) (nI r) (nI (f - r * w)) 1 (nI c0) cur nk nv gc gu gl gm))) H := hP
      have hD : va_D (fun q => s.heap.size ≤ q) ((ow oa oc g) :: ((xw ad cs w n nr K V O M RL G (nI f) (nI r) 1 (nI c0) op ck cv) ++ (mw bd cr w n K V OM LF th (nI f) (nI r) (nI (f - r * w)) 1 (nI c0) cur nk nv gc gu gl gm))) := hD
      refine lv_aload_n hx hb dL_law_269 rfl (lv_at hl 1 rfl) ?_
      refine zi_callV (As := []) (rest := []) (q0 := 0) (ci := 0) [(ow oa oc g)] (mw bd cr w n K V OM LF th (nI f) (nI r) (nI (f - r * w)) 1 (nI c0) cur nk nv gc gu gl gm) C0 (c_nextRow l D ad cs w n nr (by omega) (by omega) K V O M RL G (nI r) op ck cv r f c0 o l1 (by omega) z1 (by omega) h8 h10 l2.2 (hz.runs l1 l3).1 q) zv_L_X0_nextRow ⟨by decide, by decide⟩ ⟨rfl, rfl⟩ rfl hKx hP hD hS hA rfl rfl rfl hl.1 rfl (Nat.le_of_ble_eq_true rfl) dL_law_270 ⟨show 14 + i ≤ 601024 by omega, show 20000 + 6 * i ≤ 7293000 by omega⟩ (fun v1 u1 H locs h1 hP hD hS => ?_)
      obtain ⟨G1, RL1, op1⟩ := u1
      obtain ⟨a1, a2, a3⟩ := h1
      dsimp only at a2 a3 hP hD
      have hP : va_P D classes ((ow oa oc g) :: ((xw ad cs w n nr K V O M RL1 G1 (nI f) (nI r) 1 (nI (c0 + 1)) op1 (K (o c0)) (V (o c0))) ++ (mw bd cr w n K V OM LF th (nI f) (nI r) (nI (f - r * w)) 1 (nI c0) cur nk nv gc gu gl gm))) H := hP
      have hD : va_D (fun q => s.heap.size ≤ q) ((ow oa oc g) :: ((xw ad cs w n nr K V O M RL1 G1 (nI f) (nI r) 1 (nI (c0 + 1)) op1 (K (o c0)) (V (o c0))) ++ (mw bd cr w n K V OM LF th (nI f) (nI r) (nI (f - r * w)) 1 (nI c0) cur nk nv gc gu gl gm))) := hD
      refine lv_aload_n hx hb dL_law_273 rfl (lv_at hl 2 rfl) ?_
      refine zi_callV (As := []) (rest := [.int v1]) (q0 := 0) (ci := 1) ((ow oa oc g) :: (xw ad cs w n nr K V O M RL1 G1 (nI f) (nI r) 1 (nI (c0 + 1)) op1 (K (o c0)) (V (o c0)))) [] C0 (m_nextRow l D bd cr w n K V OM LF th (nI r) (nI (f - r * w)) cur nk nv gc gu gl gm f c0 o (by omega) h9 q) zv_L_X1_nextRow ⟨by decide, by decide⟩ ⟨rfl, rfl⟩ rfl hKm hP hD hS hA rfl rfl rfl hl.1 rfl (Nat.le_of_ble_eq_true rfl) dL_law_274 ⟨show 14 + i ≤ 601024 by omega, show 20000 + 6 * i ≤ 7293000 by omega⟩ (fun v2 _ H locs h2 hP hD hS => ?_)
      have hP : va_P D classes ((ow oa oc g) :: ((xw ad cs w n nr K V O M RL1 G1 (nI f) (nI r) 1 (nI (c0 + 1)) op1 (K (o c0)) (V (o c0))) ++ (mw bd cr w n K V OM LF 0 (nI f) (nI r) (nI (f - r * w)) 1 (nI (c0 + 1)) 1 (K (o c0)) (V (o c0)) gc gu gl gm))) H := hP
      have hD : va_D (fun q => s.heap.size ≤ q) ((ow oa oc g) :: ((xw ad cs w n nr K V O M RL1 G1 (nI f) (nI r) 1 (nI (c0 + 1)) op1 (K (o c0)) (V (o c0))) ++ (mw bd cr w n K V OM LF 0 (nI f) (nI r) (nI (f - r * w)) 1 (nI (c0 + 1)) 1 (K (o c0)) (V (o c0)) gc gu gl gm))) := hD
      refine lv_icmp_eq (tgt := 458) hx hb dL_law_277 (by decide) (fun _ => ?_) (fun hne => absurd (a1.trans h2.symm) hne)
      refine W.widen (k := 15 + i) (n := 20006 + 6 * i) (by omega) (by omega) ?_
      exact hB K V O M RL1 G1 OM LF f r (c0 + 1) 1 op1 (K (o c0)) (V (o c0)) 0 (nI (f - r * w)) 1 (K (o c0)) (V (o c0)) gc gu gl gm g _ _ _ (⟨l1, l2, l3, rfl, Or.inr (Or.inl ⟨rfl, rfl, rfl, a2⟩), Or.inr ⟨rfl, by omega, o, h8, h9, a3⟩⟩) hP hD hS (lv_sub hl [0, 1, 2, 3, 4] rfl)
    · have ef : c0 = f := by omega
      subst ef
      have hP : va_P D classes ((ow oa oc g) :: ((xw ad cs w n nr K V O M RL G (nI c0) (nI r) 1 (nI c0) op ck cv) ++ (mw bd cr w n K V OM LF th (nI c0) (nI r) (nI (c0 - r * w)) 1 (nI c0) cur nk nv gc gu gl gm))) H := hP
      have hD : va_D (fun q => s.heap.size ≤ q) ((ow oa oc g) :: ((xw ad cs w n nr K V O M RL G (nI c0) (nI r) 1 (nI c0) op ck cv) ++ (mw bd cr w n K V OM LF th (nI c0) (nI r) (nI (c0 - r * w)) 1 (nI c0) cur nk nv gc gu gl gm))) := hD
      refine lv_aload_n hx hb dL_law_269 rfl (lv_at hl 1 rfl) ?_
      refine zi_callV (As := []) (rest := []) (q0 := 0) (ci := 0) [(ow oa oc g)] (mw bd cr w n K V OM LF th (nI c0) (nI r) (nI (c0 - r * w)) 1 (nI c0) cur nk nv gc gu gl gm) C0 (c_nextRow_e l D ad cs w n nr (by omega) (by omega) K V O M RL G (nI r) op ck cv c0 l1) zv_L_X0_nextRow ⟨by decide, by decide⟩ ⟨rfl, rfl⟩ rfl hKx hP hD hS hA rfl rfl rfl hl.1 rfl (Nat.le_of_ble_eq_true rfl) dL_law_270 ⟨show 14 + i ≤ 601024 by omega, show 20000 + 6 * i ≤ 7293000 by omega⟩ (fun v1 G1 H locs h1 hP hD hS => ?_)
      have hP : va_P D classes ((ow oa oc g) :: ((xw ad cs w n nr K V O M RL G1 (nI c0) (nI r) 1 (nI c0) op 0 0) ++ (mw bd cr w n K V OM LF th (nI c0) (nI r) (nI (c0 - r * w)) 1 (nI c0) cur nk nv gc gu gl gm))) H := hP
      have hD : va_D (fun q => s.heap.size ≤ q) ((ow oa oc g) :: ((xw ad cs w n nr K V O M RL G1 (nI c0) (nI r) 1 (nI c0) op 0 0) ++ (mw bd cr w n K V OM LF th (nI c0) (nI r) (nI (c0 - r * w)) 1 (nI c0) cur nk nv gc gu gl gm))) := hD
      refine lv_aload_n hx hb dL_law_273 rfl (lv_at hl 2 rfl) ?_
      refine zi_callV (As := []) (rest := [.int v1]) (q0 := 0) (ci := 1) ((ow oa oc g) :: (xw ad cs w n nr K V O M RL G1 (nI c0) (nI r) 1 (nI c0) op 0 0)) [] C0 (m_nextRow_e l D bd cr w n K V OM LF th (nI r) (nI (c0 - r * w)) cur nk nv gc gu gl gm c0) zv_L_X1_nextRow ⟨by decide, by decide⟩ ⟨rfl, rfl⟩ rfl hKm hP hD hS hA rfl rfl rfl hl.1 rfl (Nat.le_of_ble_eq_true rfl) dL_law_274 ⟨show 14 + i ≤ 601024 by omega, show 20000 + 6 * i ≤ 7293000 by omega⟩ (fun v2 _ H locs h2 hP hD hS => ?_)
      have hP : va_P D classes ((ow oa oc g) :: ((xw ad cs w n nr K V O M RL G1 (nI c0) (nI r) 1 (nI c0) op 0 0) ++ (mw bd cr w n K V OM LF 0 (nI c0) (nI r) (nI (c0 - r * w)) 1 (nI c0) 0 nk nv gc gu gl gm))) H := hP
      have hD : va_D (fun q => s.heap.size ≤ q) ((ow oa oc g) :: ((xw ad cs w n nr K V O M RL G1 (nI c0) (nI r) 1 (nI c0) op 0 0) ++ (mw bd cr w n K V OM LF 0 (nI c0) (nI r) (nI (c0 - r * w)) 1 (nI c0) 0 nk nv gc gu gl gm))) := hD
      refine lv_icmp_eq (tgt := 458) hx hb dL_law_277 (by decide) (fun _ => ?_) (fun hne => absurd (h1.1.trans h2.symm) hne)
      refine W.widen (k := 15 + i) (n := 20006 + 6 * i) (by omega) (by omega) ?_
      exact hB K V O M RL G1 OM LF c0 r c0 1 op 0 0 0 (nI (c0 - r * w)) 0 nk nv gc gu gl gm g _ _ _ (⟨l1, l2, l3, rfl, Or.inl ⟨rfl, rfl, rfl, h1.2⟩, Or.inr ⟨rfl, h7, o, h8, h9, h10⟩⟩) hP hD hS (lv_sub hl [0, 1, 2, 3, 4] rfl)
set_option maxHeartbeats 8000000 in
set_option maxRecDepth 100000 in
theorem law_5 {p : Program} {l : Launch} {e : Env} {s : State} {m : MethodId} {below : List Frame} {meth : Method} {c : Code} {b L : Nat} {xs : Nat → Int32} {D : va_G} {ad : Nat → Nat} {cs : Nat → ClassId} {bd : Nat → Nat} {cr : Nat → ClassId} {oa : Nat} {oc : ClassId} {w n nr i : Nat} (hC : LC p s m c b L xs D cs cr oc) (hl9 : l.stackTraces = false) (hi : i + 5 ≤ L) (hL : L ≤ 2562) (hz : lS w n nr) (hB : LB p l e s m below meth c b D ad cs bd cr oa oc w n nr i) (K V O M RL G OM LF : Nat → Int32) (f r c0 : Nat) (se op ck cv th held cur nk nv gc gu gl gm : Int32) (g : Nat → Int64) (H : Heap) (locs : List Loc) (ls : Array Slot) (hI : li w n K O RL G OM f r c0 se op ck cv held cur nk nv gc gu gl gm) (hP : va_P D classes (lwd ad cs bd cr oa oc w n nr K V O M RL G OM LF f r c0 se op ck cv th held cur nk nv gc gu gl gm g) H) (hD : va_D (fun q => s.heap.size ≤ q) (lwd ad cs bd cr oa oc w n nr K V O M RL G OM LF f r c0 se op ck cv th held cur nk nv gc gu gl gm g)) (hS : va_S (fun q => s.heap.size ≤ q) s.heap H locs) (hl : lv_has ls 7 [(0, .ref b), (1, .ref (ad 0)), (2, .ref (bd 0)), (3, .ref oa), (4, .int (nI i))]) : W p l e room_1 s m #[Value.ref b] below meth c H locs (14 + i) (20000 + 6 * i) (lw_Z below #[Value.ref b] s) (F0 m 282 ls []) := by
  obtain ⟨C0, hX, hbl, hK, hxh⟩ := hC
  have hx := C0.1
  have hb := C0.2.1
  have hbA : ¬ (fun q => s.heap.size ≤ q) b := Nat.not_le.mpr hbl
  have hA : ∀ q, s.heap.size ≤ q → (fun q => s.heap.size ≤ q) q := fun _ h => h
  have hKx : va_K D classes (xt cs) s := hK.sub [1, 2, 3, 4, 5, 6] rfl
  have hKm : va_K D classes (mt cr) s := hK.sub [7, 8, 9, 10] rfl
  have hKh : va_K D classes ((oc, .long) :: xt cs) s := hK.sub [0, 1, 2, 3, 4, 5, 6] rfl
  obtain ⟨z1, z2, z3, z4, z5⟩ := id hz
  obtain ⟨l1, l2, l3, l4, l5, l6⟩ := hI
  subst l4
  rcases l6 with ⟨rfl, rfl, rfl, h6⟩ | ⟨rfl, h7, o, h8, h9, h10⟩
  · have hP : va_P D classes ((ow oa oc g) :: ((xw ad cs w n nr K V O M RL G (nI f) (nI r) 0 (nI 0) op ck cv) ++ (mw bd cr w n K V OM LF th (nI f) (nI r) (nI (f - r * w)) 0 (nI 0) 0 nk nv gc gu gl gm))) H := hP
    have hD : va_D (fun q => s.heap.size ≤ q) ((ow oa oc g) :: ((xw ad cs w n nr K V O M RL G (nI f) (nI r) 0 (nI 0) op ck cv) ++ (mw bd cr w n K V OM LF th (nI f) (nI r) (nI (f - r * w)) 0 (nI 0) 0 nk nv gc gu gl gm))) := hD
    refine lv_aload_n hx hb dL_law_282 rfl (lv_at hl 1 rfl) ?_
    refine zi_callV (As := []) (rest := []) (q0 := 0) (ci := 0) [(ow oa oc g)] (mw bd cr w n K V OM LF th (nI f) (nI r) (nI (f - r * w)) 0 (nI 0) 0 nk nv gc gu gl gm) C0 (c_nextGroup_u l D ad cs w n nr (by omega) (by omega) K V O M RL G (nI f) (nI r) (nI 0) op ck cv) zv_L_X0_nextGroup ⟨by decide, by decide⟩ ⟨rfl, rfl⟩ rfl hKx hP hD hS hA rfl rfl rfl hl.1 rfl (Nat.le_of_ble_eq_true rfl) dL_law_283 ⟨show 14 + i ≤ 601024 by omega, show 20000 + 6 * i ≤ 7293000 by omega⟩ (fun v1 _ H locs h1 hP hD hS => ?_)
    have hP : va_P D classes ((ow oa oc g) :: ((xw ad cs w n nr K V O M RL G (nI f) (nI r) 0 (nI 0) op ck cv) ++ (mw bd cr w n K V OM LF th (nI f) (nI r) (nI (f - r * w)) 0 (nI 0) 0 nk nv gc gu gl gm))) H := hP
    have hD : va_D (fun q => s.heap.size ≤ q) ((ow oa oc g) :: ((xw ad cs w n nr K V O M RL G (nI f) (nI r) 0 (nI 0) op ck cv) ++ (mw bd cr w n K V OM LF th (nI f) (nI r) (nI (f - r * w)) 0 (nI 0) 0 nk nv gc gu gl gm))) := hD
    refine lv_aload_n hx hb dL_law_286 rfl (lv_at hl 2 rfl) ?_
    refine zi_callV (As := []) (rest := [.int v1]) (q0 := 0) (ci := 1) ((ow oa oc g) :: (xw ad cs w n nr K V O M RL G (nI f) (nI r) 0 (nI 0) op ck cv)) [] C0 (m_nextGroup_u l D bd cr w n K V OM LF th (nI f) (nI r) (nI (f - r * w)) (nI 0) 0 nk nv gc gu gl gm) zv_L_X1_nextGroup ⟨by decide, by decide⟩ ⟨rfl, rfl⟩ rfl hKm hP hD hS hA rfl rfl rfl hl.1 rfl (Nat.le_of_ble_eq_true rfl) dL_law_287 ⟨show 14 + i ≤ 601024 by omega, show 20000 + 6 * i ≤ 7293000 by omega⟩ (fun v2 _ H locs h2 hP hD hS => ?_)
    have hP : va_P D classes ((ow oa oc g) :: ((xw ad cs w n nr K V O M RL G (nI f) (nI r) 0 (nI 0) op ck cv) ++ (mw bd cr w n K V OM LF 0 (nI f) (nI r) (nI (f - r * w)) 0 (nI 0) 0 nk nv gc gu gl gm))) H := hP
    have hD : va_D (fun q => s.heap.size ≤ q) ((ow oa oc g) :: ((xw ad cs w n nr K V O M RL G (nI f) (nI r) 0 (nI 0) op ck cv) ++ (mw bd cr w n K V OM LF 0 (nI f) (nI r) (nI (f - r * w)) 0 (nI 0) 0 nk nv gc gu gl gm))) := hD
    refine lv_icmp_eq (tgt := 458) hx hb dL_law_290 (by decide) (fun _ => ?_) (fun hne => absurd (h1.trans h2.symm) hne)
    refine W.widen (k := 15 + i) (n := 20006 + 6 * i) (by omega) (by omega) ?_
    exact hB K V O M RL G OM LF f r 0 0 op ck cv 0 (nI (f - r * w)) 0 nk nv gc gu gl gm g _ _ _ (⟨l1, l2, l3, rfl, l5, Or.inl ⟨rfl, rfl, rfl, h6⟩⟩) hP hD hS (lv_sub hl [0, 1, 2, 3, 4] rfl)
  · rcases Nat.lt_or_ge c0 f with q | q
    · have hP : va_P D classes ((ow oa oc g) :: ((xw ad cs w n nr K V O M RL G (nI f) (nI r) 1 (nI c0) op ck cv) ++ (mw bd cr w n K V OM LF th (nI f) (nI r) (nI (f - r * w)) 1 (nI c0) cur nk nv gc gu gl gm))) H := hP
      have hD : va_D (fun q => s.heap.size ≤ q) ((ow oa oc g) :: ((xw ad cs w n nr K V O M RL G (nI f) (nI r) 1 (nI c0) op ck cv) ++ (mw bd cr w n K V OM LF th (nI f) (nI r) (nI (f - r * w)) 1 (nI c0) cur nk nv gc gu gl gm))) := hD
      refine lv_aload_n hx hb dL_law_282 rfl (lv_at hl 1 rfl) ?_
      refine zi_callV (As := []) (rest := []) (q0 := 0) (ci := 0) [(ow oa oc g)] (mw bd cr w n K V OM LF th (nI f) (nI r) (nI (f - r * w)) 1 (nI c0) cur nk nv gc gu gl gm) C0 (c_nextGroup l D ad cs w n nr (by omega) (by omega) K V O M RL G (nI r) op ck cv r f c0 o l1 (by omega) z1 (by omega) h8 h10 l2.2 (hz.runs l1 l3).1 q) zv_L_X0_nextGroup ⟨by decide, by decide⟩ ⟨rfl, rfl⟩ rfl hKx hP hD hS hA rfl rfl rfl hl.1 rfl (Nat.le_of_ble_eq_true rfl) dL_law_283 ⟨show 14 + i ≤ 601024 by omega, show 20000 + 6 * i ≤ 7293000 by omega⟩ (fun v1 u1 H locs h1 hP hD hS => ?_)
      obtain ⟨G1, RL1, op1, mx⟩ := u1
      obtain ⟨a1, a2, a3, a4, a5, a6⟩ := h1
      dsimp only at a2 a3 a4 a5 a6 hP hD
      have hP : va_P D classes ((ow oa oc g) :: ((xw ad cs w n nr K V O M RL1 G1 (nI f) (nI r) 1 (nI (c0 + mx)) op1 (K (o c0)) 0) ++ (mw bd cr w n K V OM LF th (nI f) (nI r) (nI (f - r * w)) 1 (nI c0) cur nk nv gc gu gl gm))) H := hP
      have hD : va_D (fun q => s.heap.size ≤ q) ((ow oa oc g) :: ((xw ad cs w n nr K V O M RL1 G1 (nI f) (nI r) 1 (nI (c0 + mx)) op1 (K (o c0)) 0) ++ (mw bd cr w n K V OM LF th (nI f) (nI r) (nI (f - r * w)) 1 (nI c0) cur nk nv gc gu gl gm))) := hD
      refine lv_aload_n hx hb dL_law_286 rfl (lv_at hl 2 rfl) ?_
      refine zi_callV (As := []) (rest := [.int v1]) (q0 := 0) (ci := 1) ((ow oa oc g) :: (xw ad cs w n nr K V O M RL1 G1 (nI f) (nI r) 1 (nI (c0 + mx)) op1 (K (o c0)) 0)) [] C0 (m_nextGroup l D bd cr w n K V OM LF th (nI r) (nI (f - r * w)) cur nk nv gc gu gl gm f c0 o (by omega) h9 q) zv_L_X1_nextGroup ⟨by decide, by decide⟩ ⟨rfl, rfl⟩ rfl hKm hP hD hS hA rfl rfl rfl hl.1 rfl (Nat.le_of_ble_eq_true rfl) dL_law_287 ⟨show 14 + i ≤ 601024 by omega, show 20000 + 6 * i ≤ 7293000 by omega⟩ (fun v2 u2 H locs h2 hP hD hS => ?_)
      obtain ⟨my, gc1, gu1, gl1, gm1⟩ := u2
      obtain ⟨b1, b2, b3, b4, b5⟩ := h2
      dsimp only at b2 b3 b4 b5 hP hD
      have em : mx = my := gm_uniq (P := fun j => K (o j) = K (o c0)) a2 a3 a4 b2 b3 b4
      subst em
      have hmx : 0 < mx := by
        rcases Nat.eq_zero_or_pos mx with z | z
        · subst z
          rcases a4 with y | y
          · omega
          · exact absurd rfl y
        · exact z
      have hP : va_P D classes ((ow oa oc g) :: ((xw ad cs w n nr K V O M RL1 G1 (nI f) (nI r) 1 (nI (c0 + mx)) op1 (K (o c0)) 0) ++ (mw bd cr w n K V OM LF 0 (nI f) (nI r) (nI (f - r * w)) 1 (nI (c0 + mx)) 2 (K (o c0)) nv gc1 gu1 gl1 gm1))) H := hP
      have hD : va_D (fun q => s.heap.size ≤ q) ((ow oa oc g) :: ((xw ad cs w n nr K V O M RL1 G1 (nI f) (nI r) 1 (nI (c0 + mx)) op1 (K (o c0)) 0) ++ (mw bd cr w n K V OM LF 0 (nI f) (nI r) (nI (f - r * w)) 1 (nI (c0 + mx)) 2 (K (o c0)) nv gc1 gu1 gl1 gm1))) := hD
      refine lv_icmp_eq (tgt := 458) hx hb dL_law_290 (by decide) (fun _ => ?_) (fun hne => absurd (a1.trans b1.symm) hne)
      refine W.widen (k := 15 + i) (n := 20006 + 6 * i) (by omega) (by omega) ?_
      exact hB K V O M RL1 G1 OM LF f r (c0 + mx) 1 op1 (K (o c0)) 0 0 (nI (f - r * w)) 2 (K (o c0)) nv gc1 gu1 gl1 gm1 g _ _ _ (⟨l1, l2, l3, rfl, Or.inr (Or.inr ⟨rfl, rfl, rfl, a5.trans (b5 hmx).symm⟩), Or.inr ⟨rfl, a2, o, h8, h9, a6⟩⟩) hP hD hS (lv_sub hl [0, 1, 2, 3, 4] rfl)
    · have ef : c0 = f := by omega
      subst ef
      have hP : va_P D classes ((ow oa oc g) :: ((xw ad cs w n nr K V O M RL G (nI c0) (nI r) 1 (nI c0) op ck cv) ++ (mw bd cr w n K V OM LF th (nI c0) (nI r) (nI (c0 - r * w)) 1 (nI c0) cur nk nv gc gu gl gm))) H := hP
      have hD : va_D (fun q => s.heap.size ≤ q) ((ow oa oc g) :: ((xw ad cs w n nr K V O M RL G (nI c0) (nI r) 1 (nI c0) op ck cv) ++ (mw bd cr w n K V OM LF th (nI c0) (nI r) (nI (c0 - r * w)) 1 (nI c0) cur nk nv gc gu gl gm))) := hD
      refine lv_aload_n hx hb dL_law_282 rfl (lv_at hl 1 rfl) ?_
      refine zi_callV (As := []) (rest := []) (q0 := 0) (ci := 0) [(ow oa oc g)] (mw bd cr w n K V OM LF th (nI c0) (nI r) (nI (c0 - r * w)) 1 (nI c0) cur nk nv gc gu gl gm) C0 (c_nextGroup_e l D ad cs w n nr (by omega) (by omega) K V O M RL G (nI r) op ck cv c0 l1) zv_L_X0_nextGroup ⟨by decide, by decide⟩ ⟨rfl, rfl⟩ rfl hKx hP hD hS hA rfl rfl rfl hl.1 rfl (Nat.le_of_ble_eq_true rfl) dL_law_283 ⟨show 14 + i ≤ 601024 by omega, show 20000 + 6 * i ≤ 7293000 by omega⟩ (fun v1 G1 H locs h1 hP hD hS => ?_)
      have hP : va_P D classes ((ow oa oc g) :: ((xw ad cs w n nr K V O M RL G1 (nI c0) (nI r) 1 (nI c0) op 0 0) ++ (mw bd cr w n K V OM LF th (nI c0) (nI r) (nI (c0 - r * w)) 1 (nI c0) cur nk nv gc gu gl gm))) H := hP
      have hD : va_D (fun q => s.heap.size ≤ q) ((ow oa oc g) :: ((xw ad cs w n nr K V O M RL G1 (nI c0) (nI r) 1 (nI c0) op 0 0) ++ (mw bd cr w n K V OM LF th (nI c0) (nI r) (nI (c0 - r * w)) 1 (nI c0) cur nk nv gc gu gl gm))) := hD
      refine lv_aload_n hx hb dL_law_286 rfl (lv_at hl 2 rfl) ?_
      refine zi_callV (As := []) (rest := [.int v1]) (q0 := 0) (ci := 1) ((ow oa oc g) :: (xw ad cs w n nr K V O M RL G1 (nI c0) (nI r) 1 (nI c0) op 0 0)) [] C0 (m_nextGroup_e l D bd cr w n K V OM LF th (nI r) (nI (c0 - r * w)) cur nk nv gc gu gl gm c0) zv_L_X1_nextGroup ⟨by decide, by decide⟩ ⟨rfl, rfl⟩ rfl hKm hP hD hS hA rfl rfl rfl hl.1 rfl (Nat.le_of_ble_eq_true rfl) dL_law_287 ⟨show 14 + i ≤ 601024 by omega, show 20000 + 6 * i ≤ 7293000 by omega⟩ (fun v2 _ H locs h2 hP hD hS => ?_)
      have hP : va_P D classes ((ow oa oc g) :: ((xw ad cs w n nr K V O M RL G1 (nI c0) (nI r) 1 (nI c0) op 0 0) ++ (mw bd cr w n K V OM LF 0 (nI c0) (nI r) (nI (c0 - r * w)) 1 (nI c0) 0 nk nv gc gu gl gm))) H := hP
      have hD : va_D (fun q => s.heap.size ≤ q) ((ow oa oc g) :: ((xw ad cs w n nr K V O M RL G1 (nI c0) (nI r) 1 (nI c0) op 0 0) ++ (mw bd cr w n K V OM LF 0 (nI c0) (nI r) (nI (c0 - r * w)) 1 (nI c0) 0 nk nv gc gu gl gm))) := hD
      refine lv_icmp_eq (tgt := 458) hx hb dL_law_290 (by decide) (fun _ => ?_) (fun hne => absurd (h1.1.trans h2.symm) hne)
      refine W.widen (k := 15 + i) (n := 20006 + 6 * i) (by omega) (by omega) ?_
      exact hB K V O M RL G1 OM LF c0 r c0 1 op 0 0 0 (nI (c0 - r * w)) 0 nk nv gc gu gl gm g _ _ _ (⟨l1, l2, l3, rfl, Or.inl ⟨rfl, rfl, rfl, h1.2⟩, Or.inr ⟨rfl, h7, o, h8, h9, h10⟩⟩) hP hD hS (lv_sub hl [0, 1, 2, 3, 4] rfl)
set_option maxHeartbeats 8000000 in
set_option maxRecDepth 100000 in
theorem law_6 {p : Program} {l : Launch} {e : Env} {s : State} {m : MethodId} {below : List Frame} {meth : Method} {c : Code} {b L : Nat} {xs : Nat → Int32} {D : va_G} {ad : Nat → Nat} {cs : Nat → ClassId} {bd : Nat → Nat} {cr : Nat → ClassId} {oa : Nat} {oc : ClassId} {w n nr i : Nat} (hC : LC p s m c b L xs D cs cr oc) (hl9 : l.stackTraces = false) (hi : i + 5 ≤ L) (hL : L ≤ 2562) (hz : lS w n nr) (hB : LB p l e s m below meth c b D ad cs bd cr oa oc w n nr i) (K V O M RL G OM LF : Nat → Int32) (f r c0 : Nat) (se op ck cv th held cur nk nv gc gu gl gm : Int32) (g : Nat → Int64) (H : Heap) (locs : List Loc) (ls : Array Slot) (hI : li w n K O RL G OM f r c0 se op ck cv held cur nk nv gc gu gl gm) (hP : va_P D classes (lwd ad cs bd cr oa oc w n nr K V O M RL G OM LF f r c0 se op ck cv th held cur nk nv gc gu gl gm g) H) (hD : va_D (fun q => s.heap.size ≤ q) (lwd ad cs bd cr oa oc w n nr K V O M RL G OM LF f r c0 se op ck cv th held cur nk nv gc gu gl gm g)) (hS : va_S (fun q => s.heap.size ≤ q) s.heap H locs) (hl : lv_has ls 7 [(0, .ref b), (1, .ref (ad 0)), (2, .ref (bd 0)), (3, .ref oa), (4, .int (nI i))]) : W p l e room_1 s m #[Value.ref b] below meth c H locs (14 + i) (20000 + 6 * i) (lw_Z below #[Value.ref b] s) (F0 m 295 ls []) := by
  obtain ⟨C0, hX, hbl, hK, hxh⟩ := hC
  have hx := C0.1
  have hb := C0.2.1
  have hbA : ¬ (fun q => s.heap.size ≤ q) b := Nat.not_le.mpr hbl
  have hA : ∀ q, s.heap.size ≤ q → (fun q => s.heap.size ≤ q) q := fun _ h => h
  have hKx : va_K D classes (xt cs) s := hK.sub [1, 2, 3, 4, 5, 6] rfl
  have hKm : va_K D classes (mt cr) s := hK.sub [7, 8, 9, 10] rfl
  have hKh : va_K D classes ((oc, .long) :: xt cs) s := hK.sub [0, 1, 2, 3, 4, 5, 6] rfl
  obtain ⟨z1, z2, z3, z4, z5⟩ := id hz
  obtain ⟨l1, l2, l3, l4, l5, l6⟩ := hI
  subst l4
  rcases l6 with ⟨rfl, rfl, rfl, h6⟩ | ⟨rfl, h7, o, h8, h9, h10⟩
  · have hP : va_P D classes ((ow oa oc g) :: ((xw ad cs w n nr K V O M RL G (nI f) (nI r) 0 (nI 0) op ck cv) ++ (mw bd cr w n K V OM LF th (nI f) (nI r) (nI (f - r * w)) 0 (nI 0) 0 nk nv gc gu gl gm))) H := hP
    have hD : va_D (fun q => s.heap.size ≤ q) ((ow oa oc g) :: ((xw ad cs w n nr K V O M RL G (nI f) (nI r) 0 (nI 0) op ck cv) ++ (mw bd cr w n K V OM LF th (nI f) (nI r) (nI (f - r * w)) 0 (nI 0) 0 nk nv gc gu gl gm))) := hD
    refine lv_aload_n hx hb dL_law_295 rfl (lv_at hl 1 rfl) ?_
    refine lv_aload_n hx hb dL_law_296 rfl (lv_at hl 0 rfl) ?_
    refine lv_iload hx hb dL_law_297 (lv_at hl 4 rfl) ?_
    refine lv_iconst (v := 1) hx hb dL_law_299 (by decide) ?_
    refine lv_iadd hx hb dL_law_300 ?_
    refine z_eq (show nI i + 1 = nI (i + 1) from nI_add i 1) ?_
    refine z_sld (j := (i + 1)) C0 hX hbl hbA hS (by omega) (by omega) dL_law_301 ?_
    refine zi_callV (As := [.int (xs (i + 1))]) (rest := []) (q0 := 0) (ci := 0) [(ow oa oc g)] (mw bd cr w n K V OM LF th (nI f) (nI r) (nI (f - r * w)) 0 (nI 0) 0 nk nv gc gu gl gm) C0 (c_skipTo_u l D ad cs w n nr (by omega) (by omega) K V O M RL G (nI f) (nI r) (nI 0) op ck cv (xs (i + 1))) zv_L_X0_skipTo ⟨by decide, by decide⟩ ⟨rfl, rfl⟩ rfl hKx hP hD hS hA rfl rfl rfl hl.1 rfl (Nat.le_of_ble_eq_true rfl) dL_law_302 ⟨show 14 + i ≤ 601024 by omega, show 20000 + 6 * i ≤ 7293000 by omega⟩ (fun v1 _ H locs h1 hP hD hS => ?_)
    have hP : va_P D classes ((ow oa oc g) :: ((xw ad cs w n nr K V O M RL G (nI f) (nI r) 0 (nI 0) op ck cv) ++ (mw bd cr w n K V OM LF th (nI f) (nI r) (nI (f - r * w)) 0 (nI 0) 0 nk nv gc gu gl gm))) H := hP
    have hD : va_D (fun q => s.heap.size ≤ q) ((ow oa oc g) :: ((xw ad cs w n nr K V O M RL G (nI f) (nI r) 0 (nI 0) op ck cv) ++ (mw bd cr w n K V OM LF th (nI f) (nI r) (nI (f - r * w)) 0 (nI 0) 0 nk nv gc gu gl gm))) := hD
    refine lv_aload_n hx hb dL_law_305 rfl (lv_at hl 2 rfl) ?_
    refine lv_aload_n hx hb dL_law_306 rfl (lv_at hl 0 rfl) ?_
    refine lv_iload hx hb dL_law_307 (lv_at hl 4 rfl) ?_
    refine lv_iconst (v := 1) hx hb dL_law_309 (by decide) ?_
    refine lv_iadd hx hb dL_law_310 ?_
    refine z_eq (show nI i + 1 = nI (i + 1) from nI_add i 1) ?_
    refine z_sld (j := (i + 1)) C0 hX hbl hbA hS (by omega) (by omega) dL_law_311 ?_
    refine zi_callV (As := [.int (xs (i + 1))]) (rest := [.int v1]) (q0 := 0) (ci := 1) ((ow oa oc g) :: (xw ad cs w n nr K V O M RL G (nI f) (nI r) 0 (nI 0) op ck cv)) [] C0 (m_skipTo_u l D bd cr w n K V OM LF th (nI f) (nI r) (nI (f - r * w)) (nI 0) 0 nk nv gc gu gl gm (xs (i + 1))) zv_L_X1_skipTo ⟨by decide, by decide⟩ ⟨rfl, rfl⟩ rfl hKm hP hD hS hA rfl rfl rfl hl.1 rfl (Nat.le_of_ble_eq_true rfl) dL_law_312 ⟨show 14 + i ≤ 601024 by omega, show 20000 + 6 * i ≤ 7293000 by omega⟩ (fun v2 _ H locs h2 hP hD hS => ?_)
    have hP : va_P D classes ((ow oa oc g) :: ((xw ad cs w n nr K V O M RL G (nI f) (nI r) 0 (nI 0) op ck cv) ++ (mw bd cr w n K V OM LF 0 (nI f) (nI r) (nI (f - r * w)) 0 (nI 0) 0 nk nv gc gu gl gm))) H := hP
    have hD : va_D (fun q => s.heap.size ≤ q) ((ow oa oc g) :: ((xw ad cs w n nr K V O M RL G (nI f) (nI r) 0 (nI 0) op ck cv) ++ (mw bd cr w n K V OM LF 0 (nI f) (nI r) (nI (f - r * w)) 0 (nI 0) 0 nk nv gc gu gl gm))) := hD
    refine lv_icmp_eq (tgt := 458) hx hb dL_law_315 (by decide) (fun _ => ?_) (fun hne => absurd (h1.trans h2.symm) hne)
    refine W.widen (k := 15 + i) (n := 20006 + 6 * i) (by omega) (by omega) ?_
    exact hB K V O M RL G OM LF f r 0 0 op ck cv 0 (nI (f - r * w)) 0 nk nv gc gu gl gm g _ _ _ (⟨l1, l2, l3, rfl, l5, Or.inl ⟨rfl, rfl, rfl, h6⟩⟩) hP hD hS (lv_sub hl [0, 1, 2, 3, 4] rfl)
  · have hP : va_P D classes ((ow oa oc g) :: ((xw ad cs w n nr K V O M RL G (nI f) (nI r) 1 (nI c0) op ck cv) ++ (mw bd cr w n K V OM LF th (nI f) (nI r) (nI (f - r * w)) 1 (nI c0) cur nk nv gc gu gl gm))) H := hP
    have hD : va_D (fun q => s.heap.size ≤ q) ((ow oa oc g) :: ((xw ad cs w n nr K V O M RL G (nI f) (nI r) 1 (nI c0) op ck cv) ++ (mw bd cr w n K V OM LF th (nI f) (nI r) (nI (f - r * w)) 1 (nI c0) cur nk nv gc gu gl gm))) := hD
    refine lv_aload_n hx hb dL_law_295 rfl (lv_at hl 1 rfl) ?_
    refine lv_aload_n hx hb dL_law_296 rfl (lv_at hl 0 rfl) ?_
    refine lv_iload hx hb dL_law_297 (lv_at hl 4 rfl) ?_
    refine lv_iconst (v := 1) hx hb dL_law_299 (by decide) ?_
    refine lv_iadd hx hb dL_law_300 ?_
    refine z_eq (show nI i + 1 = nI (i + 1) from nI_add i 1) ?_
    refine z_sld (j := (i + 1)) C0 hX hbl hbA hS (by omega) (by omega) dL_law_301 ?_
    refine zi_callV (As := [.int (xs (i + 1))]) (rest := []) (q0 := 0) (ci := 0) [(ow oa oc g)] (mw bd cr w n K V OM LF th (nI f) (nI r) (nI (f - r * w)) 1 (nI c0) cur nk nv gc gu gl gm) C0 (c_skipTo l D ad cs w n nr (by omega) (by omega) K V O M RL G (nI r) op ck cv r f c0 o (xs (i + 1)) l1 (by omega) z1 (by omega) h8 h10 l2.2 (hz.runs l1 l3).1 h7) zv_L_X0_skipTo ⟨by decide, by decide⟩ ⟨rfl, rfl⟩ rfl hKx hP hD hS hA rfl rfl rfl hl.1 rfl (Nat.le_of_ble_eq_true rfl) dL_law_302 ⟨show 14 + i ≤ 601024 by omega, show 20000 + 6 * i ≤ 7293000 by omega⟩ (fun v1 u1 H locs h1 hP hD hS => ?_)
    obtain ⟨G1, RL1, op1, mx⟩ := u1
    obtain ⟨a1, a2, a3, a4, a5, a6⟩ := h1
    dsimp only at a1 a2 a3 a4 a5 a6 hP hD
    have hP : va_P D classes ((ow oa oc g) :: ((xw ad cs w n nr K V O M RL1 G1 (nI f) (nI r) 1 (nI (c0 + mx)) op1 0 0) ++ (mw bd cr w n K V OM LF th (nI f) (nI r) (nI (f - r * w)) 1 (nI c0) cur nk nv gc gu gl gm))) H := hP
    have hD : va_D (fun q => s.heap.size ≤ q) ((ow oa oc g) :: ((xw ad cs w n nr K V O M RL1 G1 (nI f) (nI r) 1 (nI (c0 + mx)) op1 0 0) ++ (mw bd cr w n K V OM LF th (nI f) (nI r) (nI (f - r * w)) 1 (nI c0) cur nk nv gc gu gl gm))) := hD
    refine lv_aload_n hx hb dL_law_305 rfl (lv_at hl 2 rfl) ?_
    refine lv_aload_n hx hb dL_law_306 rfl (lv_at hl 0 rfl) ?_
    refine lv_iload hx hb dL_law_307 (lv_at hl 4 rfl) ?_
    refine lv_iconst (v := 1) hx hb dL_law_309 (by decide) ?_
    refine lv_iadd hx hb dL_law_310 ?_
    refine z_eq (show nI i + 1 = nI (i + 1) from nI_add i 1) ?_
    refine z_sld (j := (i + 1)) C0 hX hbl hbA hS (by omega) (by omega) dL_law_311 ?_
    refine zi_callV (As := [.int (xs (i + 1))]) (rest := [.int v1]) (q0 := 0) (ci := 1) ((ow oa oc g) :: (xw ad cs w n nr K V O M RL1 G1 (nI f) (nI r) 1 (nI (c0 + mx)) op1 0 0)) [] C0 (m_skipTo l D bd cr w n K V OM LF th (nI r) (nI (f - r * w)) cur nk nv gc gu gl gm f c0 o (xs (i + 1)) (by omega) h9 h7) zv_L_X1_skipTo ⟨by decide, by decide⟩ ⟨rfl, rfl⟩ rfl hKm hP hD hS hA rfl rfl rfl hl.1 rfl (Nat.le_of_ble_eq_true rfl) dL_law_312 ⟨show 14 + i ≤ 601024 by omega, show 20000 + 6 * i ≤ 7293000 by omega⟩ (fun v2 my H locs h2 hP hD hS => ?_)
    obtain ⟨b1, b2, b3, b4⟩ := h2
    have em : mx = my := gm_uniq (P := fun j => K (o j) < (xs (i + 1))) a2 a3 a4 b2 b3 b4
    subst em
    have hP : va_P D classes ((ow oa oc g) :: ((xw ad cs w n nr K V O M RL1 G1 (nI f) (nI r) 1 (nI (c0 + mx)) op1 0 0) ++ (mw bd cr w n K V OM LF 0 (nI f) (nI r) (nI (f - r * w)) 1 (nI (c0 + mx)) 0 nk nv gc gu gl gm))) H := hP
    have hD : va_D (fun q => s.heap.size ≤ q) ((ow oa oc g) :: ((xw ad cs w n nr K V O M RL1 G1 (nI f) (nI r) 1 (nI (c0 + mx)) op1 0 0) ++ (mw bd cr w n K V OM LF 0 (nI f) (nI r) (nI (f - r * w)) 1 (nI (c0 + mx)) 0 nk nv gc gu gl gm))) := hD
    refine lv_icmp_eq (tgt := 458) hx hb dL_law_315 (by decide) (fun _ => ?_) (fun hne => absurd (a1.trans b1.symm) hne)
    refine W.widen (k := 15 + i) (n := 20006 + 6 * i) (by omega) (by omega) ?_
    exact hB K V O M RL1 G1 OM LF f r (c0 + mx) 1 op1 0 0 0 (nI (f - r * w)) 0 nk nv gc gu gl gm g _ _ _ (⟨l1, l2, l3, rfl, Or.inl ⟨rfl, rfl, rfl, a5⟩, Or.inr ⟨rfl, a2, o, h8, h9, a6⟩⟩) hP hD hS (lv_sub hl [0, 1, 2, 3, 4] rfl)
theorem lC_key {G : Nat → Int32} {ck cv cur nk nv gc gu gl gm : Int32} (h : lC G ck cv cur nk nv gc gu gl gm) : ck = if cur = 0 then 0 else nk := by
  rcases h with ⟨a, b, -, -⟩ | ⟨a, b, -, -⟩ | ⟨a, b, -, -⟩
  · rw [a, b, if_pos rfl]
  · rw [a, b, if_neg (by decide)]
  · rw [a, b, if_neg (by decide)]
theorem lC_value {G : Nat → Int32} {ck cv cur nk nv gc gu gl gm : Int32} (h : lC G ck cv cur nk nv gc gu gl gm) : cv = if cur = 1 then nv else 0 := by
  rcases h with ⟨a, -, b, -⟩ | ⟨a, -, b, -⟩ | ⟨a, -, b, -⟩
  · rw [a, b, if_neg (by decide)]
  · rw [a, b, if_pos rfl]
  · rw [a, b, if_neg (by decide)]
theorem lC_group {G : Nat → Int32} {ck cv cur nk nv gc gu gl gm : Int32} {j : Nat} (h : lC G ck cv cur nk nv gc gu gl gm) (hj : j ≤ 3) : G j = if cur = 2 then (if nI j = 0 then gc else if nI j = 1 then gu else if nI j = 2 then gl else gm) else 0 := by
  rcases h with ⟨a, -, -, b⟩ | ⟨a, -, -, b⟩ | ⟨a, -, -, b⟩
  · rw [a, b j (by omega), if_neg (by decide)]
  · rw [a, b j (by omega), if_neg (by decide)]
  · rw [a, if_pos rfl]
    have e0 : G 0 = gc := congrArg (fun z => z.1) b
    have e1 : G 1 = gu := congrArg (fun z => z.2.1) b
    have e2 : G 2 = gl := congrArg (fun z => z.2.2.1) b
    have e3 : G 3 = gm := congrArg (fun z => z.2.2.2) b
    rcases (show j = 0 ∨ j = 1 ∨ j = 2 ∨ j = 3 by omega) with q | q | q | q
    · subst q
      exact e0.trans (if_pos rfl).symm
    · subst q
      exact e1.trans ((if_neg (by decide)).trans (if_pos rfl)).symm
    · subst q
      exact e2.trans ((if_neg (by decide)).trans ((if_neg (by decide)).trans (if_pos rfl))).symm
    · subst q
      exact e3.trans ((if_neg (by decide)).trans ((if_neg (by decide)).trans (if_neg (by decide)))).symm
set_option maxHeartbeats 8000000 in
set_option maxRecDepth 100000 in
theorem law_7 {p : Program} {l : Launch} {e : Env} {s : State} {m : MethodId} {below : List Frame} {meth : Method} {c : Code} {b L : Nat} {xs : Nat → Int32} {D : va_G} {ad : Nat → Nat} {cs : Nat → ClassId} {bd : Nat → Nat} {cr : Nat → ClassId} {oa : Nat} {oc : ClassId} {w n nr i : Nat} (hC : LC p s m c b L xs D cs cr oc) (hl9 : l.stackTraces = false) (hi : i + 5 ≤ L) (hL : L ≤ 2562) (hz : lS w n nr) (hB : LB p l e s m below meth c b D ad cs bd cr oa oc w n nr i) (K V O M RL G OM LF : Nat → Int32) (f r c0 : Nat) (se op ck cv th held cur nk nv gc gu gl gm : Int32) (g : Nat → Int64) (H : Heap) (locs : List Loc) (ls : Array Slot) (hI : li w n K O RL G OM f r c0 se op ck cv held cur nk nv gc gu gl gm) (hP : va_P D classes (lwd ad cs bd cr oa oc w n nr K V O M RL G OM LF f r c0 se op ck cv th held cur nk nv gc gu gl gm g) H) (hD : va_D (fun q => s.heap.size ≤ q) (lwd ad cs bd cr oa oc w n nr K V O M RL G OM LF f r c0 se op ck cv th held cur nk nv gc gu gl gm g)) (hS : va_S (fun q => s.heap.size ≤ q) s.heap H locs) (hl : lv_has ls 7 [(0, .ref b), (1, .ref (ad 0)), (2, .ref (bd 0)), (3, .ref oa), (4, .int (nI i))]) : W p l e room_1 s m #[Value.ref b] below meth c H locs (14 + i) (20000 + 6 * i) (lw_Z below #[Value.ref b] s) (F0 m 320 ls []) := by
  obtain ⟨C0, hX, hbl, hK, hxh⟩ := hC
  have hx := C0.1
  have hb := C0.2.1
  have hbA : ¬ (fun q => s.heap.size ≤ q) b := Nat.not_le.mpr hbl
  have hA : ∀ q, s.heap.size ≤ q → (fun q => s.heap.size ≤ q) q := fun _ h => h
  have hKx : va_K D classes (xt cs) s := hK.sub [1, 2, 3, 4, 5, 6] rfl
  have hKm : va_K D classes (mt cr) s := hK.sub [7, 8, 9, 10] rfl
  have hKh : va_K D classes ((oc, .long) :: xt cs) s := hK.sub [0, 1, 2, 3, 4, 5, 6] rfl
  obtain ⟨z1, z2, z3, z4, z5⟩ := id hz
  obtain ⟨l1, l2, l3, l4, l5, l6⟩ := hI
  subst l4
  have hP : va_P D classes ((ow oa oc g) :: ((xw ad cs w n nr K V O M RL G (nI f) (nI r) se (nI c0) op ck cv) ++ (mw bd cr w n K V OM LF th (nI f) (nI r) (nI (f - r * w)) se (nI c0) cur nk nv gc gu gl gm))) H := hP
  have hD : va_D (fun q => s.heap.size ≤ q) ((ow oa oc g) :: ((xw ad cs w n nr K V O M RL G (nI f) (nI r) se (nI c0) op ck cv) ++ (mw bd cr w n K V OM LF th (nI f) (nI r) (nI (f - r * w)) se (nI c0) cur nk nv gc gu gl gm))) := hD
  refine lv_aload_n hx hb dL_law_320 rfl (lv_at hl 1 rfl) ?_
  refine zr_callV (As := []) (rest := []) (q0 := 0) (ci := 0) (A := fun q => s.heap.size ≤ q) C0 (c_key l D ad cs w n nr (by omega) (by omega) K V O M RL G (nI f) (nI r) se (nI c0) op ck cv) zv_L_X0_key ⟨by decide, by decide⟩ ⟨rfl, rfl⟩ rfl hKx (z_subP (w1 := [(ow oa oc g)]) (w2 := (mw bd cr w n K V OM LF th (nI f) (nI r) (nI (f - r * w)) se (nI c0) cur nk nv gc gu gl gm)) hP) (z_subD (w1 := [(ow oa oc g)]) (w2 := (mw bd cr w n K V OM LF th (nI f) (nI r) (nI (f - r * w)) se (nI c0) cur nk nv gc gu gl gm)) hD) rfl rfl rfl hl.1 rfl (Nat.le_of_ble_eq_true rfl) dL_law_321 ⟨show 14 + i ≤ 601024 by omega, show 20000 + 6 * i ≤ 7293000 by omega⟩ (fun v1 h1 => ?_)
  refine lv_aload_n hx hb dL_law_324 rfl (lv_at hl 2 rfl) ?_
  refine zi_callV (As := []) (rest := [.int v1]) (q0 := 0) (ci := 1) ((ow oa oc g) :: (xw ad cs w n nr K V O M RL G (nI f) (nI r) se (nI c0) op ck cv)) [] C0 (m_key l D bd cr w n K V OM LF th (nI f) (nI r) (nI (f - r * w)) se (nI c0) cur nk nv gc gu gl gm) zv_L_X1_key ⟨by decide, by decide⟩ ⟨rfl, rfl⟩ rfl hKm hP hD hS hA rfl rfl rfl hl.1 rfl (Nat.le_of_ble_eq_true rfl) dL_law_325 ⟨show 14 + i ≤ 601024 by omega, show 20000 + 6 * i ≤ 7293000 by omega⟩ (fun v2 _ H locs h2 hP hD hS => ?_)
  have hP : va_P D classes ((ow oa oc g) :: ((xw ad cs w n nr K V O M RL G (nI f) (nI r) se (nI c0) op ck cv) ++ (mw bd cr w n K V OM LF 0 (nI f) (nI r) (nI (f - r * w)) se (nI c0) cur nk nv gc gu gl gm))) H := hP
  have hD : va_D (fun q => s.heap.size ≤ q) ((ow oa oc g) :: ((xw ad cs w n nr K V O M RL G (nI f) (nI r) se (nI c0) op ck cv) ++ (mw bd cr w n K V OM LF 0 (nI f) (nI r) (nI (f - r * w)) se (nI c0) cur nk nv gc gu gl gm))) := hD
  refine lv_icmp_eq (tgt := 458) hx hb dL_law_328 (by decide) (fun _ => ?_) (fun hne => absurd (h1.trans ((lC_key l5).trans h2.symm)) hne)
  refine W.widen (k := 15 + i) (n := 20006 + 6 * i) (by omega) (by omega) ?_
  exact hB K V O M RL G OM LF f r c0 se op ck cv 0 (nI (f - r * w)) cur nk nv gc gu gl gm g _ _ _ (⟨l1, l2, l3, rfl, l5, l6⟩) hP hD hS (lv_sub hl [0, 1, 2, 3, 4] rfl)
set_option maxHeartbeats 8000000 in
set_option maxRecDepth 100000 in
theorem law_8 {p : Program} {l : Launch} {e : Env} {s : State} {m : MethodId} {below : List Frame} {meth : Method} {c : Code} {b L : Nat} {xs : Nat → Int32} {D : va_G} {ad : Nat → Nat} {cs : Nat → ClassId} {bd : Nat → Nat} {cr : Nat → ClassId} {oa : Nat} {oc : ClassId} {w n nr i : Nat} (hC : LC p s m c b L xs D cs cr oc) (hl9 : l.stackTraces = false) (hi : i + 5 ≤ L) (hL : L ≤ 2562) (hz : lS w n nr) (hB : LB p l e s m below meth c b D ad cs bd cr oa oc w n nr i) (K V O M RL G OM LF : Nat → Int32) (f r c0 : Nat) (se op ck cv th held cur nk nv gc gu gl gm : Int32) (g : Nat → Int64) (H : Heap) (locs : List Loc) (ls : Array Slot) (hI : li w n K O RL G OM f r c0 se op ck cv held cur nk nv gc gu gl gm) (hP : va_P D classes (lwd ad cs bd cr oa oc w n nr K V O M RL G OM LF f r c0 se op ck cv th held cur nk nv gc gu gl gm g) H) (hD : va_D (fun q => s.heap.size ≤ q) (lwd ad cs bd cr oa oc w n nr K V O M RL G OM LF f r c0 se op ck cv th held cur nk nv gc gu gl gm g)) (hS : va_S (fun q => s.heap.size ≤ q) s.heap H locs) (hl : lv_has ls 7 [(0, .ref b), (1, .ref (ad 0)), (2, .ref (bd 0)), (3, .ref oa), (4, .int (nI i))]) : W p l e room_1 s m #[Value.ref b] below meth c H locs (14 + i) (20000 + 6 * i) (lw_Z below #[Value.ref b] s) (F0 m 333 ls []) := by
  obtain ⟨C0, hX, hbl, hK, hxh⟩ := hC
  have hx := C0.1
  have hb := C0.2.1
  have hbA : ¬ (fun q => s.heap.size ≤ q) b := Nat.not_le.mpr hbl
  have hA : ∀ q, s.heap.size ≤ q → (fun q => s.heap.size ≤ q) q := fun _ h => h
  have hKx : va_K D classes (xt cs) s := hK.sub [1, 2, 3, 4, 5, 6] rfl
  have hKm : va_K D classes (mt cr) s := hK.sub [7, 8, 9, 10] rfl
  have hKh : va_K D classes ((oc, .long) :: xt cs) s := hK.sub [0, 1, 2, 3, 4, 5, 6] rfl
  obtain ⟨z1, z2, z3, z4, z5⟩ := id hz
  obtain ⟨l1, l2, l3, l4, l5, l6⟩ := hI
  subst l4
  have hP : va_P D classes ((ow oa oc g) :: ((xw ad cs w n nr K V O M RL G (nI f) (nI r) se (nI c0) op ck cv) ++ (mw bd cr w n K V OM LF th (nI f) (nI r) (nI (f - r * w)) se (nI c0) cur nk nv gc gu gl gm))) H := hP
  have hD : va_D (fun q => s.heap.size ≤ q) ((ow oa oc g) :: ((xw ad cs w n nr K V O M RL G (nI f) (nI r) se (nI c0) op ck cv) ++ (mw bd cr w n K V OM LF th (nI f) (nI r) (nI (f - r * w)) se (nI c0) cur nk nv gc gu gl gm))) := hD
  refine lv_aload_n hx hb dL_law_333 rfl (lv_at hl 1 rfl) ?_
  refine zr_callV (As := []) (rest := []) (q0 := 0) (ci := 0) (A := fun q => s.heap.size ≤ q) C0 (c_value l D ad cs w n nr (by omega) (by omega) K V O M RL G (nI f) (nI r) se (nI c0) op ck cv) zv_L_X0_value ⟨by decide, by decide⟩ ⟨rfl, rfl⟩ rfl hKx (z_subP (w1 := [(ow oa oc g)]) (w2 := (mw bd cr w n K V OM LF th (nI f) (nI r) (nI (f - r * w)) se (nI c0) cur nk nv gc gu gl gm)) hP) (z_subD (w1 := [(ow oa oc g)]) (w2 := (mw bd cr w n K V OM LF th (nI f) (nI r) (nI (f - r * w)) se (nI c0) cur nk nv gc gu gl gm)) hD) rfl rfl rfl hl.1 rfl (Nat.le_of_ble_eq_true rfl) dL_law_334 ⟨show 14 + i ≤ 601024 by omega, show 20000 + 6 * i ≤ 7293000 by omega⟩ (fun v1 h1 => ?_)
  refine lv_aload_n hx hb dL_law_337 rfl (lv_at hl 2 rfl) ?_
  refine zi_callV (As := []) (rest := [.int v1]) (q0 := 0) (ci := 1) ((ow oa oc g) :: (xw ad cs w n nr K V O M RL G (nI f) (nI r) se (nI c0) op ck cv)) [] C0 (m_value l D bd cr w n K V OM LF th (nI f) (nI r) (nI (f - r * w)) se (nI c0) cur nk nv gc gu gl gm) zv_L_X1_value ⟨by decide, by decide⟩ ⟨rfl, rfl⟩ rfl hKm hP hD hS hA rfl rfl rfl hl.1 rfl (Nat.le_of_ble_eq_true rfl) dL_law_338 ⟨show 14 + i ≤ 601024 by omega, show 20000 + 6 * i ≤ 7293000 by omega⟩ (fun v2 _ H locs h2 hP hD hS => ?_)
  have hP : va_P D classes ((ow oa oc g) :: ((xw ad cs w n nr K V O M RL G (nI f) (nI r) se (nI c0) op ck cv) ++ (mw bd cr w n K V OM LF 0 (nI f) (nI r) (nI (f - r * w)) se (nI c0) cur nk nv gc gu gl gm))) H := hP
  have hD : va_D (fun q => s.heap.size ≤ q) ((ow oa oc g) :: ((xw ad cs w n nr K V O M RL G (nI f) (nI r) se (nI c0) op ck cv) ++ (mw bd cr w n K V OM LF 0 (nI f) (nI r) (nI (f - r * w)) se (nI c0) cur nk nv gc gu gl gm))) := hD
  refine lv_icmp_eq (tgt := 458) hx hb dL_law_341 (by decide) (fun _ => ?_) (fun hne => absurd (h1.trans ((lC_value l5).trans h2.symm)) hne)
  refine W.widen (k := 15 + i) (n := 20006 + 6 * i) (by omega) (by omega) ?_
  exact hB K V O M RL G OM LF f r c0 se op ck cv 0 (nI (f - r * w)) cur nk nv gc gu gl gm g _ _ _ (⟨l1, l2, l3, rfl, l5, l6⟩) hP hD hS (lv_sub hl [0, 1, 2, 3, 4] rfl)
