/-! X1: the reference's cells; rows on arrays by natural places -/
section ZM
variable {p : Program} {l : Launch} {e : Env} {R : Room} {s : State} {m : MethodId} {args : Array Value} {below : List Frame} {meth : Method} {c : Code} {H : Heap} {locs : List Loc} {cells slots : Nat} {Q : State → Prop}
variable {cc : ByteArray} {pc : Nat} {ls : Array Slot} {rest : List Value} {D : va_G} {cl : List vw_C} {A : Nat → Prop} {a : Nat} {tys : List (ClassId × FieldType)} {ws : va_W} {nL : Nat} {own : String}
theorem z_ild {cA : ClassId} {n j : Nat} {f : Nat → Int32} (C0 : CallFix p m c cc nL s args zt own) (hK : va_K D cl tys s) (hP : va_P D cl ws H) (q0 t0 : Nat) (ha : ws[q0]? = some (a, .inl (cA, n, .inl f))) (ht : tys[t0]? = some (cA, .int)) (hj : j < n) (hn : n < 2 ^ 31) (hdg : decode cc pc = .ok (.iaload, 1))
    (kk : W p l e R s m args below meth c H locs cells slots Q (F0 m (pc + 1) ls (.int (f j) :: rest))) : W p l e R s m args below meth c H locs cells slots Q (F0 m pc ls (.int (nI j) :: .ref a :: rest)) :=
  va_iald C0.1 C0.2.1 hK hP q0 t0 ha ht (vp_in_nI hj hn) hdg (by rw [nI_clamp (by omega)]; exact kk)
theorem z_ist {cA : ClassId} {n j : Nat} {f : Nat → Int32} {x : Int32} (C0 : CallFix p m c cc nL s args zt own) (hK : va_K D cl tys s) (hP : va_P D cl ws H) (hD : va_D A ws) (hS : va_S A s.heap H locs) (q0 t0 : Nat) (ha : ws[q0]? = some (a, .inl (cA, n, .inl f))) (ht : tys[t0]? = some (cA, .int)) (hj : j < n) (hn : n < 2 ^ 31) (hdg : decode cc pc = .ok (.iastore, 1))
    (kk : ∀ (H1 : Heap) (locs1 : List Loc), va_P D cl (ws.set q0 (a, .inl (cA, n, .inl (upd f j x)))) H1 → va_D A (ws.set q0 (a, .inl (cA, n, .inl (upd f j x)))) → va_S A s.heap H1 locs1 → W p l e R s m args below meth c H1 locs1 cells slots Q (F0 m (pc + 1) ls rest)) : W p l e R s m args below meth c H locs cells slots Q (F0 m pc ls (.int x :: .int (nI j) :: .ref a :: rest)) :=
  va_iast C0.1 C0.2.1 hK hP hD hS q0 t0 ha ht (vp_in_nI hj hn) hdg (by rw [nI_clamp (by omega)]; exact kk)
theorem z_bld {cA : ClassId} {n j : Nat} {f : Nat → Int32} (C0 : CallFix p m c cc nL s args zt own) (hK : va_K D cl tys s) (hP : va_P D cl ws H) (q0 t0 : Nat) (ha : ws[q0]? = some (a, .inl (cA, n, .inl f))) (ht : tys[t0]? = some (cA, .boolean)) (hj : j < n) (hn : n < 2 ^ 31) (hdg : decode cc pc = .ok (.baload, 1))
    (kk : W p l e R s m args below meth c H locs cells slots Q (F0 m (pc + 1) ls (.int (f j) :: rest))) : W p l e R s m args below meth c H locs cells slots Q (F0 m pc ls (.int (nI j) :: .ref a :: rest)) :=
  va_zald C0.1 C0.2.1 hK hP q0 t0 ha ht (vp_in_nI hj hn) hdg (by rw [nI_clamp (by omega)]; exact kk)
theorem z_bst {cA : ClassId} {n j : Nat} {f : Nat → Int32} {x : Int32} (C0 : CallFix p m c cc nL s args zt own) (hK : va_K D cl tys s) (hP : va_P D cl ws H) (hD : va_D A ws) (hS : va_S A s.heap H locs) (q0 t0 : Nat) (ha : ws[q0]? = some (a, .inl (cA, n, .inl f))) (ht : tys[t0]? = some (cA, .boolean)) (hj : j < n) (hn : n < 2 ^ 31) (hx : vp_nar .boolean x = x) (hdg : decode cc pc = .ok (.bastore, 1))
    (kk : ∀ (H1 : Heap) (locs1 : List Loc), va_P D cl (ws.set q0 (a, .inl (cA, n, .inl (upd f j x)))) H1 → va_D A (ws.set q0 (a, .inl (cA, n, .inl (upd f j x)))) → va_S A s.heap H1 locs1 → W p l e R s m args below meth c H1 locs1 cells slots Q (F0 m (pc + 1) ls rest)) : W p l e R s m args below meth c H locs cells slots Q (F0 m pc ls (.int x :: .int (nI j) :: .ref a :: rest)) :=
  va_zast C0.1 C0.2.1 hK hP hD hS q0 t0 ha ht (vp_in_nI hj hn) hdg (by rw [nI_clamp (by omega), hx]; exact kk)
end ZM
abbrev mw (ad : Nat → Nat) (cs : Nat → ClassId) (w n : Nat) (K V O LF : Nat → Int32) (th fed spl held rd gone cur nk nv gc gu gl gm : Int32) : va_W := [(ad 0, .inr (1, [.int th, .int (nI w), .int (nI n), .int fed, .int spl, .int held, .int rd, .int gone, .int cur, .int nk, .int nv, .int gc, .int gu, .int gl, .int gm, .ref (ad 1), .ref (ad 2), .ref (ad 3), .ref (ad 4)])), (ad 1, .inl (cs 1, 2064, .inl K)), (ad 2, .inl (cs 2, 2064, .inl V)), (ad 3, .inl (cs 3, 2064, .inl O)), (ad 4, .inl (cs 4, 2064, .inl LF))]
abbrev mt (cs : Nat → ClassId) : List (ClassId × FieldType) := [(cs 1, .int), (cs 2, .int), (cs 3, .int), (cs 4, .boolean)]
def xW (w r f : Nat) : Prop := r * w ≤ f ∧ f ≤ r * w + w
theorem xW_nx {w r f : Nat} (h : xW w r f) (hw : 0 < w) : xW w (rnx w r f) (f + 1) := by
  obtain ⟨h1, h2⟩ := h
  unfold rnx
  by_cases q : f < r * w + w
  · rw [if_pos q]
    exact ⟨by omega, by omega⟩
  · rw [if_neg q]
    have e : (r + 1) * w = r * w + w := Nat.succ_mul r w
    exact ⟨by omega, by omega⟩
theorem xW_fm {w r f : Nat} (h : xW w r f) (hw : 0 < w) : ∀ j, xW w (fm_r w r f j) (f + j)
  | 0 => h
  | j + 1 => xW_nx (xW_fm h hw j) hw
/-- insertion with a hole at t -/
theorem px_sh_stepH {o : Nat → Nat} {OC : Nat → Int32} {t row : Nat} (ht : 0 < t) (htr : t ≤ row) (h : ∀ a, a ≤ row → a ≠ t → OC a = nI (px_sh o t row a)) : ∀ a, a ≤ row → a ≠ t - 1 → upd OC t (nI (o (t - 1))) a = nI (px_sh o (t - 1) row a) := by
  intro a h2 h3
  by_cases e : a = t
  · subst e
    rw [upd_eq]
    unfold px_sh
    rw [if_pos (by omega)]
  · rw [upd_ne e, h a h2 e]
    unfold px_sh
    by_cases q : t < a ∧ a ≤ row
    · rw [if_pos q, if_pos (by omega)]
    · rw [if_neg q, if_neg (by omega)]
theorem px_sh_endH {o : Nat → Nat} {OC : Nat → Int32} {t row : Nat} (h : ∀ a, a ≤ row → a ≠ t → OC a = nI (px_sh o t row a)) : ∀ a, a ≤ row → upd OC t (nI (o row)) a = nI (px_ins o t row a) := by
  intro a h2
  by_cases e : a = t
  · subst e
    rw [upd_eq, px_ins_eq]
  · rw [upd_ne e, h a h2 e]
    unfold px_sh px_ins
    rw [if_neg e]
abbrev rM_thrown : Room := { frames := 0, cells := 0, slots := 0, locals := 0 }
set_option maxHeartbeats 4000000 in
set_option maxRecDepth 100000 in
theorem m_thrown (l : Launch) (D : va_G) (bd : Nat → Nat) (cr : Nat → ClassId) (w n : Nat) (K V O LF : Nat → Int32) (th fed spl held rd gone cur nk nv gc gu gl gm : Int32)   : ZR l yX1_thrown cX1_thrown 1 rM_thrown D classes (mt cr) [.ref (bd 0)] (mw bd cr w n K V O LF th fed spl held rd gone cur nk nv gc gu gl gm) (fun r => r = th) := by
  refine ZR.of (by decide +kernel) (Nat.le_of_ble_eq_true rfl) ?_
  intro p e s m args below meth c Q ls C0 hK hP hD hl hret
  have hx := C0.1
  have hb := C0.2.1
  have hl : lv_has ls 1 [(0, .ref (bd 0))] := hl
  refine lv_aload_n hx hb dX1_thrown_0 rfl (lv_at hl 0 rfl) ?_
  refine z_get C0 zt_x1 hK hP 0 rfl rfl 0 (by decide) fl_X1_30 rfl dX1_thrown_1 ?_
  exact hret _ _ _ (rfl) dX1_thrown_4
abbrev rM_reset : Room := { frames := 0, cells := 0, slots := 0, locals := 0 }
set_option maxHeartbeats 4000000 in
set_option maxRecDepth 100000 in
theorem m_reset (l : Launch) (D : va_G) (bd : Nat → Nat) (cr : Nat → ClassId) (w n : Nat) (K V O LF : Nat → Int32) (th fed spl held rd gone cur nk nv gc gu gl gm : Int32)   : ZV (S := Unit) l yX1_reset cX1_reset 1 rM_reset D classes (mt cr) [.ref (bd 0)] (mw bd cr w n K V O LF th fed spl held rd gone cur nk nv gc gu gl gm) (fun _ => True) (fun _ => (mw bd cr w n K V O LF 0 0 0 0 0 0 0 nk nv gc gu gl gm)) := by
  refine ZV.of (by decide +kernel) (Nat.le_of_ble_eq_true rfl) ?_
  intro p e s m args below meth c A Q ls C0 hname hK hP hD hS hA hl hret
  have hx := C0.1
  have hb := C0.2.1
  have hl : lv_has ls 1 [(0, .ref (bd 0))] := hl
  refine lv_aload_n hx hb dX1_reset_0 rfl (lv_at hl 0 rfl) ?_
  refine lv_iconst (v := 0) hx hb dX1_reset_1 (by decide) ?_
  refine z_put (ty := .int) C0 zt_x1 tyX1 tyX1_ok nmX1 hK hP hD hS 0 rfl rfl 0 (by decide) fl_X1_30 rfl (by decide +kernel) rfl rfl (Nat.le_of_ble_eq_true rfl) dX1_reset_2 (fun H locs hP hD hS => ?_)
  have hP : va_P D classes (mw bd cr w n K V O LF 0 fed spl held rd gone cur nk nv gc gu gl gm) H := hP
  have hD : va_D A (mw bd cr w n K V O LF 0 fed spl held rd gone cur nk nv gc gu gl gm) := hD
  refine lv_aload_n hx hb dX1_reset_5 rfl (lv_at hl 0 rfl) ?_
  refine lv_iconst (v := 0) hx hb dX1_reset_6 (by decide) ?_
  refine z_put (ty := .int) C0 zt_x1 tyX1 tyX1_ok nmX1 hK hP hD hS 0 rfl rfl 3 (by decide) fl_X1_33 rfl (by decide +kernel) rfl rfl (Nat.le_of_ble_eq_true rfl) dX1_reset_7 (fun H locs hP hD hS => ?_)
  have hP : va_P D classes (mw bd cr w n K V O LF 0 0 spl held rd gone cur nk nv gc gu gl gm) H := hP
  have hD : va_D A (mw bd cr w n K V O LF 0 0 spl held rd gone cur nk nv gc gu gl gm) := hD
  refine lv_aload_n hx hb dX1_reset_10 rfl (lv_at hl 0 rfl) ?_
  refine lv_iconst (v := 0) hx hb dX1_reset_11 (by decide) ?_
  refine z_put (ty := .int) C0 zt_x1 tyX1 tyX1_ok nmX1 hK hP hD hS 0 rfl rfl 4 (by decide) fl_X1_36 rfl (by decide +kernel) rfl rfl (Nat.le_of_ble_eq_true rfl) dX1_reset_12 (fun H locs hP hD hS => ?_)
  have hP : va_P D classes (mw bd cr w n K V O LF 0 0 0 held rd gone cur nk nv gc gu gl gm) H := hP
  have hD : va_D A (mw bd cr w n K V O LF 0 0 0 held rd gone cur nk nv gc gu gl gm) := hD
  refine lv_aload_n hx hb dX1_reset_15 rfl (lv_at hl 0 rfl) ?_
  refine lv_iconst (v := 0) hx hb dX1_reset_16 (by decide) ?_
  refine z_put (ty := .int) C0 zt_x1 tyX1 tyX1_ok nmX1 hK hP hD hS 0 rfl rfl 5 (by decide) fl_X1_39 rfl (by decide +kernel) rfl rfl (Nat.le_of_ble_eq_true rfl) dX1_reset_17 (fun H locs hP hD hS => ?_)
  have hP : va_P D classes (mw bd cr w n K V O LF 0 0 0 0 rd gone cur nk nv gc gu gl gm) H := hP
  have hD : va_D A (mw bd cr w n K V O LF 0 0 0 0 rd gone cur nk nv gc gu gl gm) := hD
  refine lv_aload_n hx hb dX1_reset_20 rfl (lv_at hl 0 rfl) ?_
  refine lv_iconst (v := 0) hx hb dX1_reset_21 (by decide) ?_
  refine z_put (ty := .boolean) C0 zt_x1 tyX1 tyX1_ok nmX1 hK hP hD hS 0 rfl rfl 6 (by decide) fl_X1_42 rfl (by decide +kernel) rfl rfl (Nat.le_of_ble_eq_true rfl) dX1_reset_22 (fun H locs hP hD hS => ?_)
  have hP : va_P D classes (mw bd cr w n K V O LF 0 0 0 0 0 gone cur nk nv gc gu gl gm) H := hP
  have hD : va_D A (mw bd cr w n K V O LF 0 0 0 0 0 gone cur nk nv gc gu gl gm) := hD
  refine lv_aload_n hx hb dX1_reset_25 rfl (lv_at hl 0 rfl) ?_
  refine lv_iconst (v := 0) hx hb dX1_reset_26 (by decide) ?_
  refine z_put (ty := .int) C0 zt_x1 tyX1 tyX1_ok nmX1 hK hP hD hS 0 rfl rfl 7 (by decide) fl_X1_46 rfl (by decide +kernel) rfl rfl (Nat.le_of_ble_eq_true rfl) dX1_reset_27 (fun H locs hP hD hS => ?_)
  have hP : va_P D classes (mw bd cr w n K V O LF 0 0 0 0 0 0 cur nk nv gc gu gl gm) H := hP
  have hD : va_D A (mw bd cr w n K V O LF 0 0 0 0 0 0 cur nk nv gc gu gl gm) := hD
  refine lv_aload_n hx hb dX1_reset_30 rfl (lv_at hl 0 rfl) ?_
  refine lv_iconst (v := 0) hx hb dX1_reset_31 (by decide) ?_
  refine z_put (ty := .int) C0 zt_x1 tyX1 tyX1_ok nmX1 hK hP hD hS 0 rfl rfl 8 (by decide) fl_X1_49 rfl (by decide +kernel) rfl rfl (Nat.le_of_ble_eq_true rfl) dX1_reset_32 (fun H locs hP hD hS => ?_)
  have hP : va_P D classes (mw bd cr w n K V O LF 0 0 0 0 0 0 0 nk nv gc gu gl gm) H := hP
  have hD : va_D A (mw bd cr w n K V O LF 0 0 0 0 0 0 0 nk nv gc gu gl gm) := hD
  exact hret (()) _ _ _ _ hP hD hS (trivial) dX1_reset_35
abbrev rM_take : Room := { frames := 0, cells := 0, slots := 0, locals := 0 }
set_option maxHeartbeats 4000000 in
set_option maxRecDepth 100000 in
theorem m_take (l : Launch) (D : va_G) (bd : Nat → Nat) (cr : Nat → ClassId) (w n : Nat) (K V O LF : Nat → Int32) (th rd gone cur nk nv gc gu gl gm : Int32) (key val : Int32) (r f : Nat) (hf : f < 2064) (hw1 : w < 2 ^ 29) (hW : xW w r f) : ZV (S := Nat) l yX1_take cX1_take 3 rM_take D classes (mt cr) [.ref (bd 0), .int key, .int val] (mw bd cr w n K V O LF th (nI f) (nI r) (nI (f - r * w)) rd gone cur nk nv gc gu gl gm) (fun r1 => r1 = rnx w r f) (fun r1 => (mw bd cr w n (upd K f key) (upd V f val) O LF th (nI (f + 1)) (nI r1) (nI (f + 1 - r1 * w)) rd gone cur nk nv gc gu gl gm)) := by
  refine ZV.of (by decide +kernel) (Nat.le_of_ble_eq_true rfl) ?_
  intro p e s m args below meth c A Q ls C0 hname hK hP hD hS hA hl hret
  have hx := C0.1
  have hb := C0.2.1
  have hl : lv_has ls 3 [(0, .ref (bd 0)), (1, .int key), (2, .int val)] := hl
  obtain ⟨hw8, hw9⟩ := hW
  refine lv_aload_n hx hb dX1_take_0 rfl (lv_at hl 0 rfl) ?_
  refine z_get C0 zt_x1 hK hP 0 rfl rfl 5 (by decide) fl_X1_39 rfl dX1_take_1 ?_
  refine lv_aload_n hx hb dX1_take_4 rfl (lv_at hl 0 rfl) ?_
  refine z_get C0 zt_x1 hK hP 0 rfl rfl 1 (by decide) fl_X1_23 rfl dX1_take_5 ?_
  refine lv_icmp_ne (tgt := 26) hx hb dX1_take_8 (by decide) (fun c1 => ?_) (fun c1 => ?_)
  · have c1 := zne c1
    have hrn : rnx w r f = r := by unfold rnx; rw [if_pos (by omega)]
    refine lv_aload_n hx hb dX1_take_26 rfl (lv_at hl 0 rfl) ?_
    refine z_get C0 zt_x1 hK hP 0 rfl rfl 15 (by decide) fl_X1_7 rfl dX1_take_27 ?_
    refine lv_aload_n hx hb dX1_take_30 rfl (lv_at hl 0 rfl) ?_
    refine z_get C0 zt_x1 hK hP 0 rfl rfl 3 (by decide) fl_X1_33 rfl dX1_take_31 ?_
    refine lv_iload_n hx hb dX1_take_34 rfl (lv_at hl 1 rfl) ?_
    refine z_ist C0 hK hP hD hS 1 0 rfl rfl (j := f) (hf) (by decide) dX1_take_35 (fun H locs hP hD hS => ?_)
    have hP : va_P D classes (mw bd cr w n (upd K f key) V O LF th (nI f) (nI r) (nI (f - r * w)) rd gone cur nk nv gc gu gl gm) H := hP
    have hD : va_D A (mw bd cr w n (upd K f key) V O LF th (nI f) (nI r) (nI (f - r * w)) rd gone cur nk nv gc gu gl gm) := hD
    refine lv_aload_n hx hb dX1_take_36 rfl (lv_at hl 0 rfl) ?_
    refine z_get C0 zt_x1 hK hP 0 rfl rfl 16 (by decide) fl_X1_13 rfl dX1_take_37 ?_
    refine lv_aload_n hx hb dX1_take_40 rfl (lv_at hl 0 rfl) ?_
    refine z_get C0 zt_x1 hK hP 0 rfl rfl 3 (by decide) fl_X1_33 rfl dX1_take_41 ?_
    refine lv_iload_n hx hb dX1_take_44 rfl (lv_at hl 2 rfl) ?_
    refine z_ist C0 hK hP hD hS 2 1 rfl rfl (j := f) (hf) (by decide) dX1_take_45 (fun H locs hP hD hS => ?_)
    have hP : va_P D classes (mw bd cr w n (upd K f key) (upd V f val) O LF th (nI f) (nI r) (nI (f - r * w)) rd gone cur nk nv gc gu gl gm) H := hP
    have hD : va_D A (mw bd cr w n (upd K f key) (upd V f val) O LF th (nI f) (nI r) (nI (f - r * w)) rd gone cur nk nv gc gu gl gm) := hD
    refine lv_aload_n hx hb dX1_take_46 rfl (lv_at hl 0 rfl) ?_
    refine lv_dup hx hb dX1_take_47 rfl ?_
    refine z_get C0 zt_x1 hK hP 0 rfl rfl 3 (by decide) fl_X1_33 rfl dX1_take_48 ?_
    refine lv_iconst (v := 1) hx hb dX1_take_51 (by decide) ?_
    refine lv_iadd hx hb dX1_take_52 ?_
    refine z_eq (show ((nI f) + 1) = nI (f + 1) from nI_1 f) ?_
    refine z_put (ty := .int) C0 zt_x1 tyX1 tyX1_ok nmX1 hK hP hD hS 0 rfl rfl 3 (by decide) fl_X1_33 rfl (by decide +kernel) rfl rfl (Nat.le_of_ble_eq_true rfl) dX1_take_53 (fun H locs hP hD hS => ?_)
    have hP : va_P D classes (mw bd cr w n (upd K f key) (upd V f val) O LF th (nI (f + 1)) (nI r) (nI (f - r * w)) rd gone cur nk nv gc gu gl gm) H := hP
    have hD : va_D A (mw bd cr w n (upd K f key) (upd V f val) O LF th (nI (f + 1)) (nI r) (nI (f - r * w)) rd gone cur nk nv gc gu gl gm) := hD
    refine lv_aload_n hx hb dX1_take_56 rfl (lv_at hl 0 rfl) ?_
    refine lv_dup hx hb dX1_take_57 rfl ?_
    refine z_get C0 zt_x1 hK hP 0 rfl rfl 5 (by decide) fl_X1_39 rfl dX1_take_58 ?_
    refine lv_iconst (v := 1) hx hb dX1_take_61 (by decide) ?_
    refine lv_iadd hx hb dX1_take_62 ?_
    refine z_eq (show ((nI (f - r * w)) + 1) = nI (f + 1 - r * w) from by rw [nI_1, show f - r * w + 1 = f + 1 - r * w by omega]) ?_
    refine z_put (ty := .int) C0 zt_x1 tyX1 tyX1_ok nmX1 hK hP hD hS 0 rfl rfl 5 (by decide) fl_X1_39 rfl (by decide +kernel) rfl rfl (Nat.le_of_ble_eq_true rfl) dX1_take_63 (fun H locs hP hD hS => ?_)
    have hP : va_P D classes (mw bd cr w n (upd K f key) (upd V f val) O LF th (nI (f + 1)) (nI r) (nI (f + 1 - r * w)) rd gone cur nk nv gc gu gl gm) H := hP
    have hD : va_D A (mw bd cr w n (upd K f key) (upd V f val) O LF th (nI (f + 1)) (nI r) (nI (f + 1 - r * w)) rd gone cur nk nv gc gu gl gm) := hD
    exact hret (r) _ _ _ _ hP hD hS (hrn.symm) dX1_take_66
  · have c1 := zeq c1 (by omega) (by omega)
    have hrn : rnx w r f = r + 1 := by unfold rnx; rw [if_neg (by omega)]
    refine lv_aload_n hx hb dX1_take_11 rfl (lv_at hl 0 rfl) ?_
    refine lv_dup hx hb dX1_take_12 rfl ?_
    refine z_get C0 zt_x1 hK hP 0 rfl rfl 4 (by decide) fl_X1_36 rfl dX1_take_13 ?_
    refine lv_iconst (v := 1) hx hb dX1_take_16 (by decide) ?_
    refine lv_iadd hx hb dX1_take_17 ?_
    refine z_eq (show ((nI r) + 1) = nI (r + 1) from nI_1 r) ?_
    refine z_put (ty := .int) C0 zt_x1 tyX1 tyX1_ok nmX1 hK hP hD hS 0 rfl rfl 4 (by decide) fl_X1_36 rfl (by decide +kernel) rfl rfl (Nat.le_of_ble_eq_true rfl) dX1_take_18 (fun H locs hP hD hS => ?_)
    have hP : va_P D classes (mw bd cr w n K V O LF th (nI f) (nI (r + 1)) (nI (f - r * w)) rd gone cur nk nv gc gu gl gm) H := hP
    have hD : va_D A (mw bd cr w n K V O LF th (nI f) (nI (r + 1)) (nI (f - r * w)) rd gone cur nk nv gc gu gl gm) := hD
    refine lv_aload_n hx hb dX1_take_21 rfl (lv_at hl 0 rfl) ?_
    refine lv_iconst (v := 0) hx hb dX1_take_22 (by decide) ?_
    refine z_put (ty := .int) C0 zt_x1 tyX1 tyX1_ok nmX1 hK hP hD hS 0 rfl rfl 5 (by decide) fl_X1_39 rfl (by decide +kernel) rfl rfl (Nat.le_of_ble_eq_true rfl) dX1_take_23 (fun H locs hP hD hS => ?_)
    have hP : va_P D classes (mw bd cr w n K V O LF th (nI f) (nI (r + 1)) 0 rd gone cur nk nv gc gu gl gm) H := hP
    have hD : va_D A (mw bd cr w n K V O LF th (nI f) (nI (r + 1)) 0 rd gone cur nk nv gc gu gl gm) := hD
    refine lv_aload_n hx hb dX1_take_26 rfl (lv_at hl 0 rfl) ?_
    refine z_get C0 zt_x1 hK hP 0 rfl rfl 15 (by decide) fl_X1_7 rfl dX1_take_27 ?_
    refine lv_aload_n hx hb dX1_take_30 rfl (lv_at hl 0 rfl) ?_
    refine z_get C0 zt_x1 hK hP 0 rfl rfl 3 (by decide) fl_X1_33 rfl dX1_take_31 ?_
    refine lv_iload_n hx hb dX1_take_34 rfl (lv_at hl 1 rfl) ?_
    refine z_ist C0 hK hP hD hS 1 0 rfl rfl (j := f) (hf) (by decide) dX1_take_35 (fun H locs hP hD hS => ?_)
    have hP : va_P D classes (mw bd cr w n (upd K f key) V O LF th (nI f) (nI (r + 1)) 0 rd gone cur nk nv gc gu gl gm) H := hP
    have hD : va_D A (mw bd cr w n (upd K f key) V O LF th (nI f) (nI (r + 1)) 0 rd gone cur nk nv gc gu gl gm) := hD
    refine lv_aload_n hx hb dX1_take_36 rfl (lv_at hl 0 rfl) ?_
    refine z_get C0 zt_x1 hK hP 0 rfl rfl 16 (by decide) fl_X1_13 rfl dX1_take_37 ?_
    refine lv_aload_n hx hb dX1_take_40 rfl (lv_at hl 0 rfl) ?_
    refine z_get C0 zt_x1 hK hP 0 rfl rfl 3 (by decide) fl_X1_33 rfl dX1_take_41 ?_
    refine lv_iload_n hx hb dX1_take_44 rfl (lv_at hl 2 rfl) ?_
    refine z_ist C0 hK hP hD hS 2 1 rfl rfl (j := f) (hf) (by decide) dX1_take_45 (fun H locs hP hD hS => ?_)
    have hP : va_P D classes (mw bd cr w n (upd K f key) (upd V f val) O LF th (nI f) (nI (r + 1)) 0 rd gone cur nk nv gc gu gl gm) H := hP
    have hD : va_D A (mw bd cr w n (upd K f key) (upd V f val) O LF th (nI f) (nI (r + 1)) 0 rd gone cur nk nv gc gu gl gm) := hD
    refine lv_aload_n hx hb dX1_take_46 rfl (lv_at hl 0 rfl) ?_
    refine lv_dup hx hb dX1_take_47 rfl ?_
    refine z_get C0 zt_x1 hK hP 0 rfl rfl 3 (by decide) fl_X1_33 rfl dX1_take_48 ?_
    refine lv_iconst (v := 1) hx hb dX1_take_51 (by decide) ?_
    refine lv_iadd hx hb dX1_take_52 ?_
    refine z_eq (show ((nI f) + 1) = nI (f + 1) from nI_1 f) ?_
    refine z_put (ty := .int) C0 zt_x1 tyX1 tyX1_ok nmX1 hK hP hD hS 0 rfl rfl 3 (by decide) fl_X1_33 rfl (by decide +kernel) rfl rfl (Nat.le_of_ble_eq_true rfl) dX1_take_53 (fun H locs hP hD hS => ?_)
    have hP : va_P D classes (mw bd cr w n (upd K f key) (upd V f val) O LF th (nI (f + 1)) (nI (r + 1)) 0 rd gone cur nk nv gc gu gl gm) H := hP
    have hD : va_D A (mw bd cr w n (upd K f key) (upd V f val) O LF th (nI (f + 1)) (nI (r + 1)) 0 rd gone cur nk nv gc gu gl gm) := hD
    refine lv_aload_n hx hb dX1_take_56 rfl (lv_at hl 0 rfl) ?_
    refine lv_dup hx hb dX1_take_57 rfl ?_
    refine z_get C0 zt_x1 hK hP 0 rfl rfl 5 (by decide) fl_X1_39 rfl dX1_take_58 ?_
    refine lv_iconst (v := 1) hx hb dX1_take_61 (by decide) ?_
    refine lv_iadd hx hb dX1_take_62 ?_
    refine z_eq (show (0 + 1) = nI (f + 1 - (r + 1) * w) from by rw [show f + 1 - (r + 1) * w = 1 by rw [Nat.succ_mul]; omega]; rfl) ?_
    refine z_put (ty := .int) C0 zt_x1 tyX1 tyX1_ok nmX1 hK hP hD hS 0 rfl rfl 5 (by decide) fl_X1_39 rfl (by decide +kernel) rfl rfl (Nat.le_of_ble_eq_true rfl) dX1_take_63 (fun H locs hP hD hS => ?_)
    have hP : va_P D classes (mw bd cr w n (upd K f key) (upd V f val) O LF th (nI (f + 1)) (nI (r + 1)) (nI (f + 1 - (r + 1) * w)) rd gone cur nk nv gc gu gl gm) H := hP
    have hD : va_D A (mw bd cr w n (upd K f key) (upd V f val) O LF th (nI (f + 1)) (nI (r + 1)) (nI (f + 1 - (r + 1) * w)) rd gone cur nk nv gc gu gl gm) := hD
    exact hret (r + 1) _ _ _ _ hP hD hS (hrn.symm) dX1_take_66
abbrev rM_feed : Room := { frames := 1, cells := 0, slots := 0, locals := 22 }
set_option maxHeartbeats 4000000 in
set_option maxRecDepth 100000 in
theorem m_feed (l : Launch) (D : va_G) (bd : Nat → Nat) (cr : Nat → ClassId) (w n : Nat) (K V O LF : Nat → Int32) (th gone cur nk nv gc gu gl gm : Int32) (key val : Int32) (r f : Nat) (hf : f < n) (hn : n ≤ 2064) (hw1 : w < 2 ^ 29) (hW : xW w r f) : ZI (S := Nat) l yX1_feed cX1_feed 3 rM_feed D classes (mt cr) [.ref (bd 0), .int key, .int val] (mw bd cr w n K V O LF th (nI f) (nI r) (nI (f - r * w)) 0 gone cur nk nv gc gu gl gm) (fun v r1 => v = 0 ∧ r1 = rnx w r f) (fun r1 => (mw bd cr w n (upd K f key) (upd V f val) O LF 0 (nI (f + 1)) (nI r1) (nI (f + 1 - r1 * w)) 0 gone cur nk nv gc gu gl gm)) := by
  refine ZI.of (by decide +kernel) (Nat.le_of_ble_eq_true rfl) ?_
  intro p e s m args below meth c A Q ls C0 hK hP hD hS hA hl hret
  have hx := C0.1
  have hb := C0.2.1
  have hl : lv_has ls 3 [(0, .ref (bd 0)), (1, .int key), (2, .int val)] := hl
  refine lv_aload_n hx hb dX1_feed_0 rfl (lv_at hl 0 rfl) ?_
  refine lv_iconst (v := 0) hx hb dX1_feed_1 (by decide) ?_
  refine z_put (ty := .int) C0 zt_x1 tyX1 tyX1_ok nmX1 hK hP hD hS 0 rfl rfl 0 (by decide) fl_X1_30 rfl (by decide +kernel) rfl rfl (Nat.le_of_ble_eq_true rfl) dX1_feed_2 (fun H locs hP hD hS => ?_)
  have hP : va_P D classes (mw bd cr w n K V O LF 0 (nI f) (nI r) (nI (f - r * w)) 0 gone cur nk nv gc gu gl gm) H := hP
  have hD : va_D A (mw bd cr w n K V O LF 0 (nI f) (nI r) (nI (f - r * w)) 0 gone cur nk nv gc gu gl gm) := hD
  refine lv_aload_n hx hb dX1_feed_5 rfl (lv_at hl 0 rfl) ?_
  refine z_get C0 zt_x1 hK hP 0 rfl rfl 6 (by decide) fl_X1_42 rfl dX1_feed_6 ?_
  refine lv_if_eq (tgt := 15) hx hb dX1_feed_9 (by decide) (fun hz => ?_) (fun hz => False.elim (hz rfl))
  refine lv_aload_n hx hb dX1_feed_15 rfl (lv_at hl 0 rfl) ?_
  refine z_get C0 zt_x1 hK hP 0 rfl rfl 3 (by decide) fl_X1_33 rfl dX1_feed_16 ?_
  refine lv_aload_n hx hb dX1_feed_19 rfl (lv_at hl 0 rfl) ?_
  refine z_get C0 zt_x1 hK hP 0 rfl rfl 2 (by decide) fl_X1_27 rfl dX1_feed_20 ?_
  refine lv_icmp_ne (tgt := 29) hx hb dX1_feed_23 (by decide) (fun hz => ?_) (fun hz => False.elim ((by have := zeq hz (by omega) (by omega); omega)))
  refine lv_aload_n hx hb dX1_feed_29 rfl (lv_at hl 0 rfl) ?_
  refine lv_iload_n hx hb dX1_feed_30 rfl (lv_at hl 1 rfl) ?_
  refine lv_iload_n hx hb dX1_feed_31 rfl (lv_at hl 2 rfl) ?_
  refine zv_callV0 (As := [.int key, .int val]) (rest := []) (q0 := 0) (ci := 1) C0 (m_take l D bd cr w n K V O LF 0 0 gone cur nk nv gc gu gl gm key val r f (by omega) hw1 hW) zv_X1_X1_take ⟨by decide, by decide⟩ ⟨rfl, rfl⟩ rfl hK hP hD hS hA rfl rfl rfl hl.1 rfl (Nat.le_of_ble_eq_true rfl) dX1_feed_32 ⟨Nat.zero_le _, Nat.zero_le _⟩ (fun r1 H locs hj hP hD hS => ?_)
  have hP : va_P D classes (mw bd cr w n (upd K f key) (upd V f val) O LF 0 (nI (f + 1)) (nI r1) (nI (f + 1 - r1 * w)) 0 gone cur nk nv gc gu gl gm) H := hP
  have hD : va_D A (mw bd cr w n (upd K f key) (upd V f val) O LF 0 (nI (f + 1)) (nI r1) (nI (f + 1 - r1 * w)) 0 gone cur nk nv gc gu gl gm) := hD
  refine lv_iconst (v := 0) hx hb dX1_feed_35 (by decide) ?_
  exact hret _ (r1) _ _ _ _ hP hD hS (⟨rfl, hj⟩) dX1_feed_36
set_option maxHeartbeats 4000000 in
set_option maxRecDepth 100000 in
theorem m_feed_s (l : Launch) (D : va_G) (bd : Nat → Nat) (cr : Nat → ClassId) (w n : Nat) (K V O LF : Nat → Int32) (th fed spl held gone cur nk nv gc gu gl gm : Int32) (key val : Int32)  : ZI (S := Unit) l yX1_feed cX1_feed 3 rM_feed D classes (mt cr) [.ref (bd 0), .int key, .int val] (mw bd cr w n K V O LF th fed spl held 1 gone cur nk nv gc gu gl gm) (fun v _ => v = -3) (fun _ => (mw bd cr w n K V O LF 0 fed spl held 1 gone cur nk nv gc gu gl gm)) := by
  refine ZI.of (by decide +kernel) (Nat.le_of_ble_eq_true rfl) ?_
  intro p e s m args below meth c A Q ls C0 hK hP hD hS hA hl hret
  have hx := C0.1
  have hb := C0.2.1
  have hl : lv_has ls 3 [(0, .ref (bd 0)), (1, .int key), (2, .int val)] := hl
  refine lv_aload_n hx hb dX1_feed_0 rfl (lv_at hl 0 rfl) ?_
  refine lv_iconst (v := 0) hx hb dX1_feed_1 (by decide) ?_
  refine z_put (ty := .int) C0 zt_x1 tyX1 tyX1_ok nmX1 hK hP hD hS 0 rfl rfl 0 (by decide) fl_X1_30 rfl (by decide +kernel) rfl rfl (Nat.le_of_ble_eq_true rfl) dX1_feed_2 (fun H locs hP hD hS => ?_)
  have hP : va_P D classes (mw bd cr w n K V O LF 0 fed spl held 1 gone cur nk nv gc gu gl gm) H := hP
  have hD : va_D A (mw bd cr w n K V O LF 0 fed spl held 1 gone cur nk nv gc gu gl gm) := hD
  refine lv_aload_n hx hb dX1_feed_5 rfl (lv_at hl 0 rfl) ?_
  refine z_get C0 zt_x1 hK hP 0 rfl rfl 6 (by decide) fl_X1_42 rfl dX1_feed_6 ?_
  refine lv_if_eq (tgt := 15) hx hb dX1_feed_9 (by decide) (fun hz => False.elim (absurd hz (by decide))) (fun hz => ?_)
  refine lv_bipush (v := -3) hx hb dX1_feed_12 (by decide) ?_
  exact hret _ (()) _ _ _ _ hP hD hS (rfl) dX1_feed_14
set_option maxHeartbeats 4000000 in
set_option maxRecDepth 100000 in
theorem m_feed_f (l : Launch) (D : va_G) (bd : Nat → Nat) (cr : Nat → ClassId) (w n : Nat) (K V O LF : Nat → Int32) (th spl held gone cur nk nv gc gu gl gm : Int32) (key val : Int32)  : ZI (S := Unit) l yX1_feed cX1_feed 3 rM_feed D classes (mt cr) [.ref (bd 0), .int key, .int val] (mw bd cr w n K V O LF th (nI n) spl held 0 gone cur nk nv gc gu gl gm) (fun v _ => v = -2) (fun _ => (mw bd cr w n K V O LF 0 (nI n) spl held 0 gone cur nk nv gc gu gl gm)) := by
  refine ZI.of (by decide +kernel) (Nat.le_of_ble_eq_true rfl) ?_
  intro p e s m args below meth c A Q ls C0 hK hP hD hS hA hl hret
  have hx := C0.1
  have hb := C0.2.1
  have hl : lv_has ls 3 [(0, .ref (bd 0)), (1, .int key), (2, .int val)] := hl
  refine lv_aload_n hx hb dX1_feed_0 rfl (lv_at hl 0 rfl) ?_
  refine lv_iconst (v := 0) hx hb dX1_feed_1 (by decide) ?_
  refine z_put (ty := .int) C0 zt_x1 tyX1 tyX1_ok nmX1 hK hP hD hS 0 rfl rfl 0 (by decide) fl_X1_30 rfl (by decide +kernel) rfl rfl (Nat.le_of_ble_eq_true rfl) dX1_feed_2 (fun H locs hP hD hS => ?_)
  have hP : va_P D classes (mw bd cr w n K V O LF 0 (nI n) spl held 0 gone cur nk nv gc gu gl gm) H := hP
  have hD : va_D A (mw bd cr w n K V O LF 0 (nI n) spl held 0 gone cur nk nv gc gu gl gm) := hD
  refine lv_aload_n hx hb dX1_feed_5 rfl (lv_at hl 0 rfl) ?_
  refine z_get C0 zt_x1 hK hP 0 rfl rfl 6 (by decide) fl_X1_42 rfl dX1_feed_6 ?_
  refine lv_if_eq (tgt := 15) hx hb dX1_feed_9 (by decide) (fun hz => ?_) (fun hz => False.elim (hz rfl))
  refine lv_aload_n hx hb dX1_feed_15 rfl (lv_at hl 0 rfl) ?_
  refine z_get C0 zt_x1 hK hP 0 rfl rfl 3 (by decide) fl_X1_33 rfl dX1_feed_16 ?_
  refine lv_aload_n hx hb dX1_feed_19 rfl (lv_at hl 0 rfl) ?_
  refine z_get C0 zt_x1 hK hP 0 rfl rfl 2 (by decide) fl_X1_27 rfl dX1_feed_20 ?_
  refine lv_icmp_ne (tgt := 29) hx hb dX1_feed_23 (by decide) (fun hz => False.elim (hz rfl)) (fun hz => ?_)
  refine lv_bipush (v := -2) hx hb dX1_feed_26 (by decide) ?_
  exact hret _ (()) _ _ _ _ hP hD hS (rfl) dX1_feed_28
abbrev rM_feedMany : Room := { frames := 1, cells := 0, slots := 0, locals := 22 }
set_option maxHeartbeats 4000000 in
set_option maxRecDepth 100000 in
theorem m_feedMany (l : Launch) (D : va_G) (bd : Nat → Nat) (cr : Nat → ClassId) (w n : Nat) (K V O LF : Nat → Int32) (th gone cur nk nv gc gu gl gm : Int32) (key step val : Int32) (q r f : Nat) (hq : q ≤ 200) (hf : f ≤ n) (hn : n ≤ 2064) (hw0 : 0 < w) (hw1 : w < 2 ^ 29) (hW : xW w r f) : ZI (S := Nat) l yX1_feedMany cX1_feedMany 6 rM_feedMany D classes (mt cr) [.ref (bd 0), .int key, .int step, .int val, .int (nI q)] (mw bd cr w n K V O LF th (nI f) (nI r) (nI (f - r * w)) 0 gone cur nk nv gc gu gl gm) (fun v r1 => v = nI (min q (n - f)) ∧ r1 = fm_r w r f (min q (n - f))) (fun r1 => (mw bd cr w n (fm_K K f key step (min q (n - f))) (fm_V V f val (min q (n - f))) O LF 0 (nI (f + min q (n - f))) (nI r1) (nI (f + min q (n - f) - r1 * w)) 0 gone cur nk nv gc gu gl gm)) := by
  refine ZI.of (by decide +kernel) (Nat.le_of_ble_eq_true rfl) ?_
  intro p e s m args below meth c A Q ls C0 hK hP hD hS hA hl hret
  have hx := C0.1
  have hb := C0.2.1
  have hl : lv_has ls 6 [(0, .ref (bd 0)), (1, .int key), (2, .int step), (3, .int val), (4, .int (nI q))] := hl
  refine lv_aload_n hx hb dX1_feedMany_0 rfl (lv_at hl 0 rfl) ?_
  refine lv_iload hx hb dX1_feedMany_1 (lv_at hl 4 rfl) ?_
  refine lv_if_lt (tgt := 14) hx hb dX1_feedMany_3 (by decide) (fun hz => False.elim (nI_pos (by omega) hz)) (fun hz => ?_)
  refine lv_iload hx hb dX1_feedMany_6 (lv_at hl 4 rfl) ?_
  refine lv_sipush (v := 200) hx hb dX1_feedMany_8 (by decide) ?_
  refine lv_icmp_le (tgt := 18) hx hb dX1_feedMany_11 (by decide) (fun hz => ?_) (fun hz => False.elim (hz (nI_le (b := 200) hq (by decide))))
  refine lv_iconst (v := 0) hx hb dX1_feedMany_18 (by decide) ?_
  refine z_put (ty := .int) C0 zt_x1 tyX1 tyX1_ok nmX1 hK hP hD hS 0 rfl rfl 0 (by decide) fl_X1_30 rfl (by decide +kernel) rfl rfl (Nat.le_of_ble_eq_true rfl) dX1_feedMany_19 (fun H locs hP hD hS => ?_)
  have hP : va_P D classes (mw bd cr w n K V O LF 0 (nI f) (nI r) (nI (f - r * w)) 0 gone cur nk nv gc gu gl gm) H := hP
  have hD : va_D A (mw bd cr w n K V O LF 0 (nI f) (nI r) (nI (f - r * w)) 0 gone cur nk nv gc gu gl gm) := hD
  refine lv_aload_n hx hb dX1_feedMany_22 rfl (lv_at hl 0 rfl) ?_
  refine z_get C0 zt_x1 hK hP 0 rfl rfl 0 (by decide) fl_X1_30 rfl dX1_feedMany_23 ?_
  refine lv_if_le (tgt := 31) hx hb dX1_feedMany_26 (by decide) (fun hz => ?_) (fun hz => False.elim (hz (by decide)))
  refine lv_aload_n hx hb dX1_feedMany_31 rfl (lv_at hl 0 rfl) ?_
  refine z_get C0 zt_x1 hK hP 0 rfl rfl 6 (by decide) fl_X1_42 rfl dX1_feedMany_32 ?_
  refine lv_if_eq (tgt := 41) hx hb dX1_feedMany_35 (by decide) (fun hz => ?_) (fun hz => False.elim (hz rfl))
  refine lv_iconst (v := 0) hx hb dX1_feedMany_41 (by decide) ?_
  refine lv_istore (lv' := [(5, .int 0), (0, .ref (bd 0)), (1, .int key), (2, .int step), (3, .int val), (4, .int (nI q))]) hx hb dX1_feedMany_42 hl (by decide) rfl (fun ls hl => ?_)
  have loop : ∀ (NN : Nat) (j r1 : Nat) (H : Heap) (locs : List Loc) (ls : Array Slot), (j ≤ min q (n - f) ∧ r1 = fm_r w r f j) → min q (n - f) - j < NN → va_P D classes (mw bd cr w n (fm_K K f key step j) (fm_V V f val j) O LF 0 (nI (f + j)) (nI r1) (nI (f + j - r1 * w)) 0 gone cur nk nv gc gu gl gm) H → va_D A (mw bd cr w n (fm_K K f key step j) (fm_V V f val j) O LF 0 (nI (f + j)) (nI r1) (nI (f + j - r1 * w)) 0 gone cur nk nv gc gu gl gm) → va_S A s.heap H locs → lv_has ls 6 [(5, .int (nI j)), (0, .ref (bd 0)), (1, .int key), (2, .int step), (3, .int val), (4, .int (nI q))] → W p l e rM_feedMany s m args below meth c H locs 0 0 Q (F0 m 44 ls []) := by
    intro N44
    induction N44 with
    | zero => intro j r1 H locs ls hI hN; exact absurd hN (Nat.not_lt_zero _)
    | succ N44 ih44 =>
      intro j r1 H locs ls hI hN44 hP hD hS hl
      obtain ⟨i1, i2⟩ := hI
      have hWj : xW w r1 (f + j) := by rw [i2]; exact xW_fm hW hw0 j
      refine lv_iload hx hb dX1_feedMany_44 (lv_at hl 0 rfl) ?_
      refine lv_iload hx hb dX1_feedMany_46 (lv_at hl 5 rfl) ?_
      refine lv_icmp_ge (tgt := 82) hx hb dX1_feedMany_48 (by decide) (fun c1 => ?_) (fun c1 => ?_)
      · have c1 := zle c1 (by omega) (by omega)
        have ej : j = min q (n - f) := by omega
        refine lv_iload hx hb dX1_feedMany_82 (lv_at hl 0 rfl) ?_
        rw [ej] at hP hD i2 ⊢
        exact hret _ (r1) _ _ _ _ hP hD hS (⟨rfl, i2⟩) dX1_feedMany_84
      · have c1 := znle c1 (by omega) (by omega)
        refine lv_aload_n hx hb dX1_feedMany_51 rfl (lv_at hl 1 rfl) ?_
        refine z_get C0 zt_x1 hK hP 0 rfl rfl 3 (by decide) fl_X1_33 rfl dX1_feedMany_52 ?_
        refine lv_aload_n hx hb dX1_feedMany_55 rfl (lv_at hl 1 rfl) ?_
        refine z_get C0 zt_x1 hK hP 0 rfl rfl 2 (by decide) fl_X1_27 rfl dX1_feedMany_56 ?_
        refine lv_icmp_ge (tgt := 82) hx hb dX1_feedMany_59 (by decide) (fun c2 => ?_) (fun c2 => ?_)
        · have c2 := zle c2 (by omega) (by omega)
          have ej : j = min q (n - f) := by omega
          refine lv_iload hx hb dX1_feedMany_82 (lv_at hl 0 rfl) ?_
          rw [ej] at hP hD i2 ⊢
          exact hret _ (r1) _ _ _ _ hP hD hS (⟨rfl, i2⟩) dX1_feedMany_84
        · have c2 := znle c2 (by omega) (by omega)
          refine lv_aload_n hx hb dX1_feedMany_62 rfl (lv_at hl 1 rfl) ?_
          refine lv_iload_n hx hb dX1_feedMany_63 rfl (lv_at hl 2 rfl) ?_
          refine lv_iload hx hb dX1_feedMany_64 (lv_at hl 0 rfl) ?_
          refine lv_iload_n hx hb dX1_feedMany_66 rfl (lv_at hl 3 rfl) ?_
          refine lv_imul hx hb dX1_feedMany_67 ?_
          refine lv_iadd hx hb dX1_feedMany_68 ?_
          refine lv_iload_n hx hb dX1_feedMany_69 rfl (lv_at hl 4 rfl) ?_
          refine lv_iload hx hb dX1_feedMany_70 (lv_at hl 0 rfl) ?_
          refine lv_iadd hx hb dX1_feedMany_72 ?_
          refine zv_callV0 (As := [.int (key + ((nI j) * step)), .int (val + (nI j))]) (rest := []) (q0 := 0) (ci := 1) C0 (m_take l D bd cr w n (fm_K K f key step j) (fm_V V f val j) O LF 0 0 gone cur nk nv gc gu gl gm (key + nI j * step) (val + nI j) r1 (f + j) (by omega) hw1 hWj) zv_X1_X1_take ⟨by decide, by decide⟩ ⟨rfl, rfl⟩ rfl hK hP hD hS hA rfl rfl rfl hl.1 rfl (Nat.le_of_ble_eq_true rfl) dX1_feedMany_73 ⟨Nat.zero_le _, Nat.zero_le _⟩ (fun r2 H locs hj hP hD hS => ?_)
          have hP : va_P D classes (mw bd cr w n (fm_K K f key step (j + 1)) (fm_V V f val (j + 1)) O LF 0 (nI (f + (j + 1))) (nI r2) (nI (f + (j + 1) - r2 * w)) 0 gone cur nk nv gc gu gl gm) H := hP
          have hD : va_D A (mw bd cr w n (fm_K K f key step (j + 1)) (fm_V V f val (j + 1)) O LF 0 (nI (f + (j + 1))) (nI r2) (nI (f + (j + 1) - r2 * w)) 0 gone cur nk nv gc gu gl gm) := hD
          refine lv_iinc (v := nI (j + 1)) (lv' := [(5, .int (nI (j + 1))), (0, .ref (bd 0)), (1, .int key), (2, .int step), (3, .int val), (4, .int (nI q))]) hx hb dX1_feedMany_76 hl (k := 0) rfl (show (nI j) + Int32.ofInt (1) = nI (j + 1) from (congrArg ((nI j) + ·) (by decide : Int32.ofInt (1) = 1)).trans (nI_1 j)) (by decide) rfl (fun ls hl => ?_)
          refine lv_goto (tgt := 44) hx hb dX1_feedMany_79 (by decide) ?_
          exact ih44 (j + 1) r2 _ _ _ (⟨by omega, by rw [hj, i2]; rfl⟩) (by omega) hP hD hS (lv_sub hl [0, 1, 2, 3, 4, 5] rfl)
  exact loop _ 0 r _ _ _ (⟨Nat.zero_le _, rfl⟩) (Nat.lt_succ_self _) hP hD hS (lv_sub hl [0, 1, 2, 3, 4, 5] (rfl))
set_option maxHeartbeats 4000000 in
set_option maxRecDepth 100000 in
theorem m_feedMany_s (l : Launch) (D : va_G) (bd : Nat → Nat) (cr : Nat → ClassId) (w n : Nat) (K V O LF : Nat → Int32) (th fed spl held gone cur nk nv gc gu gl gm : Int32) (key step val : Int32) (q : Nat) (hq : q ≤ 200) : ZI (S := Unit) l yX1_feedMany cX1_feedMany 6 rM_feedMany D classes (mt cr) [.ref (bd 0), .int key, .int step, .int val, .int (nI q)] (mw bd cr w n K V O LF th fed spl held 1 gone cur nk nv gc gu gl gm) (fun v _ => v = -3) (fun _ => (mw bd cr w n K V O LF 0 fed spl held 1 gone cur nk nv gc gu gl gm)) := by
  refine ZI.of (by decide +kernel) (Nat.le_of_ble_eq_true rfl) ?_
  intro p e s m args below meth c A Q ls C0 hK hP hD hS hA hl hret
  have hx := C0.1
  have hb := C0.2.1
  have hl : lv_has ls 6 [(0, .ref (bd 0)), (1, .int key), (2, .int step), (3, .int val), (4, .int (nI q))] := hl
  refine lv_aload_n hx hb dX1_feedMany_0 rfl (lv_at hl 0 rfl) ?_
  refine lv_iload hx hb dX1_feedMany_1 (lv_at hl 4 rfl) ?_
  refine lv_if_lt (tgt := 14) hx hb dX1_feedMany_3 (by decide) (fun hz => False.elim (nI_pos (by omega) hz)) (fun hz => ?_)
  refine lv_iload hx hb dX1_feedMany_6 (lv_at hl 4 rfl) ?_
  refine lv_sipush (v := 200) hx hb dX1_feedMany_8 (by decide) ?_
  refine lv_icmp_le (tgt := 18) hx hb dX1_feedMany_11 (by decide) (fun hz => ?_) (fun hz => False.elim (hz (nI_le (b := 200) hq (by decide))))
  refine lv_iconst (v := 0) hx hb dX1_feedMany_18 (by decide) ?_
  refine z_put (ty := .int) C0 zt_x1 tyX1 tyX1_ok nmX1 hK hP hD hS 0 rfl rfl 0 (by decide) fl_X1_30 rfl (by decide +kernel) rfl rfl (Nat.le_of_ble_eq_true rfl) dX1_feedMany_19 (fun H locs hP hD hS => ?_)
  have hP : va_P D classes (mw bd cr w n K V O LF 0 fed spl held 1 gone cur nk nv gc gu gl gm) H := hP
  have hD : va_D A (mw bd cr w n K V O LF 0 fed spl held 1 gone cur nk nv gc gu gl gm) := hD
  refine lv_aload_n hx hb dX1_feedMany_22 rfl (lv_at hl 0 rfl) ?_
  refine z_get C0 zt_x1 hK hP 0 rfl rfl 0 (by decide) fl_X1_30 rfl dX1_feedMany_23 ?_
  refine lv_if_le (tgt := 31) hx hb dX1_feedMany_26 (by decide) (fun hz => ?_) (fun hz => False.elim (hz (by decide)))
  refine lv_aload_n hx hb dX1_feedMany_31 rfl (lv_at hl 0 rfl) ?_
  refine z_get C0 zt_x1 hK hP 0 rfl rfl 6 (by decide) fl_X1_42 rfl dX1_feedMany_32 ?_
  refine lv_if_eq (tgt := 41) hx hb dX1_feedMany_35 (by decide) (fun hz => False.elim (absurd hz (by decide))) (fun hz => ?_)
  refine lv_bipush (v := -3) hx hb dX1_feedMany_38 (by decide) ?_
  exact hret _ (()) _ _ _ _ hP hD hS (rfl) dX1_feedMany_40
set_option maxHeartbeats 4000000 in
set_option maxRecDepth 100000 in
theorem m_feedMany_x (l : Launch) (D : va_G) (bd : Nat → Nat) (cr : Nat → ClassId) (w n : Nat) (K V O LF : Nat → Int32) (th fed spl held rd gone cur nk nv gc gu gl gm : Int32) (key step val q : Int32) (hbad : q < 0 ∨ ¬ q ≤ 200) : ZI (S := Unit) l yX1_feedMany cX1_feedMany 6 rM_feedMany D classes (mt cr) [.ref (bd 0), .int key, .int step, .int val, .int q] (mw bd cr w n K V O LF th fed spl held rd gone cur nk nv gc gu gl gm) (fun v _ => v = 0) (fun _ => (mw bd cr w n K V O LF 1 fed spl held rd gone cur nk nv gc gu gl gm)) := by
  refine ZI.of (by decide +kernel) (Nat.le_of_ble_eq_true rfl) ?_
  intro p e s m args below meth c A Q ls C0 hK hP hD hS hA hl hret
  have hx := C0.1
  have hb := C0.2.1
  have hl : lv_has ls 6 [(0, .ref (bd 0)), (1, .int key), (2, .int step), (3, .int val), (4, .int q)] := hl
  refine lv_aload_n hx hb dX1_feedMany_0 rfl (lv_at hl 0 rfl) ?_
  refine lv_iload hx hb dX1_feedMany_1 (lv_at hl 4 rfl) ?_
  refine lv_if_lt (tgt := 14) hx hb dX1_feedMany_3 (by decide) (fun c1 => ?_) (fun c1 => ?_)
  · refine lv_iconst (v := 1) hx hb dX1_feedMany_14 (by decide) ?_
    refine lv_goto (tgt := 19) hx hb dX1_feedMany_15 (by decide) ?_
    refine z_put (ty := .int) C0 zt_x1 tyX1 tyX1_ok nmX1 hK hP hD hS 0 rfl rfl 0 (by decide) fl_X1_30 rfl (by decide +kernel) rfl rfl (Nat.le_of_ble_eq_true rfl) dX1_feedMany_19 (fun H locs hP hD hS => ?_)
    have hP : va_P D classes (mw bd cr w n K V O LF 1 fed spl held rd gone cur nk nv gc gu gl gm) H := hP
    have hD : va_D A (mw bd cr w n K V O LF 1 fed spl held rd gone cur nk nv gc gu gl gm) := hD
    refine lv_aload_n hx hb dX1_feedMany_22 rfl (lv_at hl 0 rfl) ?_
    refine z_get C0 zt_x1 hK hP 0 rfl rfl 0 (by decide) fl_X1_30 rfl dX1_feedMany_23 ?_
    refine lv_if_le (tgt := 31) hx hb dX1_feedMany_26 (by decide) (fun hz => False.elim (absurd hz (by decide))) (fun hz => ?_)
    refine lv_iconst (v := 0) hx hb dX1_feedMany_29 (by decide) ?_
    exact hret _ (()) _ _ _ _ hP hD hS (rfl) dX1_feedMany_30
  · refine lv_iload hx hb dX1_feedMany_6 (lv_at hl 4 rfl) ?_
    refine lv_sipush (v := 200) hx hb dX1_feedMany_8 (by decide) ?_
    refine lv_icmp_le (tgt := 18) hx hb dX1_feedMany_11 (by decide) (fun c2 => ?_) (fun c2 => ?_)
    · exact absurd c2 (hbad.resolve_left c1)
    · refine lv_iconst (v := 1) hx hb dX1_feedMany_14 (by decide) ?_
      refine lv_goto (tgt := 19) hx hb dX1_feedMany_15 (by decide) ?_
      refine z_put (ty := .int) C0 zt_x1 tyX1 tyX1_ok nmX1 hK hP hD hS 0 rfl rfl 0 (by decide) fl_X1_30 rfl (by decide +kernel) rfl rfl (Nat.le_of_ble_eq_true rfl) dX1_feedMany_19 (fun H locs hP hD hS => ?_)
      have hP : va_P D classes (mw bd cr w n K V O LF 1 fed spl held rd gone cur nk nv gc gu gl gm) H := hP
      have hD : va_D A (mw bd cr w n K V O LF 1 fed spl held rd gone cur nk nv gc gu gl gm) := hD
      refine lv_aload_n hx hb dX1_feedMany_22 rfl (lv_at hl 0 rfl) ?_
      refine z_get C0 zt_x1 hK hP 0 rfl rfl 0 (by decide) fl_X1_30 rfl dX1_feedMany_23 ?_
      refine lv_if_le (tgt := 31) hx hb dX1_feedMany_26 (by decide) (fun hz => False.elim (absurd hz (by decide))) (fun hz => ?_)
      refine lv_iconst (v := 0) hx hb dX1_feedMany_29 (by decide) ?_
      exact hret _ (()) _ _ _ _ hP hD hS (rfl) dX1_feedMany_30
abbrev rM_seal : Room := { frames := 0, cells := 0, slots := 0, locals := 0 }
set_option maxHeartbeats 4000000 in
set_option maxRecDepth 100000 in
theorem m_seal (l : Launch) (D : va_G) (bd : Nat → Nat) (cr : Nat → ClassId) (w n : Nat) (K V O LF : Nat → Int32) (th spl held gone cur nk nv gc gu gl gm : Int32) (f : Nat) (hf : f ≤ 2064) : ZI (S := (Nat → Int32)) l yX1_seal cX1_seal 3 rM_seal D classes (mt cr) [.ref (bd 0)] (mw bd cr w n K V O LF th (nI f) spl held 0 gone cur nk nv gc gu gl gm) (fun v O1 => v = 0 ∧ ∃ o, xF K O1 f o) (fun O1 => (mw bd cr w n K V O1 LF 0 (nI f) spl held 1 0 0 nk nv gc gu gl gm)) := by
  refine ZI.of (by decide +kernel) (Nat.le_of_ble_eq_true rfl) ?_
  intro p e s m args below meth c A Q ls C0 hK hP hD hS hA hl hret
  have hx := C0.1
  have hb := C0.2.1
  have hl : lv_has ls 3 [(0, .ref (bd 0))] := hl
  refine lv_aload_n hx hb dX1_seal_0 rfl (lv_at hl 0 rfl) ?_
  refine lv_iconst (v := 0) hx hb dX1_seal_1 (by decide) ?_
  refine z_put (ty := .int) C0 zt_x1 tyX1 tyX1_ok nmX1 hK hP hD hS 0 rfl rfl 0 (by decide) fl_X1_30 rfl (by decide +kernel) rfl rfl (Nat.le_of_ble_eq_true rfl) dX1_seal_2 (fun H locs hP hD hS => ?_)
  have hP : va_P D classes (mw bd cr w n K V O LF 0 (nI f) spl held 0 gone cur nk nv gc gu gl gm) H := hP
  have hD : va_D A (mw bd cr w n K V O LF 0 (nI f) spl held 0 gone cur nk nv gc gu gl gm) := hD
  refine lv_aload_n hx hb dX1_seal_5 rfl (lv_at hl 0 rfl) ?_
  refine z_get C0 zt_x1 hK hP 0 rfl rfl 6 (by decide) fl_X1_42 rfl dX1_seal_6 ?_
  refine lv_if_eq (tgt := 15) hx hb dX1_seal_9 (by decide) (fun hz => ?_) (fun hz => False.elim (hz rfl))
  refine lv_aload_n hx hb dX1_seal_15 rfl (lv_at hl 0 rfl) ?_
  refine lv_iconst (v := 1) hx hb dX1_seal_16 (by decide) ?_
  refine z_put (ty := .boolean) C0 zt_x1 tyX1 tyX1_ok nmX1 hK hP hD hS 0 rfl rfl 6 (by decide) fl_X1_42 rfl (by decide +kernel) rfl rfl (Nat.le_of_ble_eq_true rfl) dX1_seal_17 (fun H locs hP hD hS => ?_)
  have hP : va_P D classes (mw bd cr w n K V O LF 0 (nI f) spl held 1 gone cur nk nv gc gu gl gm) H := hP
  have hD : va_D A (mw bd cr w n K V O LF 0 (nI f) spl held 1 gone cur nk nv gc gu gl gm) := hD
  refine lv_aload_n hx hb dX1_seal_20 rfl (lv_at hl 0 rfl) ?_
  refine lv_iconst (v := 0) hx hb dX1_seal_21 (by decide) ?_
  refine z_put (ty := .int) C0 zt_x1 tyX1 tyX1_ok nmX1 hK hP hD hS 0 rfl rfl 7 (by decide) fl_X1_46 rfl (by decide +kernel) rfl rfl (Nat.le_of_ble_eq_true rfl) dX1_seal_22 (fun H locs hP hD hS => ?_)
  have hP : va_P D classes (mw bd cr w n K V O LF 0 (nI f) spl held 1 0 cur nk nv gc gu gl gm) H := hP
  have hD : va_D A (mw bd cr w n K V O LF 0 (nI f) spl held 1 0 cur nk nv gc gu gl gm) := hD
  refine lv_aload_n hx hb dX1_seal_25 rfl (lv_at hl 0 rfl) ?_
  refine lv_iconst (v := 0) hx hb dX1_seal_26 (by decide) ?_
  refine z_put (ty := .int) C0 zt_x1 tyX1 tyX1_ok nmX1 hK hP hD hS 0 rfl rfl 8 (by decide) fl_X1_49 rfl (by decide +kernel) rfl rfl (Nat.le_of_ble_eq_true rfl) dX1_seal_27 (fun H locs hP hD hS => ?_)
  have hP : va_P D classes (mw bd cr w n K V O LF 0 (nI f) spl held 1 0 0 nk nv gc gu gl gm) H := hP
  have hD : va_D A (mw bd cr w n K V O LF 0 (nI f) spl held 1 0 0 nk nv gc gu gl gm) := hD
  refine lv_iconst (v := 0) hx hb dX1_seal_30 (by decide) ?_
  refine lv_istore_n (lv' := [(1, .int 0), (0, .ref (bd 0))]) hx hb dX1_seal_31 rfl hl (by decide) rfl (fun ls hl => ?_)
  have loop : ∀ (NN : Nat) (kk : Nat) (O1 : Nat → Int32) (o : Nat → Nat) (H : Heap) (locs : List Loc) (ls : Array Slot), (kk ≤ f ∧ (∀ a, a < kk → O1 a = nI (o a)) ∧ px_srt (kz K) o 0 kk ∧ px_prm o 0 kk ∧ ∀ a, kk ≤ a → o a = a) → f - kk < NN → va_P D classes (mw bd cr w n K V O1 LF 0 (nI f) spl held 1 0 0 nk nv gc gu gl gm) H → va_D A (mw bd cr w n K V O1 LF 0 (nI f) spl held 1 0 0 nk nv gc gu gl gm) → va_S A s.heap H locs → lv_has ls 3 [(1, .int (nI kk)), (0, .ref (bd 0))] → W p l e rM_seal s m args below meth c H locs 0 0 Q (F0 m 32 ls []) := by
    intro N32
    induction N32 with
    | zero => intro kk O1 o H locs ls hI hN; exact absurd hN (Nat.not_lt_zero _)
    | succ N32 ih32 =>
      intro kk O1 o H locs ls hI hN32 hP hD hS hl
      obtain ⟨i1, i2, i3, i4, i5⟩ := hI
      refine lv_iload_n hx hb dX1_seal_32 rfl (lv_at hl 0 rfl) ?_
      refine lv_aload_n hx hb dX1_seal_33 rfl (lv_at hl 1 rfl) ?_
      refine z_get C0 zt_x1 hK hP 0 rfl rfl 3 (by decide) fl_X1_33 rfl dX1_seal_34 ?_
      refine lv_icmp_ge (tgt := 101) hx hb dX1_seal_37 (by decide) (fun c1 => ?_) (fun c1 => ?_)
      · have c1 := zle c1 (by omega) (by omega)
        have ek : kk = f := by omega
        rw [ek] at i2 i3 i4
        refine lv_iconst (v := 0) hx hb dX1_seal_101 (by decide) ?_
        exact hret _ (O1) _ _ _ _ hP hD hS (⟨rfl, o, i2, i3, i4⟩) dX1_seal_102
      · have c1 := znle c1 (by omega) (by omega)
        refine lv_iload_n hx hb dX1_seal_40 rfl (lv_at hl 0 rfl) ?_
        refine lv_istore_n (lv' := [(2, .int (nI kk)), (1, .int (nI kk)), (0, .ref (bd 0))]) hx hb dX1_seal_41 rfl hl (by decide) rfl (fun ls hl => ?_)
        have loop : ∀ (NN : Nat) (t : Nat) (O2 : Nat → Int32) (H : Heap) (locs : List Loc) (ls : Array Slot), (t ≤ kk ∧ (∀ a, a ≤ kk → a ≠ t → O2 a = nI (px_sh o t kk a)) ∧ ∀ a, t ≤ a → a < kk → kz K kk < kz K (o a)) → t < NN → va_P D classes (mw bd cr w n K V O2 LF 0 (nI f) spl held 1 0 0 nk nv gc gu gl gm) H → va_D A (mw bd cr w n K V O2 LF 0 (nI f) spl held 1 0 0 nk nv gc gu gl gm) → va_S A s.heap H locs → lv_has ls 3 [(2, .int (nI t)), (1, .int (nI kk)), (0, .ref (bd 0))] → W p l e rM_seal s m args below meth c H locs 0 0 Q (F0 m 42 ls []) := by
          intro N42
          induction N42 with
          | zero => intro t O2 H locs ls hI hN; exact absurd hN (Nat.not_lt_zero _)
          | succ N42 ih42 =>
            intro t O2 H locs ls hI hN42 hP hD hS hl
            obtain ⟨j2, j3, j4⟩ := hI
            refine lv_iload_n hx hb dX1_seal_42 rfl (lv_at hl 0 rfl) ?_
            refine lv_if_le (tgt := 88) hx hb dX1_seal_43 (by decide) (fun c2 => ?_) (fun c2 => ?_)
            · have c2 : t = 0 := by
                have := zle (b := 0) c2 (by omega) (by omega)
                omega
              have hend : t = 0 ∨ kz K (o (t - 1)) ≤ kz K kk := Or.inl c2
              refine lv_aload_n hx hb dX1_seal_88 rfl (lv_at hl 2 rfl) ?_
              refine z_get C0 zt_x1 hK hP 0 rfl rfl 17 (by decide) fl_X1_16 rfl dX1_seal_89 ?_
              refine lv_iload_n hx hb dX1_seal_92 rfl (lv_at hl 0 rfl) ?_
              refine lv_iload_n hx hb dX1_seal_93 rfl (lv_at hl 1 rfl) ?_
              refine z_ist C0 hK hP hD hS 3 2 rfl rfl (j := t) (by omega) (by decide) dX1_seal_94 (fun H locs hP hD hS => ?_)
              have hP : va_P D classes (mw bd cr w n K V (upd O2 t (nI kk)) LF 0 (nI f) spl held 1 0 0 nk nv gc gu gl gm) H := hP
              have hD : va_D A (mw bd cr w n K V (upd O2 t (nI kk)) LF 0 (nI f) spl held 1 0 0 nk nv gc gu gl gm) := hD
              refine lv_iinc (v := nI (kk + 1)) (lv' := [(1, .int (nI (kk + 1))), (2, .int (nI t)), (0, .ref (bd 0))]) hx hb dX1_seal_95 hl (k := 1) rfl (show (nI kk) + Int32.ofInt (1) = nI (kk + 1) from (congrArg ((nI kk) + ·) (by decide : Int32.ofInt (1) = 1)).trans (nI_1 kk)) (by decide) rfl (fun ls hl => ?_)
              refine lv_goto (tgt := 32) hx hb dX1_seal_98 (by decide) ?_
              exact ih32 (kk + 1) (upd O2 t (nI kk)) (px_ins o t kk) _ _ _ (⟨by omega, fun a h => by have z := px_sh_endH j3 a (by omega); rw [i5 kk (Nat.le_refl _)] at z; exact z, px_ins_srt (Nat.zero_le _) j2 i3 (by rw [Nat.sub_zero]; exact i4) (i5 kk (Nat.le_refl _)) (fun a h1 h2 => by rw [i5 kk (Nat.le_refl _)]; exact j4 a h1 h2) (by rw [i5 kk (Nat.le_refl _)]; exact hend), px_ins_prm (Nat.zero_le _) j2 (by rw [Nat.sub_zero]; exact i4) (i5 kk (Nat.le_refl _)), fun a h => by rw [px_ins_hi j2 (by omega)]; exact i5 a (by omega)⟩) (by omega) hP hD hS (lv_sub hl [0, 2] rfl)
            · have c2 : 0 < t := znle (b := 0) c2 (by omega) (by omega)
              have hot : O2 (t - 1) = nI (o (t - 1)) := by rw [j3 (t - 1) (by omega) (by omega), px_sh_lo (by omega)]
              have hon : o (t - 1) < kk := by have := (i4.rng (a := t - 1) (Nat.zero_le _) (by omega)).2; omega
              refine lv_aload_n hx hb dX1_seal_46 rfl (lv_at hl 2 rfl) ?_
              refine z_get C0 zt_x1 hK hP 0 rfl rfl 15 (by decide) fl_X1_7 rfl dX1_seal_47 ?_
              refine lv_aload_n hx hb dX1_seal_50 rfl (lv_at hl 2 rfl) ?_
              refine z_get C0 zt_x1 hK hP 0 rfl rfl 17 (by decide) fl_X1_16 rfl dX1_seal_51 ?_
              refine lv_iload_n hx hb dX1_seal_54 rfl (lv_at hl 0 rfl) ?_
              refine lv_iconst (v := 1) hx hb dX1_seal_55 (by decide) ?_
              refine lv_isub hx hb dX1_seal_56 ?_
              refine z_eq (show ((nI t) - 1) = nI (t - 1) from pk_sub (b := 1) (by omega)) ?_
              refine z_ild C0 hK hP 3 2 rfl rfl (j := (t - 1)) (by omega) (by decide) dX1_seal_57 ?_
              refine z_eq (show (O2 (t - 1)) = nI (o (t - 1)) from hot) ?_
              refine z_ild C0 hK hP 1 0 rfl rfl (j := (o (t - 1))) (by omega) (by decide) dX1_seal_58 ?_
              refine lv_aload_n hx hb dX1_seal_59 rfl (lv_at hl 2 rfl) ?_
              refine z_get C0 zt_x1 hK hP 0 rfl rfl 15 (by decide) fl_X1_7 rfl dX1_seal_60 ?_
              refine lv_iload_n hx hb dX1_seal_63 rfl (lv_at hl 1 rfl) ?_
              refine z_ild C0 hK hP 1 0 rfl rfl (j := kk) (by omega) (by decide) dX1_seal_64 ?_
              refine lv_icmp_le (tgt := 88) hx hb dX1_seal_65 (by decide) (fun c3 => ?_) (fun c3 => ?_)
              · have hend : t = 0 ∨ kz K (o (t - 1)) ≤ kz K kk := Or.inr (kz_le c3)
                refine lv_aload_n hx hb dX1_seal_88 rfl (lv_at hl 2 rfl) ?_
                refine z_get C0 zt_x1 hK hP 0 rfl rfl 17 (by decide) fl_X1_16 rfl dX1_seal_89 ?_
                refine lv_iload_n hx hb dX1_seal_92 rfl (lv_at hl 0 rfl) ?_
                refine lv_iload_n hx hb dX1_seal_93 rfl (lv_at hl 1 rfl) ?_
                refine z_ist C0 hK hP hD hS 3 2 rfl rfl (j := t) (by omega) (by decide) dX1_seal_94 (fun H locs hP hD hS => ?_)
                have hP : va_P D classes (mw bd cr w n K V (upd O2 t (nI kk)) LF 0 (nI f) spl held 1 0 0 nk nv gc gu gl gm) H := hP
                have hD : va_D A (mw bd cr w n K V (upd O2 t (nI kk)) LF 0 (nI f) spl held 1 0 0 nk nv gc gu gl gm) := hD
                refine lv_iinc (v := nI (kk + 1)) (lv' := [(1, .int (nI (kk + 1))), (2, .int (nI t)), (0, .ref (bd 0))]) hx hb dX1_seal_95 hl (k := 1) rfl (show (nI kk) + Int32.ofInt (1) = nI (kk + 1) from (congrArg ((nI kk) + ·) (by decide : Int32.ofInt (1) = 1)).trans (nI_1 kk)) (by decide) rfl (fun ls hl => ?_)
                refine lv_goto (tgt := 32) hx hb dX1_seal_98 (by decide) ?_
                exact ih32 (kk + 1) (upd O2 t (nI kk)) (px_ins o t kk) _ _ _ (⟨by omega, fun a h => by have z := px_sh_endH j3 a (by omega); rw [i5 kk (Nat.le_refl _)] at z; exact z, px_ins_srt (Nat.zero_le _) j2 i3 (by rw [Nat.sub_zero]; exact i4) (i5 kk (Nat.le_refl _)) (fun a h1 h2 => by rw [i5 kk (Nat.le_refl _)]; exact j4 a h1 h2) (by rw [i5 kk (Nat.le_refl _)]; exact hend), px_ins_prm (Nat.zero_le _) j2 (by rw [Nat.sub_zero]; exact i4) (i5 kk (Nat.le_refl _)), fun a h => by rw [px_ins_hi j2 (by omega)]; exact i5 a (by omega)⟩) (by omega) hP hD hS (lv_sub hl [0, 2] rfl)
              · refine lv_aload_n hx hb dX1_seal_68 rfl (lv_at hl 2 rfl) ?_
                refine z_get C0 zt_x1 hK hP 0 rfl rfl 17 (by decide) fl_X1_16 rfl dX1_seal_69 ?_
                refine lv_iload_n hx hb dX1_seal_72 rfl (lv_at hl 0 rfl) ?_
                refine lv_aload_n hx hb dX1_seal_73 rfl (lv_at hl 2 rfl) ?_
                refine z_get C0 zt_x1 hK hP 0 rfl rfl 17 (by decide) fl_X1_16 rfl dX1_seal_74 ?_
                refine lv_iload_n hx hb dX1_seal_77 rfl (lv_at hl 0 rfl) ?_
                refine lv_iconst (v := 1) hx hb dX1_seal_78 (by decide) ?_
                refine lv_isub hx hb dX1_seal_79 ?_
                refine z_eq (show ((nI t) - 1) = nI (t - 1) from pk_sub (b := 1) (by omega)) ?_
                refine z_ild C0 hK hP 3 2 rfl rfl (j := (t - 1)) (by omega) (by decide) dX1_seal_80 ?_
                refine z_eq (show (O2 (t - 1)) = nI (o (t - 1)) from hot) ?_
                refine z_ist C0 hK hP hD hS 3 2 rfl rfl (j := t) (by omega) (by decide) dX1_seal_81 (fun H locs hP hD hS => ?_)
                have hP : va_P D classes (mw bd cr w n K V (upd O2 t (nI (o (t - 1)))) LF 0 (nI f) spl held 1 0 0 nk nv gc gu gl gm) H := hP
                have hD : va_D A (mw bd cr w n K V (upd O2 t (nI (o (t - 1)))) LF 0 (nI f) spl held 1 0 0 nk nv gc gu gl gm) := hD
                refine lv_iinc (v := nI (t - 1)) (lv' := [(2, .int (nI (t - 1))), (1, .int (nI kk)), (0, .ref (bd 0))]) hx hb dX1_seal_82 hl (k := 0) rfl (show (nI t) + Int32.ofInt (-1) = nI (t - 1) from (congrArg ((nI t) + ·) (by decide : Int32.ofInt (-1) = -1)).trans (sb_m1 (by omega))) (by decide) rfl (fun ls hl => ?_)
                refine lv_goto (tgt := 42) hx hb dX1_seal_85 (by decide) ?_
                exact ih42 (t - 1) (upd O2 t (nI (o (t - 1)))) _ _ _ (⟨by omega, px_sh_stepH c2 j2 j3, fun a h1 h2 => by rcases Nat.lt_or_ge a t with q | q; (rw [show a = t - 1 by omega]; exact kz_nle c3); (exact j4 a q h2)⟩) (by omega) hP hD hS (lv_sub hl [0, 1, 2] rfl)
        exact loop _ kk O1 _ _ _ (⟨Nat.le_refl _, fun a h1 h2 => by rw [px_sh_0]; exact i2 a (by omega), fun a h1 h2 => by omega⟩) (Nat.lt_succ_self _) hP hD hS (lv_sub hl [0, 1, 2] (rfl))
  exact loop _ 0 O (fun a => a) _ _ _ (⟨Nat.zero_le _, fun a h => absurd h (Nat.not_lt_zero a), fun a b _ _ h => absurd h (Nat.not_lt_zero b), fun P => rfl, fun a _ => rfl⟩) (Nat.lt_succ_self _) hP hD hS (lv_sub hl [0, 1] (rfl))
set_option maxHeartbeats 4000000 in
set_option maxRecDepth 100000 in
theorem m_seal_s (l : Launch) (D : va_G) (bd : Nat → Nat) (cr : Nat → ClassId) (w n : Nat) (K V O LF : Nat → Int32) (th fed spl held gone cur nk nv gc gu gl gm : Int32)   : ZI (S := Unit) l yX1_seal cX1_seal 3 rM_seal D classes (mt cr) [.ref (bd 0)] (mw bd cr w n K V O LF th fed spl held 1 gone cur nk nv gc gu gl gm) (fun v _ => v = -3) (fun _ => (mw bd cr w n K V O LF 0 fed spl held 1 gone cur nk nv gc gu gl gm)) := by
  refine ZI.of (by decide +kernel) (Nat.le_of_ble_eq_true rfl) ?_
  intro p e s m args below meth c A Q ls C0 hK hP hD hS hA hl hret
  have hx := C0.1
  have hb := C0.2.1
  have hl : lv_has ls 3 [(0, .ref (bd 0))] := hl
  refine lv_aload_n hx hb dX1_seal_0 rfl (lv_at hl 0 rfl) ?_
  refine lv_iconst (v := 0) hx hb dX1_seal_1 (by decide) ?_
  refine z_put (ty := .int) C0 zt_x1 tyX1 tyX1_ok nmX1 hK hP hD hS 0 rfl rfl 0 (by decide) fl_X1_30 rfl (by decide +kernel) rfl rfl (Nat.le_of_ble_eq_true rfl) dX1_seal_2 (fun H locs hP hD hS => ?_)
  have hP : va_P D classes (mw bd cr w n K V O LF 0 fed spl held 1 gone cur nk nv gc gu gl gm) H := hP
  have hD : va_D A (mw bd cr w n K V O LF 0 fed spl held 1 gone cur nk nv gc gu gl gm) := hD
  refine lv_aload_n hx hb dX1_seal_5 rfl (lv_at hl 0 rfl) ?_
  refine z_get C0 zt_x1 hK hP 0 rfl rfl 6 (by decide) fl_X1_42 rfl dX1_seal_6 ?_
  refine lv_if_eq (tgt := 15) hx hb dX1_seal_9 (by decide) (fun hz => False.elim (absurd hz (by decide))) (fun hz => ?_)
  refine lv_bipush (v := -3) hx hb dX1_seal_12 (by decide) ?_
  exact hret _ (()) _ _ _ _ hP hD hS (rfl) dX1_seal_14
