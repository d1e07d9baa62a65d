theorem rw_open_0 {w rn c : Nat} {o : Nat → Nat} : rw_open w rn o c 0 = 0 := by
  unfold rw_open
  exact px_cnt_0 rn (fun k _ => rfl)
theorem gs_nx {V : Nat → Int32} {o : Nat → Nat} {c0 mm : Nat} {gc gu gl gm : Int32} (h0 : mm = 0 → gc = 0 ∧ gu = 0) (h1 : 0 < mm → (gc, gu, gl, gm) = gs_F V o c0 mm) : (gc + 1, gu + V (o (c0 + mm)), (if gc = 0 then V (o (c0 + mm)) else if V (o (c0 + mm)) < gl then V (o (c0 + mm)) else gl), (if gc = 0 then V (o (c0 + mm)) else if gm < V (o (c0 + mm)) then V (o (c0 + mm)) else gm)) = gs_F V o c0 (mm + 1) := by
  show _ = gs_P (gs_F V o c0 mm) (V (o (c0 + mm)))
  rcases Nat.eq_zero_or_pos mm with q | q
  · obtain ⟨e1, e2⟩ := h0 q
    rw [e1, e2, q]
    rfl
  · rw [← h1 q]
    rfl
abbrev rM_nextRow : Room := { frames := 0, cells := 0, slots := 0, locals := 0 }
set_option maxHeartbeats 4000000 in
set_option maxRecDepth 100000 in
theorem m_nextRow_u (l : Launch) (D : va_G) (bd : Nat → Nat) (cr : Nat → ClassId) (w n : Nat) (K V O LF : Nat → Int32) (th fed spl held gone cur nk nv gc gu gl gm : Int32)   : ZI (S := Unit) l yX1_nextRow cX1_nextRow 1 rM_nextRow D classes (mt cr) [.ref (bd 0)] (mw bd cr w n K V O LF th fed spl held 0 gone cur nk nv gc gu gl gm) (fun v _ => v = -4) (fun _ => (mw bd cr w n K V O LF 0 fed spl held 0 gone cur nk nv gc gu gl gm)) := by
  refine ZI.of (by decide +kernel) (Nat.le_of_ble_eq_true rfl) ?_
  intro p e s m args below meth c A Q ls C0 hK hP hD hS hA hl hret
  have hx := C0.1
  have hb := C0.2.1
  have hl : lv_has ls 1 [(0, .ref (bd 0))] := hl
  refine lv_aload_n hx hb dX1_nextRow_0 rfl (lv_at hl 0 rfl) ?_
  refine lv_iconst (v := 0) hx hb dX1_nextRow_1 (by decide) ?_
  refine z_put (ty := .int) C0 zt_x1 tyX1 tyX1_ok nmX1 hK hP hD hS 0 rfl rfl 0 (by decide) fl_X1_30 rfl (by decide +kernel) rfl rfl (Nat.le_of_ble_eq_true rfl) dX1_nextRow_2 (fun H locs hP hD hS => ?_)
  have hP : va_P D classes (mw bd cr w n K V O LF 0 fed spl held 0 gone cur nk nv gc gu gl gm) H := hP
  have hD : va_D A (mw bd cr w n K V O LF 0 fed spl held 0 gone cur nk nv gc gu gl gm) := hD
  refine lv_aload_n hx hb dX1_nextRow_5 rfl (lv_at hl 0 rfl) ?_
  refine z_get C0 zt_x1 hK hP 0 rfl rfl 6 (by decide) fl_X1_42 rfl dX1_nextRow_6 ?_
  refine lv_if_ne (tgt := 15) hx hb dX1_nextRow_9 (by decide) (fun hz => False.elim (hz rfl)) (fun hz => ?_)
  refine lv_bipush (v := -4) hx hb dX1_nextRow_12 (by decide) ?_
  exact hret _ (()) _ _ _ _ hP hD hS (rfl) dX1_nextRow_14
set_option maxHeartbeats 4000000 in
set_option maxRecDepth 100000 in
theorem m_nextRow_e (l : Launch) (D : va_G) (bd : Nat → Nat) (cr : Nat → ClassId) (w n : Nat) (K V O LF : Nat → Int32) (th spl held cur nk nv gc gu gl gm : Int32) (f : Nat)  : ZI (S := Unit) l yX1_nextRow cX1_nextRow 1 rM_nextRow D classes (mt cr) [.ref (bd 0)] (mw bd cr w n K V O LF th (nI f) spl held 1 (nI f) cur nk nv gc gu gl gm) (fun v _ => v = -1) (fun _ => (mw bd cr w n K V O LF 0 (nI f) spl held 1 (nI f) 0 nk nv gc gu gl gm)) := by
  refine ZI.of (by decide +kernel) (Nat.le_of_ble_eq_true rfl) ?_
  intro p e s m args below meth c A Q ls C0 hK hP hD hS hA hl hret
  have hx := C0.1
  have hb := C0.2.1
  have hl : lv_has ls 1 [(0, .ref (bd 0))] := hl
  refine lv_aload_n hx hb dX1_nextRow_0 rfl (lv_at hl 0 rfl) ?_
  refine lv_iconst (v := 0) hx hb dX1_nextRow_1 (by decide) ?_
  refine z_put (ty := .int) C0 zt_x1 tyX1 tyX1_ok nmX1 hK hP hD hS 0 rfl rfl 0 (by decide) fl_X1_30 rfl (by decide +kernel) rfl rfl (Nat.le_of_ble_eq_true rfl) dX1_nextRow_2 (fun H locs hP hD hS => ?_)
  have hP : va_P D classes (mw bd cr w n K V O LF 0 (nI f) spl held 1 (nI f) cur nk nv gc gu gl gm) H := hP
  have hD : va_D A (mw bd cr w n K V O LF 0 (nI f) spl held 1 (nI f) cur nk nv gc gu gl gm) := hD
  refine lv_aload_n hx hb dX1_nextRow_5 rfl (lv_at hl 0 rfl) ?_
  refine z_get C0 zt_x1 hK hP 0 rfl rfl 6 (by decide) fl_X1_42 rfl dX1_nextRow_6 ?_
  refine lv_if_ne (tgt := 15) hx hb dX1_nextRow_9 (by decide) (fun hz => ?_) (fun hz => False.elim (absurd hz (by decide)))
  refine lv_aload_n hx hb dX1_nextRow_15 rfl (lv_at hl 0 rfl) ?_
  refine z_get C0 zt_x1 hK hP 0 rfl rfl 7 (by decide) fl_X1_46 rfl dX1_nextRow_16 ?_
  refine lv_aload_n hx hb dX1_nextRow_19 rfl (lv_at hl 0 rfl) ?_
  refine z_get C0 zt_x1 hK hP 0 rfl rfl 3 (by decide) fl_X1_33 rfl dX1_nextRow_20 ?_
  refine lv_icmp_ne (tgt := 33) hx hb dX1_nextRow_23 (by decide) (fun hz => False.elim (hz rfl)) (fun hz => ?_)
  refine lv_aload_n hx hb dX1_nextRow_26 rfl (lv_at hl 0 rfl) ?_
  refine lv_iconst (v := 0) hx hb dX1_nextRow_27 (by decide) ?_
  refine z_put (ty := .int) C0 zt_x1 tyX1 tyX1_ok nmX1 hK hP hD hS 0 rfl rfl 8 (by decide) fl_X1_49 rfl (by decide +kernel) rfl rfl (Nat.le_of_ble_eq_true rfl) dX1_nextRow_28 (fun H locs hP hD hS => ?_)
  have hP : va_P D classes (mw bd cr w n K V O LF 0 (nI f) spl held 1 (nI f) 0 nk nv gc gu gl gm) H := hP
  have hD : va_D A (mw bd cr w n K V O LF 0 (nI f) spl held 1 (nI f) 0 nk nv gc gu gl gm) := hD
  refine lv_iconst (v := -1) hx hb dX1_nextRow_31 (by decide) ?_
  exact hret _ (()) _ _ _ _ hP hD hS (rfl) dX1_nextRow_32
abbrev rM_nextGroup : Room := { frames := 0, cells := 0, slots := 0, locals := 0 }
set_option maxHeartbeats 4000000 in
set_option maxRecDepth 100000 in
theorem m_nextGroup_u (l : Launch) (D : va_G) (bd : Nat → Nat) (cr : Nat → ClassId) (w n : Nat) (K V O LF : Nat → Int32) (th fed spl held gone cur nk nv gc gu gl gm : Int32)   : ZI (S := Unit) l yX1_nextGroup cX1_nextGroup 2 rM_nextGroup D classes (mt cr) [.ref (bd 0)] (mw bd cr w n K V O LF th fed spl held 0 gone cur nk nv gc gu gl gm) (fun v _ => v = -4) (fun _ => (mw bd cr w n K V O LF 0 fed spl held 0 gone cur nk nv gc gu gl gm)) := by
  refine ZI.of (by decide +kernel) (Nat.le_of_ble_eq_true rfl) ?_
  intro p e s m args below meth c A Q ls C0 hK hP hD hS hA hl hret
  have hx := C0.1
  have hb := C0.2.1
  have hl : lv_has ls 2 [(0, .ref (bd 0))] := hl
  refine lv_aload_n hx hb dX1_nextGroup_0 rfl (lv_at hl 0 rfl) ?_
  refine lv_iconst (v := 0) hx hb dX1_nextGroup_1 (by decide) ?_
  refine z_put (ty := .int) C0 zt_x1 tyX1 tyX1_ok nmX1 hK hP hD hS 0 rfl rfl 0 (by decide) fl_X1_30 rfl (by decide +kernel) rfl rfl (Nat.le_of_ble_eq_true rfl) dX1_nextGroup_2 (fun H locs hP hD hS => ?_)
  have hP : va_P D classes (mw bd cr w n K V O LF 0 fed spl held 0 gone cur nk nv gc gu gl gm) H := hP
  have hD : va_D A (mw bd cr w n K V O LF 0 fed spl held 0 gone cur nk nv gc gu gl gm) := hD
  refine lv_aload_n hx hb dX1_nextGroup_5 rfl (lv_at hl 0 rfl) ?_
  refine z_get C0 zt_x1 hK hP 0 rfl rfl 6 (by decide) fl_X1_42 rfl dX1_nextGroup_6 ?_
  refine lv_if_ne (tgt := 15) hx hb dX1_nextGroup_9 (by decide) (fun hz => False.elim (hz rfl)) (fun hz => ?_)
  refine lv_bipush (v := -4) hx hb dX1_nextGroup_12 (by decide) ?_
  exact hret _ (()) _ _ _ _ hP hD hS (rfl) dX1_nextGroup_14
set_option maxHeartbeats 4000000 in
set_option maxRecDepth 100000 in
theorem m_nextGroup_e (l : Launch) (D : va_G) (bd : Nat → Nat) (cr : Nat → ClassId) (w n : Nat) (K V O LF : Nat → Int32) (th spl held cur nk nv gc gu gl gm : Int32) (f : Nat)  : ZI (S := Unit) l yX1_nextGroup cX1_nextGroup 2 rM_nextGroup D classes (mt cr) [.ref (bd 0)] (mw bd cr w n K V O LF th (nI f) spl held 1 (nI f) cur nk nv gc gu gl gm) (fun v _ => v = -1) (fun _ => (mw bd cr w n K V O LF 0 (nI f) spl held 1 (nI f) 0 nk nv gc gu gl gm)) := by
  refine ZI.of (by decide +kernel) (Nat.le_of_ble_eq_true rfl) ?_
  intro p e s m args below meth c A Q ls C0 hK hP hD hS hA hl hret
  have hx := C0.1
  have hb := C0.2.1
  have hl : lv_has ls 2 [(0, .ref (bd 0))] := hl
  refine lv_aload_n hx hb dX1_nextGroup_0 rfl (lv_at hl 0 rfl) ?_
  refine lv_iconst (v := 0) hx hb dX1_nextGroup_1 (by decide) ?_
  refine z_put (ty := .int) C0 zt_x1 tyX1 tyX1_ok nmX1 hK hP hD hS 0 rfl rfl 0 (by decide) fl_X1_30 rfl (by decide +kernel) rfl rfl (Nat.le_of_ble_eq_true rfl) dX1_nextGroup_2 (fun H locs hP hD hS => ?_)
  have hP : va_P D classes (mw bd cr w n K V O LF 0 (nI f) spl held 1 (nI f) cur nk nv gc gu gl gm) H := hP
  have hD : va_D A (mw bd cr w n K V O LF 0 (nI f) spl held 1 (nI f) cur nk nv gc gu gl gm) := hD
  refine lv_aload_n hx hb dX1_nextGroup_5 rfl (lv_at hl 0 rfl) ?_
  refine z_get C0 zt_x1 hK hP 0 rfl rfl 6 (by decide) fl_X1_42 rfl dX1_nextGroup_6 ?_
  refine lv_if_ne (tgt := 15) hx hb dX1_nextGroup_9 (by decide) (fun hz => ?_) (fun hz => False.elim (absurd hz (by decide)))
  refine lv_aload_n hx hb dX1_nextGroup_15 rfl (lv_at hl 0 rfl) ?_
  refine z_get C0 zt_x1 hK hP 0 rfl rfl 7 (by decide) fl_X1_46 rfl dX1_nextGroup_16 ?_
  refine lv_aload_n hx hb dX1_nextGroup_19 rfl (lv_at hl 0 rfl) ?_
  refine z_get C0 zt_x1 hK hP 0 rfl rfl 3 (by decide) fl_X1_33 rfl dX1_nextGroup_20 ?_
  refine lv_icmp_ne (tgt := 33) hx hb dX1_nextGroup_23 (by decide) (fun hz => False.elim (hz rfl)) (fun hz => ?_)
  refine lv_aload_n hx hb dX1_nextGroup_26 rfl (lv_at hl 0 rfl) ?_
  refine lv_iconst (v := 0) hx hb dX1_nextGroup_27 (by decide) ?_
  refine z_put (ty := .int) C0 zt_x1 tyX1 tyX1_ok nmX1 hK hP hD hS 0 rfl rfl 8 (by decide) fl_X1_49 rfl (by decide +kernel) rfl rfl (Nat.le_of_ble_eq_true rfl) dX1_nextGroup_28 (fun H locs hP hD hS => ?_)
  have hP : va_P D classes (mw bd cr w n K V O LF 0 (nI f) spl held 1 (nI f) 0 nk nv gc gu gl gm) H := hP
  have hD : va_D A (mw bd cr w n K V O LF 0 (nI f) spl held 1 (nI f) 0 nk nv gc gu gl gm) := hD
  refine lv_iconst (v := -1) hx hb dX1_nextGroup_31 (by decide) ?_
  exact hret _ (()) _ _ _ _ hP hD hS (rfl) dX1_nextGroup_32
set_option maxHeartbeats 4000000 in
set_option maxRecDepth 100000 in
theorem m_nextRow (l : Launch) (D : va_G) (bd : Nat → Nat) (cr : Nat → ClassId) (w n : Nat) (K V O LF : Nat → Int32) (th spl held cur nk nv gc gu gl gm : Int32) (f c0 : Nat) (o : Nat → Nat) (hf : f ≤ 2064) (hF : xF K O f o) (hc : c0 < f) : ZI (S := Unit) l yX1_nextRow cX1_nextRow 1 rM_nextRow D classes (mt cr) [.ref (bd 0)] (mw bd cr w n K V O LF th (nI f) spl held 1 (nI c0) cur nk nv gc gu gl gm) (fun v _ => v = 1) (fun _ => (mw bd cr w n K V O LF 0 (nI f) spl held 1 (nI (c0 + 1)) 1 (K (o c0)) (V (o c0)) gc gu gl gm)) := by
  refine ZI.of (by decide +kernel) (Nat.le_of_ble_eq_true rfl) ?_
  intro p e s m args below meth c A Q ls C0 hK hP hD hS hA hl hret
  have hx := C0.1
  have hb := C0.2.1
  have hl : lv_has ls 1 [(0, .ref (bd 0))] := hl
  refine lv_aload_n hx hb dX1_nextRow_0 rfl (lv_at hl 0 rfl) ?_
  refine lv_iconst (v := 0) hx hb dX1_nextRow_1 (by decide) ?_
  refine z_put (ty := .int) C0 zt_x1 tyX1 tyX1_ok nmX1 hK hP hD hS 0 rfl rfl 0 (by decide) fl_X1_30 rfl (by decide +kernel) rfl rfl (Nat.le_of_ble_eq_true rfl) dX1_nextRow_2 (fun H locs hP hD hS => ?_)
  have hP : va_P D classes (mw bd cr w n K V O LF 0 (nI f) spl held 1 (nI c0) cur nk nv gc gu gl gm) H := hP
  have hD : va_D A (mw bd cr w n K V O LF 0 (nI f) spl held 1 (nI c0) cur nk nv gc gu gl gm) := hD
  refine lv_aload_n hx hb dX1_nextRow_5 rfl (lv_at hl 0 rfl) ?_
  refine z_get C0 zt_x1 hK hP 0 rfl rfl 6 (by decide) fl_X1_42 rfl dX1_nextRow_6 ?_
  refine lv_if_ne (tgt := 15) hx hb dX1_nextRow_9 (by decide) (fun hz => ?_) (fun hz => False.elim (absurd hz (by decide)))
  refine lv_aload_n hx hb dX1_nextRow_15 rfl (lv_at hl 0 rfl) ?_
  refine z_get C0 zt_x1 hK hP 0 rfl rfl 7 (by decide) fl_X1_46 rfl dX1_nextRow_16 ?_
  refine lv_aload_n hx hb dX1_nextRow_19 rfl (lv_at hl 0 rfl) ?_
  refine z_get C0 zt_x1 hK hP 0 rfl rfl 3 (by decide) fl_X1_33 rfl dX1_nextRow_20 ?_
  refine lv_icmp_ne (tgt := 33) hx hb dX1_nextRow_23 (by decide) (fun hz => ?_) (fun hz => False.elim ((by have := zeq hz (by omega) (by omega); omega)))
  refine lv_aload_n hx hb dX1_nextRow_33 rfl (lv_at hl 0 rfl) ?_
  refine lv_iconst (v := 1) hx hb dX1_nextRow_34 (by decide) ?_
  refine z_put (ty := .int) C0 zt_x1 tyX1 tyX1_ok nmX1 hK hP hD hS 0 rfl rfl 8 (by decide) fl_X1_49 rfl (by decide +kernel) rfl rfl (Nat.le_of_ble_eq_true rfl) dX1_nextRow_35 (fun H locs hP hD hS => ?_)
  have hP : va_P D classes (mw bd cr w n K V O LF 0 (nI f) spl held 1 (nI c0) 1 nk nv gc gu gl gm) H := hP
  have hD : va_D A (mw bd cr w n K V O LF 0 (nI f) spl held 1 (nI c0) 1 nk nv gc gu gl gm) := hD
  refine lv_aload_n hx hb dX1_nextRow_38 rfl (lv_at hl 0 rfl) ?_
  refine lv_aload_n hx hb dX1_nextRow_39 rfl (lv_at hl 0 rfl) ?_
  refine z_get C0 zt_x1 hK hP 0 rfl rfl 15 (by decide) fl_X1_7 rfl dX1_nextRow_40 ?_
  refine lv_aload_n hx hb dX1_nextRow_43 rfl (lv_at hl 0 rfl) ?_
  refine z_get C0 zt_x1 hK hP 0 rfl rfl 17 (by decide) fl_X1_16 rfl dX1_nextRow_44 ?_
  refine lv_aload_n hx hb dX1_nextRow_47 rfl (lv_at hl 0 rfl) ?_
  refine z_get C0 zt_x1 hK hP 0 rfl rfl 7 (by decide) fl_X1_46 rfl dX1_nextRow_48 ?_
  refine z_ild C0 hK hP 3 2 rfl rfl (j := c0) (by omega) (by decide) dX1_nextRow_51 ?_
  refine z_eq (show (O c0) = nI (o (c0)) from hF.1 _ (by omega)) ?_
  refine z_ild C0 hK hP 1 0 rfl rfl (j := (o (c0))) (by have := hF.rng (a := c0) (by omega); omega) (by decide) dX1_nextRow_52 ?_
  refine z_put (ty := .int) C0 zt_x1 tyX1 tyX1_ok nmX1 hK hP hD hS 0 rfl rfl 9 (by decide) fl_X1_56 rfl (by decide +kernel) rfl rfl (Nat.le_of_ble_eq_true rfl) dX1_nextRow_53 (fun H locs hP hD hS => ?_)
  have hP : va_P D classes (mw bd cr w n K V O LF 0 (nI f) spl held 1 (nI c0) 1 (K (o (c0))) nv gc gu gl gm) H := hP
  have hD : va_D A (mw bd cr w n K V O LF 0 (nI f) spl held 1 (nI c0) 1 (K (o (c0))) nv gc gu gl gm) := hD
  refine lv_aload_n hx hb dX1_nextRow_56 rfl (lv_at hl 0 rfl) ?_
  refine lv_aload_n hx hb dX1_nextRow_57 rfl (lv_at hl 0 rfl) ?_
  refine z_get C0 zt_x1 hK hP 0 rfl rfl 16 (by decide) fl_X1_13 rfl dX1_nextRow_58 ?_
  refine lv_aload_n hx hb dX1_nextRow_61 rfl (lv_at hl 0 rfl) ?_
  refine z_get C0 zt_x1 hK hP 0 rfl rfl 17 (by decide) fl_X1_16 rfl dX1_nextRow_62 ?_
  refine lv_aload_n hx hb dX1_nextRow_65 rfl (lv_at hl 0 rfl) ?_
  refine z_get C0 zt_x1 hK hP 0 rfl rfl 7 (by decide) fl_X1_46 rfl dX1_nextRow_66 ?_
  refine z_ild C0 hK hP 3 2 rfl rfl (j := c0) (by omega) (by decide) dX1_nextRow_69 ?_
  refine z_eq (show (O c0) = nI (o (c0)) from hF.1 _ (by omega)) ?_
  refine z_ild C0 hK hP 2 1 rfl rfl (j := (o (c0))) (by have := hF.rng (a := c0) (by omega); omega) (by decide) dX1_nextRow_70 ?_
  refine z_put (ty := .int) C0 zt_x1 tyX1 tyX1_ok nmX1 hK hP hD hS 0 rfl rfl 10 (by decide) fl_X1_59 rfl (by decide +kernel) rfl rfl (Nat.le_of_ble_eq_true rfl) dX1_nextRow_71 (fun H locs hP hD hS => ?_)
  have hP : va_P D classes (mw bd cr w n K V O LF 0 (nI f) spl held 1 (nI c0) 1 (K (o (c0))) (V (o (c0))) gc gu gl gm) H := hP
  have hD : va_D A (mw bd cr w n K V O LF 0 (nI f) spl held 1 (nI c0) 1 (K (o (c0))) (V (o (c0))) gc gu gl gm) := hD
  refine lv_aload_n hx hb dX1_nextRow_74 rfl (lv_at hl 0 rfl) ?_
  refine lv_dup hx hb dX1_nextRow_75 rfl ?_
  refine z_get C0 zt_x1 hK hP 0 rfl rfl 7 (by decide) fl_X1_46 rfl dX1_nextRow_76 ?_
  refine lv_iconst (v := 1) hx hb dX1_nextRow_79 (by decide) ?_
  refine lv_iadd hx hb dX1_nextRow_80 ?_
  refine z_eq (show ((nI c0) + 1) = nI (c0 + 1) from nI_1 c0) ?_
  refine z_put (ty := .int) C0 zt_x1 tyX1 tyX1_ok nmX1 hK hP hD hS 0 rfl rfl 7 (by decide) fl_X1_46 rfl (by decide +kernel) rfl rfl (Nat.le_of_ble_eq_true rfl) dX1_nextRow_81 (fun H locs hP hD hS => ?_)
  have hP : va_P D classes (mw bd cr w n K V O LF 0 (nI f) spl held 1 (nI (c0 + 1)) 1 (K (o (c0))) (V (o (c0))) gc gu gl gm) H := hP
  have hD : va_D A (mw bd cr w n K V O LF 0 (nI f) spl held 1 (nI (c0 + 1)) 1 (K (o (c0))) (V (o (c0))) gc gu gl gm) := hD
  refine lv_iconst (v := 1) hx hb dX1_nextRow_84 (by decide) ?_
  exact hret _ (()) _ _ _ _ hP hD hS (rfl) dX1_nextRow_85
set_option maxHeartbeats 4000000 in
set_option maxRecDepth 100000 in
theorem m_nextGroup (l : Launch) (D : va_G) (bd : Nat → Nat) (cr : Nat → ClassId) (w n : Nat) (K V O LF : Nat → Int32) (th spl held cur nk nv gc gu gl gm : Int32) (f c0 : Nat) (o : Nat → Nat) (hf : f ≤ 2064) (hF : xF K O f o) (hc : c0 < f) : ZI (S := (Nat × Int32 × Int32 × Int32 × Int32)) l yX1_nextGroup cX1_nextGroup 2 rM_nextGroup D classes (mt cr) [.ref (bd 0)] (mw bd cr w n K V O LF th (nI f) spl held 1 (nI c0) cur nk nv gc gu gl gm) (fun v u => v = 2 ∧ c0 + u.1 ≤ f ∧ (∀ i, i < u.1 → K (o (c0 + i)) = K (o c0)) ∧ (c0 + u.1 = f ∨ ¬ K (o (c0 + u.1)) = K (o c0)) ∧ (0 < u.1 → (u.2.1, u.2.2.1, u.2.2.2.1, u.2.2.2.2) = gs_F V o c0 u.1)) (fun u => (mw bd cr w n K V O LF 0 (nI f) spl held 1 (nI (c0 + u.1)) 2 (K (o c0)) nv u.2.1 u.2.2.1 u.2.2.2.1 u.2.2.2.2)) := by
  refine ZI.of (by decide +kernel) (Nat.le_of_ble_eq_true rfl) ?_
  intro p e s m args below meth c A Q ls C0 hK hP hD hS hA hl hret
  have hx := C0.1
  have hb := C0.2.1
  have hl : lv_has ls 2 [(0, .ref (bd 0))] := hl
  refine lv_aload_n hx hb dX1_nextGroup_0 rfl (lv_at hl 0 rfl) ?_
  refine lv_iconst (v := 0) hx hb dX1_nextGroup_1 (by decide) ?_
  refine z_put (ty := .int) C0 zt_x1 tyX1 tyX1_ok nmX1 hK hP hD hS 0 rfl rfl 0 (by decide) fl_X1_30 rfl (by decide +kernel) rfl rfl (Nat.le_of_ble_eq_true rfl) dX1_nextGroup_2 (fun H locs hP hD hS => ?_)
  have hP : va_P D classes (mw bd cr w n K V O LF 0 (nI f) spl held 1 (nI c0) cur nk nv gc gu gl gm) H := hP
  have hD : va_D A (mw bd cr w n K V O LF 0 (nI f) spl held 1 (nI c0) cur nk nv gc gu gl gm) := hD
  refine lv_aload_n hx hb dX1_nextGroup_5 rfl (lv_at hl 0 rfl) ?_
  refine z_get C0 zt_x1 hK hP 0 rfl rfl 6 (by decide) fl_X1_42 rfl dX1_nextGroup_6 ?_
  refine lv_if_ne (tgt := 15) hx hb dX1_nextGroup_9 (by decide) (fun hz => ?_) (fun hz => False.elim (absurd hz (by decide)))
  refine lv_aload_n hx hb dX1_nextGroup_15 rfl (lv_at hl 0 rfl) ?_
  refine z_get C0 zt_x1 hK hP 0 rfl rfl 7 (by decide) fl_X1_46 rfl dX1_nextGroup_16 ?_
  refine lv_aload_n hx hb dX1_nextGroup_19 rfl (lv_at hl 0 rfl) ?_
  refine z_get C0 zt_x1 hK hP 0 rfl rfl 3 (by decide) fl_X1_33 rfl dX1_nextGroup_20 ?_
  refine lv_icmp_ne (tgt := 33) hx hb dX1_nextGroup_23 (by decide) (fun hz => ?_) (fun hz => False.elim ((by have := zeq hz (by omega) (by omega); omega)))
  refine lv_aload_n hx hb dX1_nextGroup_33 rfl (lv_at hl 0 rfl) ?_
  refine lv_iconst (v := 2) hx hb dX1_nextGroup_34 (by decide) ?_
  refine z_put (ty := .int) C0 zt_x1 tyX1 tyX1_ok nmX1 hK hP hD hS 0 rfl rfl 8 (by decide) fl_X1_49 rfl (by decide +kernel) rfl rfl (Nat.le_of_ble_eq_true rfl) dX1_nextGroup_35 (fun H locs hP hD hS => ?_)
  have hP : va_P D classes (mw bd cr w n K V O LF 0 (nI f) spl held 1 (nI c0) 2 nk nv gc gu gl gm) H := hP
  have hD : va_D A (mw bd cr w n K V O LF 0 (nI f) spl held 1 (nI c0) 2 nk nv gc gu gl gm) := hD
  refine lv_aload_n hx hb dX1_nextGroup_38 rfl (lv_at hl 0 rfl) ?_
  refine lv_aload_n hx hb dX1_nextGroup_39 rfl (lv_at hl 0 rfl) ?_
  refine z_get C0 zt_x1 hK hP 0 rfl rfl 15 (by decide) fl_X1_7 rfl dX1_nextGroup_40 ?_
  refine lv_aload_n hx hb dX1_nextGroup_43 rfl (lv_at hl 0 rfl) ?_
  refine z_get C0 zt_x1 hK hP 0 rfl rfl 17 (by decide) fl_X1_16 rfl dX1_nextGroup_44 ?_
  refine lv_aload_n hx hb dX1_nextGroup_47 rfl (lv_at hl 0 rfl) ?_
  refine z_get C0 zt_x1 hK hP 0 rfl rfl 7 (by decide) fl_X1_46 rfl dX1_nextGroup_48 ?_
  refine z_ild C0 hK hP 3 2 rfl rfl (j := c0) (by omega) (by decide) dX1_nextGroup_51 ?_
  refine z_eq (show (O c0) = nI (o (c0)) from hF.1 _ (by omega)) ?_
  refine z_ild C0 hK hP 1 0 rfl rfl (j := (o (c0))) (by have := hF.rng (a := c0) (by omega); omega) (by decide) dX1_nextGroup_52 ?_
  refine z_put (ty := .int) C0 zt_x1 tyX1 tyX1_ok nmX1 hK hP hD hS 0 rfl rfl 9 (by decide) fl_X1_56 rfl (by decide +kernel) rfl rfl (Nat.le_of_ble_eq_true rfl) dX1_nextGroup_53 (fun H locs hP hD hS => ?_)
  have hP : va_P D classes (mw bd cr w n K V O LF 0 (nI f) spl held 1 (nI c0) 2 (K (o (c0))) nv gc gu gl gm) H := hP
  have hD : va_D A (mw bd cr w n K V O LF 0 (nI f) spl held 1 (nI c0) 2 (K (o (c0))) nv gc gu gl gm) := hD
  refine lv_aload_n hx hb dX1_nextGroup_56 rfl (lv_at hl 0 rfl) ?_
  refine lv_iconst (v := 0) hx hb dX1_nextGroup_57 (by decide) ?_
  refine z_put (ty := .int) C0 zt_x1 tyX1 tyX1_ok nmX1 hK hP hD hS 0 rfl rfl 11 (by decide) fl_X1_62 rfl (by decide +kernel) rfl rfl (Nat.le_of_ble_eq_true rfl) dX1_nextGroup_58 (fun H locs hP hD hS => ?_)
  have hP : va_P D classes (mw bd cr w n K V O LF 0 (nI f) spl held 1 (nI c0) 2 (K (o (c0))) nv 0 gu gl gm) H := hP
  have hD : va_D A (mw bd cr w n K V O LF 0 (nI f) spl held 1 (nI c0) 2 (K (o (c0))) nv 0 gu gl gm) := hD
  refine lv_aload_n hx hb dX1_nextGroup_61 rfl (lv_at hl 0 rfl) ?_
  refine lv_iconst (v := 0) hx hb dX1_nextGroup_62 (by decide) ?_
  refine z_put (ty := .int) C0 zt_x1 tyX1 tyX1_ok nmX1 hK hP hD hS 0 rfl rfl 12 (by decide) fl_X1_65 rfl (by decide +kernel) rfl rfl (Nat.le_of_ble_eq_true rfl) dX1_nextGroup_63 (fun H locs hP hD hS => ?_)
  have hP : va_P D classes (mw bd cr w n K V O LF 0 (nI f) spl held 1 (nI c0) 2 (K (o (c0))) nv 0 0 gl gm) H := hP
  have hD : va_D A (mw bd cr w n K V O LF 0 (nI f) spl held 1 (nI c0) 2 (K (o (c0))) nv 0 0 gl gm) := hD
  have loop : ∀ (NN : Nat) (mm : Nat) (gc2 gu2 gl2 gm2 : Int32) (H : Heap) (locs : List Loc) (ls : Array Slot), (c0 + mm ≤ f ∧ (∀ i, i < mm → K (o (c0 + i)) = K (o c0)) ∧ (mm = 0 → gc2 = 0 ∧ gu2 = 0) ∧ (0 < mm → (gc2, gu2, gl2, gm2) = gs_F V o c0 mm)) → f - mm < NN → va_P D classes (mw bd cr w n K V O LF 0 (nI f) spl held 1 (nI (c0 + mm)) 2 (K (o (c0))) nv gc2 gu2 gl2 gm2) H → va_D A (mw bd cr w n K V O LF 0 (nI f) spl held 1 (nI (c0 + mm)) 2 (K (o (c0))) nv gc2 gu2 gl2 gm2) → va_S A s.heap H locs → lv_has ls 2 [(0, .ref (bd 0))] → W p l e rM_nextGroup s m args below meth c H locs 0 0 Q (F0 m 66 ls []) := by
    intro N66
    induction N66 with
    | zero => intro mm gc2 gu2 gl2 gm2 H locs ls hI hN; exact absurd hN (Nat.not_lt_zero _)
    | succ N66 ih66 =>
      intro mm gc2 gu2 gl2 gm2 H locs ls hI hN66 hP hD hS hl
      obtain ⟨i1, i2, i3, i4⟩ := hI
      refine lv_aload_n hx hb dX1_nextGroup_66 rfl (lv_at hl 0 rfl) ?_
      refine z_get C0 zt_x1 hK hP 0 rfl rfl 7 (by decide) fl_X1_46 rfl dX1_nextGroup_67 ?_
      refine lv_aload_n hx hb dX1_nextGroup_70 rfl (lv_at hl 0 rfl) ?_
      refine z_get C0 zt_x1 hK hP 0 rfl rfl 3 (by decide) fl_X1_33 rfl dX1_nextGroup_71 ?_
      refine lv_icmp_ge (tgt := 200) hx hb dX1_nextGroup_74 (by decide) (fun c2 => ?_) (fun c2 => ?_)
      · have c2 := zle c2 (by omega) (by omega)
        have hend : c0 + mm = f ∨ ¬ K (o (c0 + mm)) = K (o c0) := Or.inl (by omega)
        refine lv_iconst (v := 2) hx hb dX1_nextGroup_200 (by decide) ?_
        exact hret _ ((mm, gc2, gu2, gl2, gm2)) _ _ _ _ hP hD hS (⟨rfl, i1, i2, hend, i4⟩) dX1_nextGroup_201
      · have c2 := znle c2 (by omega) (by omega)
        refine lv_aload_n hx hb dX1_nextGroup_77 rfl (lv_at hl 0 rfl) ?_
        refine z_get C0 zt_x1 hK hP 0 rfl rfl 15 (by decide) fl_X1_7 rfl dX1_nextGroup_78 ?_
        refine lv_aload_n hx hb dX1_nextGroup_81 rfl (lv_at hl 0 rfl) ?_
        refine z_get C0 zt_x1 hK hP 0 rfl rfl 17 (by decide) fl_X1_16 rfl dX1_nextGroup_82 ?_
        refine lv_aload_n hx hb dX1_nextGroup_85 rfl (lv_at hl 0 rfl) ?_
        refine z_get C0 zt_x1 hK hP 0 rfl rfl 7 (by decide) fl_X1_46 rfl dX1_nextGroup_86 ?_
        refine z_ild C0 hK hP 3 2 rfl rfl (j := (c0 + mm)) (by omega) (by decide) dX1_nextGroup_89 ?_
        refine z_eq (show (O (c0 + mm)) = nI (o (c0 + mm)) from hF.1 _ (by omega)) ?_
        refine z_ild C0 hK hP 1 0 rfl rfl (j := (o (c0 + mm))) (by have := hF.rng (a := c0 + mm) (by omega); omega) (by decide) dX1_nextGroup_90 ?_
        refine lv_aload_n hx hb dX1_nextGroup_91 rfl (lv_at hl 0 rfl) ?_
        refine z_get C0 zt_x1 hK hP 0 rfl rfl 9 (by decide) fl_X1_56 rfl dX1_nextGroup_92 ?_
        refine lv_icmp_ne (tgt := 200) hx hb dX1_nextGroup_95 (by decide) (fun c3 => ?_) (fun c3 => ?_)
        · have hend : c0 + mm = f ∨ ¬ K (o (c0 + mm)) = K (o c0) := Or.inr c3
          refine lv_iconst (v := 2) hx hb dX1_nextGroup_200 (by decide) ?_
          exact hret _ ((mm, gc2, gu2, gl2, gm2)) _ _ _ _ hP hD hS (⟨rfl, i1, i2, hend, i4⟩) dX1_nextGroup_201
        · refine lv_aload_n hx hb dX1_nextGroup_98 rfl (lv_at hl 0 rfl) ?_
          refine z_get C0 zt_x1 hK hP 0 rfl rfl 16 (by decide) fl_X1_13 rfl dX1_nextGroup_99 ?_
          refine lv_aload_n hx hb dX1_nextGroup_102 rfl (lv_at hl 0 rfl) ?_
          refine z_get C0 zt_x1 hK hP 0 rfl rfl 17 (by decide) fl_X1_16 rfl dX1_nextGroup_103 ?_
          refine lv_aload_n hx hb dX1_nextGroup_106 rfl (lv_at hl 0 rfl) ?_
          refine z_get C0 zt_x1 hK hP 0 rfl rfl 7 (by decide) fl_X1_46 rfl dX1_nextGroup_107 ?_
          refine z_ild C0 hK hP 3 2 rfl rfl (j := (c0 + mm)) (by omega) (by decide) dX1_nextGroup_110 ?_
          refine z_eq (show (O (c0 + mm)) = nI (o (c0 + mm)) from hF.1 _ (by omega)) ?_
          refine z_ild C0 hK hP 2 1 rfl rfl (j := (o (c0 + mm))) (by have := hF.rng (a := c0 + mm) (by omega); omega) (by decide) dX1_nextGroup_111 ?_
          refine lv_istore_n (lv' := [(1, .int (V (o (c0 + mm)))), (0, .ref (bd 0))]) hx hb dX1_nextGroup_112 rfl hl (by decide) rfl (fun ls hl => ?_)
          refine lv_aload_n hx hb dX1_nextGroup_113 rfl (lv_at hl 1 rfl) ?_
          refine lv_aload_n hx hb dX1_nextGroup_114 rfl (lv_at hl 1 rfl) ?_
          refine z_get C0 zt_x1 hK hP 0 rfl rfl 11 (by decide) fl_X1_62 rfl dX1_nextGroup_115 ?_
          refine lv_if_eq (tgt := 129) hx hb dX1_nextGroup_118 (by decide) (fun c4 => ?_) (fun c4 => ?_)
          · refine lv_iload_n hx hb dX1_nextGroup_129 rfl (lv_at hl 0 rfl) ?_
            refine z_eq (show (V (o (c0 + mm))) = if gc2 = 0 then V (o (c0 + mm)) else if V (o (c0 + mm)) < gl2 then V (o (c0 + mm)) else gl2 from by first | rw [if_pos c4] | rw [if_neg c4, if_pos (Int32.not_le.mp c5)] | rw [if_neg c4, if_neg (Int32.not_lt.mpr c5)]) ?_
            refine lv_goto (tgt := 137) hx hb dX1_nextGroup_130 (by decide) ?_
            refine z_put (ty := .int) C0 zt_x1 tyX1 tyX1_ok nmX1 hK hP hD hS 0 rfl rfl 13 (by decide) fl_X1_68 rfl (by decide +kernel) rfl rfl (Nat.le_of_ble_eq_true rfl) dX1_nextGroup_137 (fun H locs hP hD hS => ?_)
            have hP : va_P D classes (mw bd cr w n K V O LF 0 (nI f) spl held 1 (nI (c0 + mm)) 2 (K (o (c0))) nv gc2 gu2 (if gc2 = 0 then V (o (c0 + mm)) else if V (o (c0 + mm)) < gl2 then V (o (c0 + mm)) else gl2) gm2) H := hP
            have hD : va_D A (mw bd cr w n K V O LF 0 (nI f) spl held 1 (nI (c0 + mm)) 2 (K (o (c0))) nv gc2 gu2 (if gc2 = 0 then V (o (c0 + mm)) else if V (o (c0 + mm)) < gl2 then V (o (c0 + mm)) else gl2) gm2) := hD
            refine lv_aload_n hx hb dX1_nextGroup_140 rfl (lv_at hl 1 rfl) ?_
            refine lv_aload_n hx hb dX1_nextGroup_141 rfl (lv_at hl 1 rfl) ?_
            refine z_get C0 zt_x1 hK hP 0 rfl rfl 11 (by decide) fl_X1_62 rfl dX1_nextGroup_142 ?_
            refine lv_if_eq (tgt := 156) hx hb dX1_nextGroup_145 (by decide) (fun c6 => ?_) (fun c6 => ?_)
            · refine lv_iload_n hx hb dX1_nextGroup_156 rfl (lv_at hl 0 rfl) ?_
              refine z_eq (show (V (o (c0 + mm))) = if gc2 = 0 then V (o (c0 + mm)) else if gm2 < V (o (c0 + mm)) then V (o (c0 + mm)) else gm2 from by first | rw [if_pos c6] | rw [if_neg c6, if_pos (Int32.not_le.mp c7)] | rw [if_neg c6, if_neg (Int32.not_lt.mpr c7)]) ?_
              refine lv_goto (tgt := 164) hx hb dX1_nextGroup_157 (by decide) ?_
              refine z_put (ty := .int) C0 zt_x1 tyX1 tyX1_ok nmX1 hK hP hD hS 0 rfl rfl 14 (by decide) fl_X1_71 rfl (by decide +kernel) rfl rfl (Nat.le_of_ble_eq_true rfl) dX1_nextGroup_164 (fun H locs hP hD hS => ?_)
              have hP : va_P D classes (mw bd cr w n K V O LF 0 (nI f) spl held 1 (nI (c0 + mm)) 2 (K (o (c0))) nv gc2 gu2 (if gc2 = 0 then V (o (c0 + mm)) else if V (o (c0 + mm)) < gl2 then V (o (c0 + mm)) else gl2) (if gc2 = 0 then V (o (c0 + mm)) else if gm2 < V (o (c0 + mm)) then V (o (c0 + mm)) else gm2)) H := hP
              have hD : va_D A (mw bd cr w n K V O LF 0 (nI f) spl held 1 (nI (c0 + mm)) 2 (K (o (c0))) nv gc2 gu2 (if gc2 = 0 then V (o (c0 + mm)) else if V (o (c0 + mm)) < gl2 then V (o (c0 + mm)) else gl2) (if gc2 = 0 then V (o (c0 + mm)) else if gm2 < V (o (c0 + mm)) then V (o (c0 + mm)) else gm2)) := hD
              refine lv_aload_n hx hb dX1_nextGroup_167 rfl (lv_at hl 1 rfl) ?_
              refine lv_aload_n hx hb dX1_nextGroup_168 rfl (lv_at hl 1 rfl) ?_
              refine z_get C0 zt_x1 hK hP 0 rfl rfl 12 (by decide) fl_X1_65 rfl dX1_nextGroup_169 ?_
              refine lv_iload_n hx hb dX1_nextGroup_172 rfl (lv_at hl 0 rfl) ?_
              refine lv_iadd hx hb dX1_nextGroup_173 ?_
              refine z_put (ty := .int) C0 zt_x1 tyX1 tyX1_ok nmX1 hK hP hD hS 0 rfl rfl 12 (by decide) fl_X1_65 rfl (by decide +kernel) rfl rfl (Nat.le_of_ble_eq_true rfl) dX1_nextGroup_174 (fun H locs hP hD hS => ?_)
              have hP : va_P D classes (mw bd cr w n K V O LF 0 (nI f) spl held 1 (nI (c0 + mm)) 2 (K (o (c0))) nv gc2 (gu2 + (V (o (c0 + mm)))) (if gc2 = 0 then V (o (c0 + mm)) else if V (o (c0 + mm)) < gl2 then V (o (c0 + mm)) else gl2) (if gc2 = 0 then V (o (c0 + mm)) else if gm2 < V (o (c0 + mm)) then V (o (c0 + mm)) else gm2)) H := hP
              have hD : va_D A (mw bd cr w n K V O LF 0 (nI f) spl held 1 (nI (c0 + mm)) 2 (K (o (c0))) nv gc2 (gu2 + (V (o (c0 + mm)))) (if gc2 = 0 then V (o (c0 + mm)) else if V (o (c0 + mm)) < gl2 then V (o (c0 + mm)) else gl2) (if gc2 = 0 then V (o (c0 + mm)) else if gm2 < V (o (c0 + mm)) then V (o (c0 + mm)) else gm2)) := hD
              refine lv_aload_n hx hb dX1_nextGroup_177 rfl (lv_at hl 1 rfl) ?_
              refine lv_dup hx hb dX1_nextGroup_178 rfl ?_
              refine z_get C0 zt_x1 hK hP 0 rfl rfl 11 (by decide) fl_X1_62 rfl dX1_nextGroup_179 ?_
              refine lv_iconst (v := 1) hx hb dX1_nextGroup_182 (by decide) ?_
              refine lv_iadd hx hb dX1_nextGroup_183 ?_
              refine z_put (ty := .int) C0 zt_x1 tyX1 tyX1_ok nmX1 hK hP hD hS 0 rfl rfl 11 (by decide) fl_X1_62 rfl (by decide +kernel) rfl rfl (Nat.le_of_ble_eq_true rfl) dX1_nextGroup_184 (fun H locs hP hD hS => ?_)
              have hP : va_P D classes (mw bd cr w n K V O LF 0 (nI f) spl held 1 (nI (c0 + mm)) 2 (K (o (c0))) nv (gc2 + 1) (gu2 + (V (o (c0 + mm)))) (if gc2 = 0 then V (o (c0 + mm)) else if V (o (c0 + mm)) < gl2 then V (o (c0 + mm)) else gl2) (if gc2 = 0 then V (o (c0 + mm)) else if gm2 < V (o (c0 + mm)) then V (o (c0 + mm)) else gm2)) H := hP
              have hD : va_D A (mw bd cr w n K V O LF 0 (nI f) spl held 1 (nI (c0 + mm)) 2 (K (o (c0))) nv (gc2 + 1) (gu2 + (V (o (c0 + mm)))) (if gc2 = 0 then V (o (c0 + mm)) else if V (o (c0 + mm)) < gl2 then V (o (c0 + mm)) else gl2) (if gc2 = 0 then V (o (c0 + mm)) else if gm2 < V (o (c0 + mm)) then V (o (c0 + mm)) else gm2)) := hD
              refine lv_aload_n hx hb dX1_nextGroup_187 rfl (lv_at hl 1 rfl) ?_
              refine lv_dup hx hb dX1_nextGroup_188 rfl ?_
              refine z_get C0 zt_x1 hK hP 0 rfl rfl 7 (by decide) fl_X1_46 rfl dX1_nextGroup_189 ?_
              refine lv_iconst (v := 1) hx hb dX1_nextGroup_192 (by decide) ?_
              refine lv_iadd hx hb dX1_nextGroup_193 ?_
              refine z_eq (show ((nI (c0 + mm)) + 1) = nI (c0 + (mm + 1)) from nI_1 _) ?_
              refine z_put (ty := .int) C0 zt_x1 tyX1 tyX1_ok nmX1 hK hP hD hS 0 rfl rfl 7 (by decide) fl_X1_46 rfl (by decide +kernel) rfl rfl (Nat.le_of_ble_eq_true rfl) dX1_nextGroup_194 (fun H locs hP hD hS => ?_)
              have hP : va_P D classes (mw bd cr w n K V O LF 0 (nI f) spl held 1 (nI (c0 + (mm + 1))) 2 (K (o (c0))) nv (gc2 + 1) (gu2 + (V (o (c0 + mm)))) (if gc2 = 0 then V (o (c0 + mm)) else if V (o (c0 + mm)) < gl2 then V (o (c0 + mm)) else gl2) (if gc2 = 0 then V (o (c0 + mm)) else if gm2 < V (o (c0 + mm)) then V (o (c0 + mm)) else gm2)) H := hP
              have hD : va_D A (mw bd cr w n K V O LF 0 (nI f) spl held 1 (nI (c0 + (mm + 1))) 2 (K (o (c0))) nv (gc2 + 1) (gu2 + (V (o (c0 + mm)))) (if gc2 = 0 then V (o (c0 + mm)) else if V (o (c0 + mm)) < gl2 then V (o (c0 + mm)) else gl2) (if gc2 = 0 then V (o (c0 + mm)) else if gm2 < V (o (c0 + mm)) then V (o (c0 + mm)) else gm2)) := hD
              refine lv_goto (tgt := 66) hx hb dX1_nextGroup_197 (by decide) ?_
              exact ih66 (mm + 1) (gc2 + 1) (gu2 + V (o (c0 + mm))) (if gc2 = 0 then V (o (c0 + mm)) else if V (o (c0 + mm)) < gl2 then V (o (c0 + mm)) else gl2) (if gc2 = 0 then V (o (c0 + mm)) else if gm2 < V (o (c0 + mm)) then V (o (c0 + mm)) else gm2) _ _ _ (⟨by omega, fun i h => by rcases Nat.lt_or_ge i mm with q | q; (exact i2 i q); (rw [show i = mm by omega]; exact c3), fun h => by omega, fun _ => gs_nx i3 i4⟩) (by omega) hP hD hS (lv_sub hl [1] rfl)
            · refine lv_iload_n hx hb dX1_nextGroup_148 rfl (lv_at hl 0 rfl) ?_
              refine lv_aload_n hx hb dX1_nextGroup_149 rfl (lv_at hl 1 rfl) ?_
              refine z_get C0 zt_x1 hK hP 0 rfl rfl 14 (by decide) fl_X1_71 rfl dX1_nextGroup_150 ?_
              refine lv_icmp_le (tgt := 160) hx hb dX1_nextGroup_153 (by decide) (fun c7 => ?_) (fun c7 => ?_)
              · refine lv_aload_n hx hb dX1_nextGroup_160 rfl (lv_at hl 1 rfl) ?_
                refine z_get C0 zt_x1 hK hP 0 rfl rfl 14 (by decide) fl_X1_71 rfl dX1_nextGroup_161 ?_
                refine z_eq (show (gm2) = if gc2 = 0 then V (o (c0 + mm)) else if gm2 < V (o (c0 + mm)) then V (o (c0 + mm)) else gm2 from by first | rw [if_pos c6] | rw [if_neg c6, if_pos (Int32.not_le.mp c7)] | rw [if_neg c6, if_neg (Int32.not_lt.mpr c7)]) ?_
                refine z_put (ty := .int) C0 zt_x1 tyX1 tyX1_ok nmX1 hK hP hD hS 0 rfl rfl 14 (by decide) fl_X1_71 rfl (by decide +kernel) rfl rfl (Nat.le_of_ble_eq_true rfl) dX1_nextGroup_164 (fun H locs hP hD hS => ?_)
                have hP : va_P D classes (mw bd cr w n K V O LF 0 (nI f) spl held 1 (nI (c0 + mm)) 2 (K (o (c0))) nv gc2 gu2 (if gc2 = 0 then V (o (c0 + mm)) else if V (o (c0 + mm)) < gl2 then V (o (c0 + mm)) else gl2) (if gc2 = 0 then V (o (c0 + mm)) else if gm2 < V (o (c0 + mm)) then V (o (c0 + mm)) else gm2)) H := hP
                have hD : va_D A (mw bd cr w n K V O LF 0 (nI f) spl held 1 (nI (c0 + mm)) 2 (K (o (c0))) nv gc2 gu2 (if gc2 = 0 then V (o (c0 + mm)) else if V (o (c0 + mm)) < gl2 then V (o (c0 + mm)) else gl2) (if gc2 = 0 then V (o (c0 + mm)) else if gm2 < V (o (c0 + mm)) then V (o (c0 + mm)) else gm2)) := hD
                refine lv_aload_n hx hb dX1_nextGroup_167 rfl (lv_at hl 1 rfl) ?_
                refine lv_aload_n hx hb dX1_nextGroup_168 rfl (lv_at hl 1 rfl) ?_
                refine z_get C0 zt_x1 hK hP 0 rfl rfl 12 (by decide) fl_X1_65 rfl dX1_nextGroup_169 ?_
                refine lv_iload_n hx hb dX1_nextGroup_172 rfl (lv_at hl 0 rfl) ?_
                refine lv_iadd hx hb dX1_nextGroup_173 ?_
                refine z_put (ty := .int) C0 zt_x1 tyX1 tyX1_ok nmX1 hK hP hD hS 0 rfl rfl 12 (by decide) fl_X1_65 rfl (by decide +kernel) rfl rfl (Nat.le_of_ble_eq_true rfl) dX1_nextGroup_174 (fun H locs hP hD hS => ?_)
                have hP : va_P D classes (mw bd cr w n K V O LF 0 (nI f) spl held 1 (nI (c0 + mm)) 2 (K (o (c0))) nv gc2 (gu2 + (V (o (c0 + mm)))) (if gc2 = 0 then V (o (c0 + mm)) else if V (o (c0 + mm)) < gl2 then V (o (c0 + mm)) else gl2) (if gc2 = 0 then V (o (c0 + mm)) else if gm2 < V (o (c0 + mm)) then V (o (c0 + mm)) else gm2)) H := hP
                have hD : va_D A (mw bd cr w n K V O LF 0 (nI f) spl held 1 (nI (c0 + mm)) 2 (K (o (c0))) nv gc2 (gu2 + (V (o (c0 + mm)))) (if gc2 = 0 then V (o (c0 + mm)) else if V (o (c0 + mm)) < gl2 then V (o (c0 + mm)) else gl2) (if gc2 = 0 then V (o (c0 + mm)) else if gm2 < V (o (c0 + mm)) then V (o (c0 + mm)) else gm2)) := hD
                refine lv_aload_n hx hb dX1_nextGroup_177 rfl (lv_at hl 1 rfl) ?_
                refine lv_dup hx hb dX1_nextGroup_178 rfl ?_
                refine z_get C0 zt_x1 hK hP 0 rfl rfl 11 (by decide) fl_X1_62 rfl dX1_nextGroup_179 ?_
                refine lv_iconst (v := 1) hx hb dX1_nextGroup_182 (by decide) ?_
                refine lv_iadd hx hb dX1_nextGroup_183 ?_
                refine z_put (ty := .int) C0 zt_x1 tyX1 tyX1_ok nmX1 hK hP hD hS 0 rfl rfl 11 (by decide) fl_X1_62 rfl (by decide +kernel) rfl rfl (Nat.le_of_ble_eq_true rfl) dX1_nextGroup_184 (fun H locs hP hD hS => ?_)
                have hP : va_P D classes (mw bd cr w n K V O LF 0 (nI f) spl held 1 (nI (c0 + mm)) 2 (K (o (c0))) nv (gc2 + 1) (gu2 + (V (o (c0 + mm)))) (if gc2 = 0 then V (o (c0 + mm)) else if V (o (c0 + mm)) < gl2 then V (o (c0 + mm)) else gl2) (if gc2 = 0 then V (o (c0 + mm)) else if gm2 < V (o (c0 + mm)) then V (o (c0 + mm)) else gm2)) H := hP
                have hD : va_D A (mw bd cr w n K V O LF 0 (nI f) spl held 1 (nI (c0 + mm)) 2 (K (o (c0))) nv (gc2 + 1) (gu2 + (V (o (c0 + mm)))) (if gc2 = 0 then V (o (c0 + mm)) else if V (o (c0 + mm)) < gl2 then V (o (c0 + mm)) else gl2) (if gc2 = 0 then V (o (c0 + mm)) else if gm2 < V (o (c0 + mm)) then V (o (c0 + mm)) else gm2)) := hD
                refine lv_aload_n hx hb dX1_nextGroup_187 rfl (lv_at hl 1 rfl) ?_
                refine lv_dup hx hb dX1_nextGroup_188 rfl ?_
                refine z_get C0 zt_x1 hK hP 0 rfl rfl 7 (by decide) fl_X1_46 rfl dX1_nextGroup_189 ?_
                refine lv_iconst (v := 1) hx hb dX1_nextGroup_192 (by decide) ?_
                refine lv_iadd hx hb dX1_nextGroup_193 ?_
                refine z_eq (show ((nI (c0 + mm)) + 1) = nI (c0 + (mm + 1)) from nI_1 _) ?_
                refine z_put (ty := .int) C0 zt_x1 tyX1 tyX1_ok nmX1 hK hP hD hS 0 rfl rfl 7 (by decide) fl_X1_46 rfl (by decide +kernel) rfl rfl (Nat.le_of_ble_eq_true rfl) dX1_nextGroup_194 (fun H locs hP hD hS => ?_)
                have hP : va_P D classes (mw bd cr w n K V O LF 0 (nI f) spl held 1 (nI (c0 + (mm + 1))) 2 (K (o (c0))) nv (gc2 + 1) (gu2 + (V (o (c0 + mm)))) (if gc2 = 0 then V (o (c0 + mm)) else if V (o (c0 + mm)) < gl2 then V (o (c0 + mm)) else gl2) (if gc2 = 0 then V (o (c0 + mm)) else if gm2 < V (o (c0 + mm)) then V (o (c0 + mm)) else gm2)) H := hP
                have hD : va_D A (mw bd cr w n K V O LF 0 (nI f) spl held 1 (nI (c0 + (mm + 1))) 2 (K (o (c0))) nv (gc2 + 1) (gu2 + (V (o (c0 + mm)))) (if gc2 = 0 then V (o (c0 + mm)) else if V (o (c0 + mm)) < gl2 then V (o (c0 + mm)) else gl2) (if gc2 = 0 then V (o (c0 + mm)) else if gm2 < V (o (c0 + mm)) then V (o (c0 + mm)) else gm2)) := hD
                refine lv_goto (tgt := 66) hx hb dX1_nextGroup_197 (by decide) ?_
                exact ih66 (mm + 1) (gc2 + 1) (gu2 + V (o (c0 + mm))) (if gc2 = 0 then V (o (c0 + mm)) else if V (o (c0 + mm)) < gl2 then V (o (c0 + mm)) else gl2) (if gc2 = 0 then V (o (c0 + mm)) else if gm2 < V (o (c0 + mm)) then V (o (c0 + mm)) else gm2) _ _ _ (⟨by omega, fun i h => by rcases Nat.lt_or_ge i mm with q | q; (exact i2 i q); (rw [show i = mm by omega]; exact c3), fun h => by omega, fun _ => gs_nx i3 i4⟩) (by omega) hP hD hS (lv_sub hl [1] rfl)
              · refine lv_iload_n hx hb dX1_nextGroup_156 rfl (lv_at hl 0 rfl) ?_
                refine z_eq (show (V (o (c0 + mm))) = if gc2 = 0 then V (o (c0 + mm)) else if gm2 < V (o (c0 + mm)) then V (o (c0 + mm)) else gm2 from by first | rw [if_pos c6] | rw [if_neg c6, if_pos (Int32.not_le.mp c7)] | rw [if_neg c6, if_neg (Int32.not_lt.mpr c7)]) ?_
                refine lv_goto (tgt := 164) hx hb dX1_nextGroup_157 (by decide) ?_
                refine z_put (ty := .int) C0 zt_x1 tyX1 tyX1_ok nmX1 hK hP hD hS 0 rfl rfl 14 (by decide) fl_X1_71 rfl (by decide +kernel) rfl rfl (Nat.le_of_ble_eq_true rfl) dX1_nextGroup_164 (fun H locs hP hD hS => ?_)
                have hP : va_P D classes (mw bd cr w n K V O LF 0 (nI f) spl held 1 (nI (c0 + mm)) 2 (K (o (c0))) nv gc2 gu2 (if gc2 = 0 then V (o (c0 + mm)) else if V (o (c0 + mm)) < gl2 then V (o (c0 + mm)) else gl2) (if gc2 = 0 then V (o (c0 + mm)) else if gm2 < V (o (c0 + mm)) then V (o (c0 + mm)) else gm2)) H := hP
                have hD : va_D A (mw bd cr w n K V O LF 0 (nI f) spl held 1 (nI (c0 + mm)) 2 (K (o (c0))) nv gc2 gu2 (if gc2 = 0 then V (o (c0 + mm)) else if V (o (c0 + mm)) < gl2 then V (o (c0 + mm)) else gl2) (if gc2 = 0 then V (o (c0 + mm)) else if gm2 < V (o (c0 + mm)) then V (o (c0 + mm)) else gm2)) := hD
                refine lv_aload_n hx hb dX1_nextGroup_167 rfl (lv_at hl 1 rfl) ?_
                refine lv_aload_n hx hb dX1_nextGroup_168 rfl (lv_at hl 1 rfl) ?_
                refine z_get C0 zt_x1 hK hP 0 rfl rfl 12 (by decide) fl_X1_65 rfl dX1_nextGroup_169 ?_
                refine lv_iload_n hx hb dX1_nextGroup_172 rfl (lv_at hl 0 rfl) ?_
                refine lv_iadd hx hb dX1_nextGroup_173 ?_
                refine z_put (ty := .int) C0 zt_x1 tyX1 tyX1_ok nmX1 hK hP hD hS 0 rfl rfl 12 (by decide) fl_X1_65 rfl (by decide +kernel) rfl rfl (Nat.le_of_ble_eq_true rfl) dX1_nextGroup_174 (fun H locs hP hD hS => ?_)
                have hP : va_P D classes (mw bd cr w n K V O LF 0 (nI f) spl held 1 (nI (c0 + mm)) 2 (K (o (c0))) nv gc2 (gu2 + (V (o (c0 + mm)))) (if gc2 = 0 then V (o (c0 + mm)) else if V (o (c0 + mm)) < gl2 then V (o (c0 + mm)) else gl2) (if gc2 = 0 then V (o (c0 + mm)) else if gm2 < V (o (c0 + mm)) then V (o (c0 + mm)) else gm2)) H := hP
                have hD : va_D A (mw bd cr w n K V O LF 0 (nI f) spl held 1 (nI (c0 + mm)) 2 (K (o (c0))) nv gc2 (gu2 + (V (o (c0 + mm)))) (if gc2 = 0 then V (o (c0 + mm)) else if V (o (c0 + mm)) < gl2 then V (o (c0 + mm)) else gl2) (if gc2 = 0 then V (o (c0 + mm)) else if gm2 < V (o (c0 + mm)) then V (o (c0 + mm)) else gm2)) := hD
                refine lv_aload_n hx hb dX1_nextGroup_177 rfl (lv_at hl 1 rfl) ?_
                refine lv_dup hx hb dX1_nextGroup_178 rfl ?_
                refine z_get C0 zt_x1 hK hP 0 rfl rfl 11 (by decide) fl_X1_62 rfl dX1_nextGroup_179 ?_
                refine lv_iconst (v := 1) hx hb dX1_nextGroup_182 (by decide) ?_
                refine lv_iadd hx hb dX1_nextGroup_183 ?_
                refine z_put (ty := .int) C0 zt_x1 tyX1 tyX1_ok nmX1 hK hP hD hS 0 rfl rfl 11 (by decide) fl_X1_62 rfl (by decide +kernel) rfl rfl (Nat.le_of_ble_eq_true rfl) dX1_nextGroup_184 (fun H locs hP hD hS => ?_)
                have hP : va_P D classes (mw bd cr w n K V O LF 0 (nI f) spl held 1 (nI (c0 + mm)) 2 (K (o (c0))) nv (gc2 + 1) (gu2 + (V (o (c0 + mm)))) (if gc2 = 0 then V (o (c0 + mm)) else if V (o (c0 + mm)) < gl2 then V (o (c0 + mm)) else gl2) (if gc2 = 0 then V (o (c0 + mm)) else if gm2 < V (o (c0 + mm)) then V (o (c0 + mm)) else gm2)) H := hP
                have hD : va_D A (mw bd cr w n K V O LF 0 (nI f) spl held 1 (nI (c0 + mm)) 2 (K (o (c0))) nv (gc2 + 1) (gu2 + (V (o (c0 + mm)))) (if gc2 = 0 then V (o (c0 + mm)) else if V (o (c0 + mm)) < gl2 then V (o (c0 + mm)) else gl2) (if gc2 = 0 then V (o (c0 + mm)) else if gm2 < V (o (c0 + mm)) then V (o (c0 + mm)) else gm2)) := hD
                refine lv_aload_n hx hb dX1_nextGroup_187 rfl (lv_at hl 1 rfl) ?_
                refine lv_dup hx hb dX1_nextGroup_188 rfl ?_
                refine z_get C0 zt_x1 hK hP 0 rfl rfl 7 (by decide) fl_X1_46 rfl dX1_nextGroup_189 ?_
                refine lv_iconst (v := 1) hx hb dX1_nextGroup_192 (by decide) ?_
                refine lv_iadd hx hb dX1_nextGroup_193 ?_
                refine z_eq (show ((nI (c0 + mm)) + 1) = nI (c0 + (mm + 1)) from nI_1 _) ?_
                refine z_put (ty := .int) C0 zt_x1 tyX1 tyX1_ok nmX1 hK hP hD hS 0 rfl rfl 7 (by decide) fl_X1_46 rfl (by decide +kernel) rfl rfl (Nat.le_of_ble_eq_true rfl) dX1_nextGroup_194 (fun H locs hP hD hS => ?_)
                have hP : va_P D classes (mw bd cr w n K V O LF 0 (nI f) spl held 1 (nI (c0 + (mm + 1))) 2 (K (o (c0))) nv (gc2 + 1) (gu2 + (V (o (c0 + mm)))) (if gc2 = 0 then V (o (c0 + mm)) else if V (o (c0 + mm)) < gl2 then V (o (c0 + mm)) else gl2) (if gc2 = 0 then V (o (c0 + mm)) else if gm2 < V (o (c0 + mm)) then V (o (c0 + mm)) else gm2)) H := hP
                have hD : va_D A (mw bd cr w n K V O LF 0 (nI f) spl held 1 (nI (c0 + (mm + 1))) 2 (K (o (c0))) nv (gc2 + 1) (gu2 + (V (o (c0 + mm)))) (if gc2 = 0 then V (o (c0 + mm)) else if V (o (c0 + mm)) < gl2 then V (o (c0 + mm)) else gl2) (if gc2 = 0 then V (o (c0 + mm)) else if gm2 < V (o (c0 + mm)) then V (o (c0 + mm)) else gm2)) := hD
                refine lv_goto (tgt := 66) hx hb dX1_nextGroup_197 (by decide) ?_
                exact ih66 (mm + 1) (gc2 + 1) (gu2 + V (o (c0 + mm))) (if gc2 = 0 then V (o (c0 + mm)) else if V (o (c0 + mm)) < gl2 then V (o (c0 + mm)) else gl2) (if gc2 = 0 then V (o (c0 + mm)) else if gm2 < V (o (c0 + mm)) then V (o (c0 + mm)) else gm2) _ _ _ (⟨by omega, fun i h => by rcases Nat.lt_or_ge i mm with q | q; (exact i2 i q); (rw [show i = mm by omega]; exact c3), fun h => by omega, fun _ => gs_nx i3 i4⟩) (by omega) hP hD hS (lv_sub hl [1] rfl)
          · refine lv_iload_n hx hb dX1_nextGroup_121 rfl (lv_at hl 0 rfl) ?_
            refine lv_aload_n hx hb dX1_nextGroup_122 rfl (lv_at hl 1 rfl) ?_
            refine z_get C0 zt_x1 hK hP 0 rfl rfl 13 (by decide) fl_X1_68 rfl dX1_nextGroup_123 ?_
            refine lv_icmp_ge (tgt := 133) hx hb dX1_nextGroup_126 (by decide) (fun c5 => ?_) (fun c5 => ?_)
            · refine lv_aload_n hx hb dX1_nextGroup_133 rfl (lv_at hl 1 rfl) ?_
              refine z_get C0 zt_x1 hK hP 0 rfl rfl 13 (by decide) fl_X1_68 rfl dX1_nextGroup_134 ?_
              refine z_eq (show (gl2) = if gc2 = 0 then V (o (c0 + mm)) else if V (o (c0 + mm)) < gl2 then V (o (c0 + mm)) else gl2 from by first | rw [if_pos c4] | rw [if_neg c4, if_pos (Int32.not_le.mp c5)] | rw [if_neg c4, if_neg (Int32.not_lt.mpr c5)]) ?_
              refine z_put (ty := .int) C0 zt_x1 tyX1 tyX1_ok nmX1 hK hP hD hS 0 rfl rfl 13 (by decide) fl_X1_68 rfl (by decide +kernel) rfl rfl (Nat.le_of_ble_eq_true rfl) dX1_nextGroup_137 (fun H locs hP hD hS => ?_)
              have hP : va_P D classes (mw bd cr w n K V O LF 0 (nI f) spl held 1 (nI (c0 + mm)) 2 (K (o (c0))) nv gc2 gu2 (if gc2 = 0 then V (o (c0 + mm)) else if V (o (c0 + mm)) < gl2 then V (o (c0 + mm)) else gl2) gm2) H := hP
              have hD : va_D A (mw bd cr w n K V O LF 0 (nI f) spl held 1 (nI (c0 + mm)) 2 (K (o (c0))) nv gc2 gu2 (if gc2 = 0 then V (o (c0 + mm)) else if V (o (c0 + mm)) < gl2 then V (o (c0 + mm)) else gl2) gm2) := hD
              refine lv_aload_n hx hb dX1_nextGroup_140 rfl (lv_at hl 1 rfl) ?_
              refine lv_aload_n hx hb dX1_nextGroup_141 rfl (lv_at hl 1 rfl) ?_
              refine z_get C0 zt_x1 hK hP 0 rfl rfl 11 (by decide) fl_X1_62 rfl dX1_nextGroup_142 ?_
              refine lv_if_eq (tgt := 156) hx hb dX1_nextGroup_145 (by decide) (fun c6 => ?_) (fun c6 => ?_)
              · refine lv_iload_n hx hb dX1_nextGroup_156 rfl (lv_at hl 0 rfl) ?_
                refine z_eq (show (V (o (c0 + mm))) = if gc2 = 0 then V (o (c0 + mm)) else if gm2 < V (o (c0 + mm)) then V (o (c0 + mm)) else gm2 from by first | rw [if_pos c6] | rw [if_neg c6, if_pos (Int32.not_le.mp c7)] | rw [if_neg c6, if_neg (Int32.not_lt.mpr c7)]) ?_
                refine lv_goto (tgt := 164) hx hb dX1_nextGroup_157 (by decide) ?_
                refine z_put (ty := .int) C0 zt_x1 tyX1 tyX1_ok nmX1 hK hP hD hS 0 rfl rfl 14 (by decide) fl_X1_71 rfl (by decide +kernel) rfl rfl (Nat.le_of_ble_eq_true rfl) dX1_nextGroup_164 (fun H locs hP hD hS => ?_)
                have hP : va_P D classes (mw bd cr w n K V O LF 0 (nI f) spl held 1 (nI (c0 + mm)) 2 (K (o (c0))) nv gc2 gu2 (if gc2 = 0 then V (o (c0 + mm)) else if V (o (c0 + mm)) < gl2 then V (o (c0 + mm)) else gl2) (if gc2 = 0 then V (o (c0 + mm)) else if gm2 < V (o (c0 + mm)) then V (o (c0 + mm)) else gm2)) H := hP
                have hD : va_D A (mw bd cr w n K V O LF 0 (nI f) spl held 1 (nI (c0 + mm)) 2 (K (o (c0))) nv gc2 gu2 (if gc2 = 0 then V (o (c0 + mm)) else if V (o (c0 + mm)) < gl2 then V (o (c0 + mm)) else gl2) (if gc2 = 0 then V (o (c0 + mm)) else if gm2 < V (o (c0 + mm)) then V (o (c0 + mm)) else gm2)) := hD
                refine lv_aload_n hx hb dX1_nextGroup_167 rfl (lv_at hl 1 rfl) ?_
                refine lv_aload_n hx hb dX1_nextGroup_168 rfl (lv_at hl 1 rfl) ?_
                refine z_get C0 zt_x1 hK hP 0 rfl rfl 12 (by decide) fl_X1_65 rfl dX1_nextGroup_169 ?_
                refine lv_iload_n hx hb dX1_nextGroup_172 rfl (lv_at hl 0 rfl) ?_
                refine lv_iadd hx hb dX1_nextGroup_173 ?_
                refine z_put (ty := .int) C0 zt_x1 tyX1 tyX1_ok nmX1 hK hP hD hS 0 rfl rfl 12 (by decide) fl_X1_65 rfl (by decide +kernel) rfl rfl (Nat.le_of_ble_eq_true rfl) dX1_nextGroup_174 (fun H locs hP hD hS => ?_)
                have hP : va_P D classes (mw bd cr w n K V O LF 0 (nI f) spl held 1 (nI (c0 + mm)) 2 (K (o (c0))) nv gc2 (gu2 + (V (o (c0 + mm)))) (if gc2 = 0 then V (o (c0 + mm)) else if V (o (c0 + mm)) < gl2 then V (o (c0 + mm)) else gl2) (if gc2 = 0 then V (o (c0 + mm)) else if gm2 < V (o (c0 + mm)) then V (o (c0 + mm)) else gm2)) H := hP
                have hD : va_D A (mw bd cr w n K V O LF 0 (nI f) spl held 1 (nI (c0 + mm)) 2 (K (o (c0))) nv gc2 (gu2 + (V (o (c0 + mm)))) (if gc2 = 0 then V (o (c0 + mm)) else if V (o (c0 + mm)) < gl2 then V (o (c0 + mm)) else gl2) (if gc2 = 0 then V (o (c0 + mm)) else if gm2 < V (o (c0 + mm)) then V (o (c0 + mm)) else gm2)) := hD
                refine lv_aload_n hx hb dX1_nextGroup_177 rfl (lv_at hl 1 rfl) ?_
                refine lv_dup hx hb dX1_nextGroup_178 rfl ?_
                refine z_get C0 zt_x1 hK hP 0 rfl rfl 11 (by decide) fl_X1_62 rfl dX1_nextGroup_179 ?_
                refine lv_iconst (v := 1) hx hb dX1_nextGroup_182 (by decide) ?_
                refine lv_iadd hx hb dX1_nextGroup_183 ?_
                refine z_put (ty := .int) C0 zt_x1 tyX1 tyX1_ok nmX1 hK hP hD hS 0 rfl rfl 11 (by decide) fl_X1_62 rfl (by decide +kernel) rfl rfl (Nat.le_of_ble_eq_true rfl) dX1_nextGroup_184 (fun H locs hP hD hS => ?_)
                have hP : va_P D classes (mw bd cr w n K V O LF 0 (nI f) spl held 1 (nI (c0 + mm)) 2 (K (o (c0))) nv (gc2 + 1) (gu2 + (V (o (c0 + mm)))) (if gc2 = 0 then V (o (c0 + mm)) else if V (o (c0 + mm)) < gl2 then V (o (c0 + mm)) else gl2) (if gc2 = 0 then V (o (c0 + mm)) else if gm2 < V (o (c0 + mm)) then V (o (c0 + mm)) else gm2)) H := hP
                have hD : va_D A (mw bd cr w n K V O LF 0 (nI f) spl held 1 (nI (c0 + mm)) 2 (K (o (c0))) nv (gc2 + 1) (gu2 + (V (o (c0 + mm)))) (if gc2 = 0 then V (o (c0 + mm)) else if V (o (c0 + mm)) < gl2 then V (o (c0 + mm)) else gl2) (if gc2 = 0 then V (o (c0 + mm)) else if gm2 < V (o (c0 + mm)) then V (o (c0 + mm)) else gm2)) := hD
                refine lv_aload_n hx hb dX1_nextGroup_187 rfl (lv_at hl 1 rfl) ?_
                refine lv_dup hx hb dX1_nextGroup_188 rfl ?_
                refine z_get C0 zt_x1 hK hP 0 rfl rfl 7 (by decide) fl_X1_46 rfl dX1_nextGroup_189 ?_
                refine lv_iconst (v := 1) hx hb dX1_nextGroup_192 (by decide) ?_
                refine lv_iadd hx hb dX1_nextGroup_193 ?_
                refine z_eq (show ((nI (c0 + mm)) + 1) = nI (c0 + (mm + 1)) from nI_1 _) ?_
                refine z_put (ty := .int) C0 zt_x1 tyX1 tyX1_ok nmX1 hK hP hD hS 0 rfl rfl 7 (by decide) fl_X1_46 rfl (by decide +kernel) rfl rfl (Nat.le_of_ble_eq_true rfl) dX1_nextGroup_194 (fun H locs hP hD hS => ?_)
                have hP : va_P D classes (mw bd cr w n K V O LF 0 (nI f) spl held 1 (nI (c0 + (mm + 1))) 2 (K (o (c0))) nv (gc2 + 1) (gu2 + (V (o (c0 + mm)))) (if gc2 = 0 then V (o (c0 + mm)) else if V (o (c0 + mm)) < gl2 then V (o (c0 + mm)) else gl2) (if gc2 = 0 then V (o (c0 + mm)) else if gm2 < V (o (c0 + mm)) then V (o (c0 + mm)) else gm2)) H := hP
                have hD : va_D A (mw bd cr w n K V O LF 0 (nI f) spl held 1 (nI (c0 + (mm + 1))) 2 (K (o (c0))) nv (gc2 + 1) (gu2 + (V (o (c0 + mm)))) (if gc2 = 0 then V (o (c0 + mm)) else if V (o (c0 + mm)) < gl2 then V (o (c0 + mm)) else gl2) (if gc2 = 0 then V (o (c0 + mm)) else if gm2 < V (o (c0 + mm)) then V (o (c0 + mm)) else gm2)) := hD
                refine lv_goto (tgt := 66) hx hb dX1_nextGroup_197 (by decide) ?_
                exact ih66 (mm + 1) (gc2 + 1) (gu2 + V (o (c0 + mm))) (if gc2 = 0 then V (o (c0 + mm)) else if V (o (c0 + mm)) < gl2 then V (o (c0 + mm)) else gl2) (if gc2 = 0 then V (o (c0 + mm)) else if gm2 < V (o (c0 + mm)) then V (o (c0 + mm)) else gm2) _ _ _ (⟨by omega, fun i h => by rcases Nat.lt_or_ge i mm with q | q; (exact i2 i q); (rw [show i = mm by omega]; exact c3), fun h => by omega, fun _ => gs_nx i3 i4⟩) (by omega) hP hD hS (lv_sub hl [1] rfl)
              · refine lv_iload_n hx hb dX1_nextGroup_148 rfl (lv_at hl 0 rfl) ?_
                refine lv_aload_n hx hb dX1_nextGroup_149 rfl (lv_at hl 1 rfl) ?_
                refine z_get C0 zt_x1 hK hP 0 rfl rfl 14 (by decide) fl_X1_71 rfl dX1_nextGroup_150 ?_
                refine lv_icmp_le (tgt := 160) hx hb dX1_nextGroup_153 (by decide) (fun c7 => ?_) (fun c7 => ?_)
                · refine lv_aload_n hx hb dX1_nextGroup_160 rfl (lv_at hl 1 rfl) ?_
                  refine z_get C0 zt_x1 hK hP 0 rfl rfl 14 (by decide) fl_X1_71 rfl dX1_nextGroup_161 ?_
                  refine z_eq (show (gm2) = if gc2 = 0 then V (o (c0 + mm)) else if gm2 < V (o (c0 + mm)) then V (o (c0 + mm)) else gm2 from by first | rw [if_pos c6] | rw [if_neg c6, if_pos (Int32.not_le.mp c7)] | rw [if_neg c6, if_neg (Int32.not_lt.mpr c7)]) ?_
                  refine z_put (ty := .int) C0 zt_x1 tyX1 tyX1_ok nmX1 hK hP hD hS 0 rfl rfl 14 (by decide) fl_X1_71 rfl (by decide +kernel) rfl rfl (Nat.le_of_ble_eq_true rfl) dX1_nextGroup_164 (fun H locs hP hD hS => ?_)
                  have hP : va_P D classes (mw bd cr w n K V O LF 0 (nI f) spl held 1 (nI (c0 + mm)) 2 (K (o (c0))) nv gc2 gu2 (if gc2 = 0 then V (o (c0 + mm)) else if V (o (c0 + mm)) < gl2 then V (o (c0 + mm)) else gl2) (if gc2 = 0 then V (o (c0 + mm)) else if gm2 < V (o (c0 + mm)) then V (o (c0 + mm)) else gm2)) H := hP
                  have hD : va_D A (mw bd cr w n K V O LF 0 (nI f) spl held 1 (nI (c0 + mm)) 2 (K (o (c0))) nv gc2 gu2 (if gc2 = 0 then V (o (c0 + mm)) else if V (o (c0 + mm)) < gl2 then V (o (c0 + mm)) else gl2) (if gc2 = 0 then V (o (c0 + mm)) else if gm2 < V (o (c0 + mm)) then V (o (c0 + mm)) else gm2)) := hD
                  refine lv_aload_n hx hb dX1_nextGroup_167 rfl (lv_at hl 1 rfl) ?_
                  refine lv_aload_n hx hb dX1_nextGroup_168 rfl (lv_at hl 1 rfl) ?_
                  refine z_get C0 zt_x1 hK hP 0 rfl rfl 12 (by decide) fl_X1_65 rfl dX1_nextGroup_169 ?_
                  refine lv_iload_n hx hb dX1_nextGroup_172 rfl (lv_at hl 0 rfl) ?_
                  refine lv_iadd hx hb dX1_nextGroup_173 ?_
                  refine z_put (ty := .int) C0 zt_x1 tyX1 tyX1_ok nmX1 hK hP hD hS 0 rfl rfl 12 (by decide) fl_X1_65 rfl (by decide +kernel) rfl rfl (Nat.le_of_ble_eq_true rfl) dX1_nextGroup_174 (fun H locs hP hD hS => ?_)
                  have hP : va_P D classes (mw bd cr w n K V O LF 0 (nI f) spl held 1 (nI (c0 + mm)) 2 (K (o (c0))) nv gc2 (gu2 + (V (o (c0 + mm)))) (if gc2 = 0 then V (o (c0 + mm)) else if V (o (c0 + mm)) < gl2 then V (o (c0 + mm)) else gl2) (if gc2 = 0 then V (o (c0 + mm)) else if gm2 < V (o (c0 + mm)) then V (o (c0 + mm)) else gm2)) H := hP
                  have hD : va_D A (mw bd cr w n K V O LF 0 (nI f) spl held 1 (nI (c0 + mm)) 2 (K (o (c0))) nv gc2 (gu2 + (V (o (c0 + mm)))) (if gc2 = 0 then V (o (c0 + mm)) else if V (o (c0 + mm)) < gl2 then V (o (c0 + mm)) else gl2) (if gc2 = 0 then V (o (c0 + mm)) else if gm2 < V (o (c0 + mm)) then V (o (c0 + mm)) else gm2)) := hD
                  refine lv_aload_n hx hb dX1_nextGroup_177 rfl (lv_at hl 1 rfl) ?_
                  refine lv_dup hx hb dX1_nextGroup_178 rfl ?_
                  refine z_get C0 zt_x1 hK hP 0 rfl rfl 11 (by decide) fl_X1_62 rfl dX1_nextGroup_179 ?_
                  refine lv_iconst (v := 1) hx hb dX1_nextGroup_182 (by decide) ?_
                  refine lv_iadd hx hb dX1_nextGroup_183 ?_
                  refine z_put (ty := .int) C0 zt_x1 tyX1 tyX1_ok nmX1 hK hP hD hS 0 rfl rfl 11 (by decide) fl_X1_62 rfl (by decide +kernel) rfl rfl (Nat.le_of_ble_eq_true rfl) dX1_nextGroup_184 (fun H locs hP hD hS => ?_)
                  have hP : va_P D classes (mw bd cr w n K V O LF 0 (nI f) spl held 1 (nI (c0 + mm)) 2 (K (o (c0))) nv (gc2 + 1) (gu2 + (V (o (c0 + mm)))) (if gc2 = 0 then V (o (c0 + mm)) else if V (o (c0 + mm)) < gl2 then V (o (c0 + mm)) else gl2) (if gc2 = 0 then V (o (c0 + mm)) else if gm2 < V (o (c0 + mm)) then V (o (c0 + mm)) else gm2)) H := hP
                  have hD : va_D A (mw bd cr w n K V O LF 0 (nI f) spl held 1 (nI (c0 + mm)) 2 (K (o (c0))) nv (gc2 + 1) (gu2 + (V (o (c0 + mm)))) (if gc2 = 0 then V (o (c0 + mm)) else if V (o (c0 + mm)) < gl2 then V (o (c0 + mm)) else gl2) (if gc2 = 0 then V (o (c0 + mm)) else if gm2 < V (o (c0 + mm)) then V (o (c0 + mm)) else gm2)) := hD
                  refine lv_aload_n hx hb dX1_nextGroup_187 rfl (lv_at hl 1 rfl) ?_
                  refine lv_dup hx hb dX1_nextGroup_188 rfl ?_
                  refine z_get C0 zt_x1 hK hP 0 rfl rfl 7 (by decide) fl_X1_46 rfl dX1_nextGroup_189 ?_
                  refine lv_iconst (v := 1) hx hb dX1_nextGroup_192 (by decide) ?_
                  refine lv_iadd hx hb dX1_nextGroup_193 ?_
                  refine z_eq (show ((nI (c0 + mm)) + 1) = nI (c0 + (mm + 1)) from nI_1 _) ?_
                  refine z_put (ty := .int) C0 zt_x1 tyX1 tyX1_ok nmX1 hK hP hD hS 0 rfl rfl 7 (by decide) fl_X1_46 rfl (by decide +kernel) rfl rfl (Nat.le_of_ble_eq_true rfl) dX1_nextGroup_194 (fun H locs hP hD hS => ?_)
                  have hP : va_P D classes (mw bd cr w n K V O LF 0 (nI f) spl held 1 (nI (c0 + (mm + 1))) 2 (K (o (c0))) nv (gc2 + 1) (gu2 + (V (o (c0 + mm)))) (if gc2 = 0 then V (o (c0 + mm)) else if V (o (c0 + mm)) < gl2 then V (o (c0 + mm)) else gl2) (if gc2 = 0 then V (o (c0 + mm)) else if gm2 < V (o (c0 + mm)) then V (o (c0 + mm)) else gm2)) H := hP
                  have hD : va_D A (mw bd cr w n K V O LF 0 (nI f) spl held 1 (nI (c0 + (mm + 1))) 2 (K (o (c0))) nv (gc2 + 1) (gu2 + (V (o (c0 + mm)))) (if gc2 = 0 then V (o (c0 + mm)) else if V (o (c0 + mm)) < gl2 then V (o (c0 + mm)) else gl2) (if gc2 = 0 then V (o (c0 + mm)) else if gm2 < V (o (c0 + mm)) then V (o (c0 + mm)) else gm2)) := hD
                  refine lv_goto (tgt := 66) hx hb dX1_nextGroup_197 (by decide) ?_
                  exact ih66 (mm + 1) (gc2 + 1) (gu2 + V (o (c0 + mm))) (if gc2 = 0 then V (o (c0 + mm)) else if V (o (c0 + mm)) < gl2 then V (o (c0 + mm)) else gl2) (if gc2 = 0 then V (o (c0 + mm)) else if gm2 < V (o (c0 + mm)) then V (o (c0 + mm)) else gm2) _ _ _ (⟨by omega, fun i h => by rcases Nat.lt_or_ge i mm with q | q; (exact i2 i q); (rw [show i = mm by omega]; exact c3), fun h => by omega, fun _ => gs_nx i3 i4⟩) (by omega) hP hD hS (lv_sub hl [1] rfl)
                · refine lv_iload_n hx hb dX1_nextGroup_156 rfl (lv_at hl 0 rfl) ?_
                  refine z_eq (show (V (o (c0 + mm))) = if gc2 = 0 then V (o (c0 + mm)) else if gm2 < V (o (c0 + mm)) then V (o (c0 + mm)) else gm2 from by first | rw [if_pos c6] | rw [if_neg c6, if_pos (Int32.not_le.mp c7)] | rw [if_neg c6, if_neg (Int32.not_lt.mpr c7)]) ?_
                  refine lv_goto (tgt := 164) hx hb dX1_nextGroup_157 (by decide) ?_
                  refine z_put (ty := .int) C0 zt_x1 tyX1 tyX1_ok nmX1 hK hP hD hS 0 rfl rfl 14 (by decide) fl_X1_71 rfl (by decide +kernel) rfl rfl (Nat.le_of_ble_eq_true rfl) dX1_nextGroup_164 (fun H locs hP hD hS => ?_)
                  have hP : va_P D classes (mw bd cr w n K V O LF 0 (nI f) spl held 1 (nI (c0 + mm)) 2 (K (o (c0))) nv gc2 gu2 (if gc2 = 0 then V (o (c0 + mm)) else if V (o (c0 + mm)) < gl2 then V (o (c0 + mm)) else gl2) (if gc2 = 0 then V (o (c0 + mm)) else if gm2 < V (o (c0 + mm)) then V (o (c0 + mm)) else gm2)) H := hP
                  have hD : va_D A (mw bd cr w n K V O LF 0 (nI f) spl held 1 (nI (c0 + mm)) 2 (K (o (c0))) nv gc2 gu2 (if gc2 = 0 then V (o (c0 + mm)) else if V (o (c0 + mm)) < gl2 then V (o (c0 + mm)) else gl2) (if gc2 = 0 then V (o (c0 + mm)) else if gm2 < V (o (c0 + mm)) then V (o (c0 + mm)) else gm2)) := hD
                  refine lv_aload_n hx hb dX1_nextGroup_167 rfl (lv_at hl 1 rfl) ?_
                  refine lv_aload_n hx hb dX1_nextGroup_168 rfl (lv_at hl 1 rfl) ?_
                  refine z_get C0 zt_x1 hK hP 0 rfl rfl 12 (by decide) fl_X1_65 rfl dX1_nextGroup_169 ?_
                  refine lv_iload_n hx hb dX1_nextGroup_172 rfl (lv_at hl 0 rfl) ?_
                  refine lv_iadd hx hb dX1_nextGroup_173 ?_
                  refine z_put (ty := .int) C0 zt_x1 tyX1 tyX1_ok nmX1 hK hP hD hS 0 rfl rfl 12 (by decide) fl_X1_65 rfl (by decide +kernel) rfl rfl (Nat.le_of_ble_eq_true rfl) dX1_nextGroup_174 (fun H locs hP hD hS => ?_)
                  have hP : va_P D classes (mw bd cr w n K V O LF 0 (nI f) spl held 1 (nI (c0 + mm)) 2 (K (o (c0))) nv gc2 (gu2 + (V (o (c0 + mm)))) (if gc2 = 0 then V (o (c0 + mm)) else if V (o (c0 + mm)) < gl2 then V (o (c0 + mm)) else gl2) (if gc2 = 0 then V (o (c0 + mm)) else if gm2 < V (o (c0 + mm)) then V (o (c0 + mm)) else gm2)) H := hP
                  have hD : va_D A (mw bd cr w n K V O LF 0 (nI f) spl held 1 (nI (c0 + mm)) 2 (K (o (c0))) nv gc2 (gu2 + (V (o (c0 + mm)))) (if gc2 = 0 then V (o (c0 + mm)) else if V (o (c0 + mm)) < gl2 then V (o (c0 + mm)) else gl2) (if gc2 = 0 then V (o (c0 + mm)) else if gm2 < V (o (c0 + mm)) then V (o (c0 + mm)) else gm2)) := hD
                  refine lv_aload_n hx hb dX1_nextGroup_177 rfl (lv_at hl 1 rfl) ?_
                  refine lv_dup hx hb dX1_nextGroup_178 rfl ?_
                  refine z_get C0 zt_x1 hK hP 0 rfl rfl 11 (by decide) fl_X1_62 rfl dX1_nextGroup_179 ?_
                  refine lv_iconst (v := 1) hx hb dX1_nextGroup_182 (by decide) ?_
                  refine lv_iadd hx hb dX1_nextGroup_183 ?_
                  refine z_put (ty := .int) C0 zt_x1 tyX1 tyX1_ok nmX1 hK hP hD hS 0 rfl rfl 11 (by decide) fl_X1_62 rfl (by decide +kernel) rfl rfl (Nat.le_of_ble_eq_true rfl) dX1_nextGroup_184 (fun H locs hP hD hS => ?_)
                  have hP : va_P D classes (mw bd cr w n K V O LF 0 (nI f) spl held 1 (nI (c0 + mm)) 2 (K (o (c0))) nv (gc2 + 1) (gu2 + (V (o (c0 + mm)))) (if gc2 = 0 then V (o (c0 + mm)) else if V (o (c0 + mm)) < gl2 then V (o (c0 + mm)) else gl2) (if gc2 = 0 then V (o (c0 + mm)) else if gm2 < V (o (c0 + mm)) then V (o (c0 + mm)) else gm2)) H := hP
                  have hD : va_D A (mw bd cr w n K V O LF 0 (nI f) spl held 1 (nI (c0 + mm)) 2 (K (o (c0))) nv (gc2 + 1) (gu2 + (V (o (c0 + mm)))) (if gc2 = 0 then V (o (c0 + mm)) else if V (o (c0 + mm)) < gl2 then V (o (c0 + mm)) else gl2) (if gc2 = 0 then V (o (c0 + mm)) else if gm2 < V (o (c0 + mm)) then V (o (c0 + mm)) else gm2)) := hD
                  refine lv_aload_n hx hb dX1_nextGroup_187 rfl (lv_at hl 1 rfl) ?_
                  refine lv_dup hx hb dX1_nextGroup_188 rfl ?_
                  refine z_get C0 zt_x1 hK hP 0 rfl rfl 7 (by decide) fl_X1_46 rfl dX1_nextGroup_189 ?_
                  refine lv_iconst (v := 1) hx hb dX1_nextGroup_192 (by decide) ?_
                  refine lv_iadd hx hb dX1_nextGroup_193 ?_
                  refine z_eq (show ((nI (c0 + mm)) + 1) = nI (c0 + (mm + 1)) from nI_1 _) ?_
                  refine z_put (ty := .int) C0 zt_x1 tyX1 tyX1_ok nmX1 hK hP hD hS 0 rfl rfl 7 (by decide) fl_X1_46 rfl (by decide +kernel) rfl rfl (Nat.le_of_ble_eq_true rfl) dX1_nextGroup_194 (fun H locs hP hD hS => ?_)
                  have hP : va_P D classes (mw bd cr w n K V O LF 0 (nI f) spl held 1 (nI (c0 + (mm + 1))) 2 (K (o (c0))) nv (gc2 + 1) (gu2 + (V (o (c0 + mm)))) (if gc2 = 0 then V (o (c0 + mm)) else if V (o (c0 + mm)) < gl2 then V (o (c0 + mm)) else gl2) (if gc2 = 0 then V (o (c0 + mm)) else if gm2 < V (o (c0 + mm)) then V (o (c0 + mm)) else gm2)) H := hP
                  have hD : va_D A (mw bd cr w n K V O LF 0 (nI f) spl held 1 (nI (c0 + (mm + 1))) 2 (K (o (c0))) nv (gc2 + 1) (gu2 + (V (o (c0 + mm)))) (if gc2 = 0 then V (o (c0 + mm)) else if V (o (c0 + mm)) < gl2 then V (o (c0 + mm)) else gl2) (if gc2 = 0 then V (o (c0 + mm)) else if gm2 < V (o (c0 + mm)) then V (o (c0 + mm)) else gm2)) := hD
                  refine lv_goto (tgt := 66) hx hb dX1_nextGroup_197 (by decide) ?_
                  exact ih66 (mm + 1) (gc2 + 1) (gu2 + V (o (c0 + mm))) (if gc2 = 0 then V (o (c0 + mm)) else if V (o (c0 + mm)) < gl2 then V (o (c0 + mm)) else gl2) (if gc2 = 0 then V (o (c0 + mm)) else if gm2 < V (o (c0 + mm)) then V (o (c0 + mm)) else gm2) _ _ _ (⟨by omega, fun i h => by rcases Nat.lt_or_ge i mm with q | q; (exact i2 i q); (rw [show i = mm by omega]; exact c3), fun h => by omega, fun _ => gs_nx i3 i4⟩) (by omega) hP hD hS (lv_sub hl [1] rfl)
            · refine lv_iload_n hx hb dX1_nextGroup_129 rfl (lv_at hl 0 rfl) ?_
              refine z_eq (show (V (o (c0 + mm))) = if gc2 = 0 then V (o (c0 + mm)) else if V (o (c0 + mm)) < gl2 then V (o (c0 + mm)) else gl2 from by first | rw [if_pos c4] | rw [if_neg c4, if_pos (Int32.not_le.mp c5)] | rw [if_neg c4, if_neg (Int32.not_lt.mpr c5)]) ?_
              refine lv_goto (tgt := 137) hx hb dX1_nextGroup_130 (by decide) ?_
              refine z_put (ty := .int) C0 zt_x1 tyX1 tyX1_ok nmX1 hK hP hD hS 0 rfl rfl 13 (by decide) fl_X1_68 rfl (by decide +kernel) rfl rfl (Nat.le_of_ble_eq_true rfl) dX1_nextGroup_137 (fun H locs hP hD hS => ?_)
              have hP : va_P D classes (mw bd cr w n K V O LF 0 (nI f) spl held 1 (nI (c0 + mm)) 2 (K (o (c0))) nv gc2 gu2 (if gc2 = 0 then V (o (c0 + mm)) else if V (o (c0 + mm)) < gl2 then V (o (c0 + mm)) else gl2) gm2) H := hP
              have hD : va_D A (mw bd cr w n K V O LF 0 (nI f) spl held 1 (nI (c0 + mm)) 2 (K (o (c0))) nv gc2 gu2 (if gc2 = 0 then V (o (c0 + mm)) else if V (o (c0 + mm)) < gl2 then V (o (c0 + mm)) else gl2) gm2) := hD
              refine lv_aload_n hx hb dX1_nextGroup_140 rfl (lv_at hl 1 rfl) ?_
              refine lv_aload_n hx hb dX1_nextGroup_141 rfl (lv_at hl 1 rfl) ?_
              refine z_get C0 zt_x1 hK hP 0 rfl rfl 11 (by decide) fl_X1_62 rfl dX1_nextGroup_142 ?_
              refine lv_if_eq (tgt := 156) hx hb dX1_nextGroup_145 (by decide) (fun c6 => ?_) (fun c6 => ?_)
              · refine lv_iload_n hx hb dX1_nextGroup_156 rfl (lv_at hl 0 rfl) ?_
                refine z_eq (show (V (o (c0 + mm))) = if gc2 = 0 then V (o (c0 + mm)) else if gm2 < V (o (c0 + mm)) then V (o (c0 + mm)) else gm2 from by first | rw [if_pos c6] | rw [if_neg c6, if_pos (Int32.not_le.mp c7)] | rw [if_neg c6, if_neg (Int32.not_lt.mpr c7)]) ?_
                refine lv_goto (tgt := 164) hx hb dX1_nextGroup_157 (by decide) ?_
                refine z_put (ty := .int) C0 zt_x1 tyX1 tyX1_ok nmX1 hK hP hD hS 0 rfl rfl 14 (by decide) fl_X1_71 rfl (by decide +kernel) rfl rfl (Nat.le_of_ble_eq_true rfl) dX1_nextGroup_164 (fun H locs hP hD hS => ?_)
                have hP : va_P D classes (mw bd cr w n K V O LF 0 (nI f) spl held 1 (nI (c0 + mm)) 2 (K (o (c0))) nv gc2 gu2 (if gc2 = 0 then V (o (c0 + mm)) else if V (o (c0 + mm)) < gl2 then V (o (c0 + mm)) else gl2) (if gc2 = 0 then V (o (c0 + mm)) else if gm2 < V (o (c0 + mm)) then V (o (c0 + mm)) else gm2)) H := hP
                have hD : va_D A (mw bd cr w n K V O LF 0 (nI f) spl held 1 (nI (c0 + mm)) 2 (K (o (c0))) nv gc2 gu2 (if gc2 = 0 then V (o (c0 + mm)) else if V (o (c0 + mm)) < gl2 then V (o (c0 + mm)) else gl2) (if gc2 = 0 then V (o (c0 + mm)) else if gm2 < V (o (c0 + mm)) then V (o (c0 + mm)) else gm2)) := hD
                refine lv_aload_n hx hb dX1_nextGroup_167 rfl (lv_at hl 1 rfl) ?_
                refine lv_aload_n hx hb dX1_nextGroup_168 rfl (lv_at hl 1 rfl) ?_
                refine z_get C0 zt_x1 hK hP 0 rfl rfl 12 (by decide) fl_X1_65 rfl dX1_nextGroup_169 ?_
                refine lv_iload_n hx hb dX1_nextGroup_172 rfl (lv_at hl 0 rfl) ?_
                refine lv_iadd hx hb dX1_nextGroup_173 ?_
                refine z_put (ty := .int) C0 zt_x1 tyX1 tyX1_ok nmX1 hK hP hD hS 0 rfl rfl 12 (by decide) fl_X1_65 rfl (by decide +kernel) rfl rfl (Nat.le_of_ble_eq_true rfl) dX1_nextGroup_174 (fun H locs hP hD hS => ?_)
                have hP : va_P D classes (mw bd cr w n K V O LF 0 (nI f) spl held 1 (nI (c0 + mm)) 2 (K (o (c0))) nv gc2 (gu2 + (V (o (c0 + mm)))) (if gc2 = 0 then V (o (c0 + mm)) else if V (o (c0 + mm)) < gl2 then V (o (c0 + mm)) else gl2) (if gc2 = 0 then V (o (c0 + mm)) else if gm2 < V (o (c0 + mm)) then V (o (c0 + mm)) else gm2)) H := hP
                have hD : va_D A (mw bd cr w n K V O LF 0 (nI f) spl held 1 (nI (c0 + mm)) 2 (K (o (c0))) nv gc2 (gu2 + (V (o (c0 + mm)))) (if gc2 = 0 then V (o (c0 + mm)) else if V (o (c0 + mm)) < gl2 then V (o (c0 + mm)) else gl2) (if gc2 = 0 then V (o (c0 + mm)) else if gm2 < V (o (c0 + mm)) then V (o (c0 + mm)) else gm2)) := hD
                refine lv_aload_n hx hb dX1_nextGroup_177 rfl (lv_at hl 1 rfl) ?_
                refine lv_dup hx hb dX1_nextGroup_178 rfl ?_
                refine z_get C0 zt_x1 hK hP 0 rfl rfl 11 (by decide) fl_X1_62 rfl dX1_nextGroup_179 ?_
                refine lv_iconst (v := 1) hx hb dX1_nextGroup_182 (by decide) ?_
                refine lv_iadd hx hb dX1_nextGroup_183 ?_
                refine z_put (ty := .int) C0 zt_x1 tyX1 tyX1_ok nmX1 hK hP hD hS 0 rfl rfl 11 (by decide) fl_X1_62 rfl (by decide +kernel) rfl rfl (Nat.le_of_ble_eq_true rfl) dX1_nextGroup_184 (fun H locs hP hD hS => ?_)
                have hP : va_P D classes (mw bd cr w n K V O LF 0 (nI f) spl held 1 (nI (c0 + mm)) 2 (K (o (c0))) nv (gc2 + 1) (gu2 + (V (o (c0 + mm)))) (if gc2 = 0 then V (o (c0 + mm)) else if V (o (c0 + mm)) < gl2 then V (o (c0 + mm)) else gl2) (if gc2 = 0 then V (o (c0 + mm)) else if gm2 < V (o (c0 + mm)) then V (o (c0 + mm)) else gm2)) H := hP
                have hD : va_D A (mw bd cr w n K V O LF 0 (nI f) spl held 1 (nI (c0 + mm)) 2 (K (o (c0))) nv (gc2 + 1) (gu2 + (V (o (c0 + mm)))) (if gc2 = 0 then V (o (c0 + mm)) else if V (o (c0 + mm)) < gl2 then V (o (c0 + mm)) else gl2) (if gc2 = 0 then V (o (c0 + mm)) else if gm2 < V (o (c0 + mm)) then V (o (c0 + mm)) else gm2)) := hD
                refine lv_aload_n hx hb dX1_nextGroup_187 rfl (lv_at hl 1 rfl) ?_
                refine lv_dup hx hb dX1_nextGroup_188 rfl ?_
                refine z_get C0 zt_x1 hK hP 0 rfl rfl 7 (by decide) fl_X1_46 rfl dX1_nextGroup_189 ?_
                refine lv_iconst (v := 1) hx hb dX1_nextGroup_192 (by decide) ?_
                refine lv_iadd hx hb dX1_nextGroup_193 ?_
                refine z_eq (show ((nI (c0 + mm)) + 1) = nI (c0 + (mm + 1)) from nI_1 _) ?_
                refine z_put (ty := .int) C0 zt_x1 tyX1 tyX1_ok nmX1 hK hP hD hS 0 rfl rfl 7 (by decide) fl_X1_46 rfl (by decide +kernel) rfl rfl (Nat.le_of_ble_eq_true rfl) dX1_nextGroup_194 (fun H locs hP hD hS => ?_)
                have hP : va_P D classes (mw bd cr w n K V O LF 0 (nI f) spl held 1 (nI (c0 + (mm + 1))) 2 (K (o (c0))) nv (gc2 + 1) (gu2 + (V (o (c0 + mm)))) (if gc2 = 0 then V (o (c0 + mm)) else if V (o (c0 + mm)) < gl2 then V (o (c0 + mm)) else gl2) (if gc2 = 0 then V (o (c0 + mm)) else if gm2 < V (o (c0 + mm)) then V (o (c0 + mm)) else gm2)) H := hP
                have hD : va_D A (mw bd cr w n K V O LF 0 (nI f) spl held 1 (nI (c0 + (mm + 1))) 2 (K (o (c0))) nv (gc2 + 1) (gu2 + (V (o (c0 + mm)))) (if gc2 = 0 then V (o (c0 + mm)) else if V (o (c0 + mm)) < gl2 then V (o (c0 + mm)) else gl2) (if gc2 = 0 then V (o (c0 + mm)) else if gm2 < V (o (c0 + mm)) then V (o (c0 + mm)) else gm2)) := hD
                refine lv_goto (tgt := 66) hx hb dX1_nextGroup_197 (by decide) ?_
                exact ih66 (mm + 1) (gc2 + 1) (gu2 + V (o (c0 + mm))) (if gc2 = 0 then V (o (c0 + mm)) else if V (o (c0 + mm)) < gl2 then V (o (c0 + mm)) else gl2) (if gc2 = 0 then V (o (c0 + mm)) else if gm2 < V (o (c0 + mm)) then V (o (c0 + mm)) else gm2) _ _ _ (⟨by omega, fun i h => by rcases Nat.lt_or_ge i mm with q | q; (exact i2 i q); (rw [show i = mm by omega]; exact c3), fun h => by omega, fun _ => gs_nx i3 i4⟩) (by omega) hP hD hS (lv_sub hl [1] rfl)
              · refine lv_iload_n hx hb dX1_nextGroup_148 rfl (lv_at hl 0 rfl) ?_
                refine lv_aload_n hx hb dX1_nextGroup_149 rfl (lv_at hl 1 rfl) ?_
                refine z_get C0 zt_x1 hK hP 0 rfl rfl 14 (by decide) fl_X1_71 rfl dX1_nextGroup_150 ?_
                refine lv_icmp_le (tgt := 160) hx hb dX1_nextGroup_153 (by decide) (fun c7 => ?_) (fun c7 => ?_)
                · refine lv_aload_n hx hb dX1_nextGroup_160 rfl (lv_at hl 1 rfl) ?_
                  refine z_get C0 zt_x1 hK hP 0 rfl rfl 14 (by decide) fl_X1_71 rfl dX1_nextGroup_161 ?_
                  refine z_eq (show (gm2) = if gc2 = 0 then V (o (c0 + mm)) else if gm2 < V (o (c0 + mm)) then V (o (c0 + mm)) else gm2 from by first | rw [if_pos c6] | rw [if_neg c6, if_pos (Int32.not_le.mp c7)] | rw [if_neg c6, if_neg (Int32.not_lt.mpr c7)]) ?_
                  refine z_put (ty := .int) C0 zt_x1 tyX1 tyX1_ok nmX1 hK hP hD hS 0 rfl rfl 14 (by decide) fl_X1_71 rfl (by decide +kernel) rfl rfl (Nat.le_of_ble_eq_true rfl) dX1_nextGroup_164 (fun H locs hP hD hS => ?_)
                  have hP : va_P D classes (mw bd cr w n K V O LF 0 (nI f) spl held 1 (nI (c0 + mm)) 2 (K (o (c0))) nv gc2 gu2 (if gc2 = 0 then V (o (c0 + mm)) else if V (o (c0 + mm)) < gl2 then V (o (c0 + mm)) else gl2) (if gc2 = 0 then V (o (c0 + mm)) else if gm2 < V (o (c0 + mm)) then V (o (c0 + mm)) else gm2)) H := hP
                  have hD : va_D A (mw bd cr w n K V O LF 0 (nI f) spl held 1 (nI (c0 + mm)) 2 (K (o (c0))) nv gc2 gu2 (if gc2 = 0 then V (o (c0 + mm)) else if V (o (c0 + mm)) < gl2 then V (o (c0 + mm)) else gl2) (if gc2 = 0 then V (o (c0 + mm)) else if gm2 < V (o (c0 + mm)) then V (o (c0 + mm)) else gm2)) := hD
                  refine lv_aload_n hx hb dX1_nextGroup_167 rfl (lv_at hl 1 rfl) ?_
                  refine lv_aload_n hx hb dX1_nextGroup_168 rfl (lv_at hl 1 rfl) ?_
                  refine z_get C0 zt_x1 hK hP 0 rfl rfl 12 (by decide) fl_X1_65 rfl dX1_nextGroup_169 ?_
                  refine lv_iload_n hx hb dX1_nextGroup_172 rfl (lv_at hl 0 rfl) ?_
                  refine lv_iadd hx hb dX1_nextGroup_173 ?_
                  refine z_put (ty := .int) C0 zt_x1 tyX1 tyX1_ok nmX1 hK hP hD hS 0 rfl rfl 12 (by decide) fl_X1_65 rfl (by decide +kernel) rfl rfl (Nat.le_of_ble_eq_true rfl) dX1_nextGroup_174 (fun H locs hP hD hS => ?_)
                  have hP : va_P D classes (mw bd cr w n K V O LF 0 (nI f) spl held 1 (nI (c0 + mm)) 2 (K (o (c0))) nv gc2 (gu2 + (V (o (c0 + mm)))) (if gc2 = 0 then V (o (c0 + mm)) else if V (o (c0 + mm)) < gl2 then V (o (c0 + mm)) else gl2) (if gc2 = 0 then V (o (c0 + mm)) else if gm2 < V (o (c0 + mm)) then V (o (c0 + mm)) else gm2)) H := hP
                  have hD : va_D A (mw bd cr w n K V O LF 0 (nI f) spl held 1 (nI (c0 + mm)) 2 (K (o (c0))) nv gc2 (gu2 + (V (o (c0 + mm)))) (if gc2 = 0 then V (o (c0 + mm)) else if V (o (c0 + mm)) < gl2 then V (o (c0 + mm)) else gl2) (if gc2 = 0 then V (o (c0 + mm)) else if gm2 < V (o (c0 + mm)) then V (o (c0 + mm)) else gm2)) := hD
                  refine lv_aload_n hx hb dX1_nextGroup_177 rfl (lv_at hl 1 rfl) ?_
                  refine lv_dup hx hb dX1_nextGroup_178 rfl ?_
                  refine z_get C0 zt_x1 hK hP 0 rfl rfl 11 (by decide) fl_X1_62 rfl dX1_nextGroup_179 ?_
                  refine lv_iconst (v := 1) hx hb dX1_nextGroup_182 (by decide) ?_
                  refine lv_iadd hx hb dX1_nextGroup_183 ?_
                  refine z_put (ty := .int) C0 zt_x1 tyX1 tyX1_ok nmX1 hK hP hD hS 0 rfl rfl 11 (by decide) fl_X1_62 rfl (by decide +kernel) rfl rfl (Nat.le_of_ble_eq_true rfl) dX1_nextGroup_184 (fun H locs hP hD hS => ?_)
                  have hP : va_P D classes (mw bd cr w n K V O LF 0 (nI f) spl held 1 (nI (c0 + mm)) 2 (K (o (c0))) nv (gc2 + 1) (gu2 + (V (o (c0 + mm)))) (if gc2 = 0 then V (o (c0 + mm)) else if V (o (c0 + mm)) < gl2 then V (o (c0 + mm)) else gl2) (if gc2 = 0 then V (o (c0 + mm)) else if gm2 < V (o (c0 + mm)) then V (o (c0 + mm)) else gm2)) H := hP
                  have hD : va_D A (mw bd cr w n K V O LF 0 (nI f) spl held 1 (nI (c0 + mm)) 2 (K (o (c0))) nv (gc2 + 1) (gu2 + (V (o (c0 + mm)))) (if gc2 = 0 then V (o (c0 + mm)) else if V (o (c0 + mm)) < gl2 then V (o (c0 + mm)) else gl2) (if gc2 = 0 then V (o (c0 + mm)) else if gm2 < V (o (c0 + mm)) then V (o (c0 + mm)) else gm2)) := hD
                  refine lv_aload_n hx hb dX1_nextGroup_187 rfl (lv_at hl 1 rfl) ?_
                  refine lv_dup hx hb dX1_nextGroup_188 rfl ?_
                  refine z_get C0 zt_x1 hK hP 0 rfl rfl 7 (by decide) fl_X1_46 rfl dX1_nextGroup_189 ?_
                  refine lv_iconst (v := 1) hx hb dX1_nextGroup_192 (by decide) ?_
                  refine lv_iadd hx hb dX1_nextGroup_193 ?_
                  refine z_eq (show ((nI (c0 + mm)) + 1) = nI (c0 + (mm + 1)) from nI_1 _) ?_
                  refine z_put (ty := .int) C0 zt_x1 tyX1 tyX1_ok nmX1 hK hP hD hS 0 rfl rfl 7 (by decide) fl_X1_46 rfl (by decide +kernel) rfl rfl (Nat.le_of_ble_eq_true rfl) dX1_nextGroup_194 (fun H locs hP hD hS => ?_)
                  have hP : va_P D classes (mw bd cr w n K V O LF 0 (nI f) spl held 1 (nI (c0 + (mm + 1))) 2 (K (o (c0))) nv (gc2 + 1) (gu2 + (V (o (c0 + mm)))) (if gc2 = 0 then V (o (c0 + mm)) else if V (o (c0 + mm)) < gl2 then V (o (c0 + mm)) else gl2) (if gc2 = 0 then V (o (c0 + mm)) else if gm2 < V (o (c0 + mm)) then V (o (c0 + mm)) else gm2)) H := hP
                  have hD : va_D A (mw bd cr w n K V O LF 0 (nI f) spl held 1 (nI (c0 + (mm + 1))) 2 (K (o (c0))) nv (gc2 + 1) (gu2 + (V (o (c0 + mm)))) (if gc2 = 0 then V (o (c0 + mm)) else if V (o (c0 + mm)) < gl2 then V (o (c0 + mm)) else gl2) (if gc2 = 0 then V (o (c0 + mm)) else if gm2 < V (o (c0 + mm)) then V (o (c0 + mm)) else gm2)) := hD
                  refine lv_goto (tgt := 66) hx hb dX1_nextGroup_197 (by decide) ?_
                  exact ih66 (mm + 1) (gc2 + 1) (gu2 + V (o (c0 + mm))) (if gc2 = 0 then V (o (c0 + mm)) else if V (o (c0 + mm)) < gl2 then V (o (c0 + mm)) else gl2) (if gc2 = 0 then V (o (c0 + mm)) else if gm2 < V (o (c0 + mm)) then V (o (c0 + mm)) else gm2) _ _ _ (⟨by omega, fun i h => by rcases Nat.lt_or_ge i mm with q | q; (exact i2 i q); (rw [show i = mm by omega]; exact c3), fun h => by omega, fun _ => gs_nx i3 i4⟩) (by omega) hP hD hS (lv_sub hl [1] rfl)
                · refine lv_iload_n hx hb dX1_nextGroup_156 rfl (lv_at hl 0 rfl) ?_
                  refine z_eq (show (V (o (c0 + mm))) = if gc2 = 0 then V (o (c0 + mm)) else if gm2 < V (o (c0 + mm)) then V (o (c0 + mm)) else gm2 from by first | rw [if_pos c6] | rw [if_neg c6, if_pos (Int32.not_le.mp c7)] | rw [if_neg c6, if_neg (Int32.not_lt.mpr c7)]) ?_
                  refine lv_goto (tgt := 164) hx hb dX1_nextGroup_157 (by decide) ?_
                  refine z_put (ty := .int) C0 zt_x1 tyX1 tyX1_ok nmX1 hK hP hD hS 0 rfl rfl 14 (by decide) fl_X1_71 rfl (by decide +kernel) rfl rfl (Nat.le_of_ble_eq_true rfl) dX1_nextGroup_164 (fun H locs hP hD hS => ?_)
                  have hP : va_P D classes (mw bd cr w n K V O LF 0 (nI f) spl held 1 (nI (c0 + mm)) 2 (K (o (c0))) nv gc2 gu2 (if gc2 = 0 then V (o (c0 + mm)) else if V (o (c0 + mm)) < gl2 then V (o (c0 + mm)) else gl2) (if gc2 = 0 then V (o (c0 + mm)) else if gm2 < V (o (c0 + mm)) then V (o (c0 + mm)) else gm2)) H := hP
                  have hD : va_D A (mw bd cr w n K V O LF 0 (nI f) spl held 1 (nI (c0 + mm)) 2 (K (o (c0))) nv gc2 gu2 (if gc2 = 0 then V (o (c0 + mm)) else if V (o (c0 + mm)) < gl2 then V (o (c0 + mm)) else gl2) (if gc2 = 0 then V (o (c0 + mm)) else if gm2 < V (o (c0 + mm)) then V (o (c0 + mm)) else gm2)) := hD
                  refine lv_aload_n hx hb dX1_nextGroup_167 rfl (lv_at hl 1 rfl) ?_
                  refine lv_aload_n hx hb dX1_nextGroup_168 rfl (lv_at hl 1 rfl) ?_
                  refine z_get C0 zt_x1 hK hP 0 rfl rfl 12 (by decide) fl_X1_65 rfl dX1_nextGroup_169 ?_
                  refine lv_iload_n hx hb dX1_nextGroup_172 rfl (lv_at hl 0 rfl) ?_
                  refine lv_iadd hx hb dX1_nextGroup_173 ?_
                  refine z_put (ty := .int) C0 zt_x1 tyX1 tyX1_ok nmX1 hK hP hD hS 0 rfl rfl 12 (by decide) fl_X1_65 rfl (by decide +kernel) rfl rfl (Nat.le_of_ble_eq_true rfl) dX1_nextGroup_174 (fun H locs hP hD hS => ?_)
                  have hP : va_P D classes (mw bd cr w n K V O LF 0 (nI f) spl held 1 (nI (c0 + mm)) 2 (K (o (c0))) nv gc2 (gu2 + (V (o (c0 + mm)))) (if gc2 = 0 then V (o (c0 + mm)) else if V (o (c0 + mm)) < gl2 then V (o (c0 + mm)) else gl2) (if gc2 = 0 then V (o (c0 + mm)) else if gm2 < V (o (c0 + mm)) then V (o (c0 + mm)) else gm2)) H := hP
                  have hD : va_D A (mw bd cr w n K V O LF 0 (nI f) spl held 1 (nI (c0 + mm)) 2 (K (o (c0))) nv gc2 (gu2 + (V (o (c0 + mm)))) (if gc2 = 0 then V (o (c0 + mm)) else if V (o (c0 + mm)) < gl2 then V (o (c0 + mm)) else gl2) (if gc2 = 0 then V (o (c0 + mm)) else if gm2 < V (o (c0 + mm)) then V (o (c0 + mm)) else gm2)) := hD
                  refine lv_aload_n hx hb dX1_nextGroup_177 rfl (lv_at hl 1 rfl) ?_
                  refine lv_dup hx hb dX1_nextGroup_178 rfl ?_
                  refine z_get C0 zt_x1 hK hP 0 rfl rfl 11 (by decide) fl_X1_62 rfl dX1_nextGroup_179 ?_
                  refine lv_iconst (v := 1) hx hb dX1_nextGroup_182 (by decide) ?_
                  refine lv_iadd hx hb dX1_nextGroup_183 ?_
                  refine z_put (ty := .int) C0 zt_x1 tyX1 tyX1_ok nmX1 hK hP hD hS 0 rfl rfl 11 (by decide) fl_X1_62 rfl (by decide +kernel) rfl rfl (Nat.le_of_ble_eq_true rfl) dX1_nextGroup_184 (fun H locs hP hD hS => ?_)
                  have hP : va_P D classes (mw bd cr w n K V O LF 0 (nI f) spl held 1 (nI (c0 + mm)) 2 (K (o (c0))) nv (gc2 + 1) (gu2 + (V (o (c0 + mm)))) (if gc2 = 0 then V (o (c0 + mm)) else if V (o (c0 + mm)) < gl2 then V (o (c0 + mm)) else gl2) (if gc2 = 0 then V (o (c0 + mm)) else if gm2 < V (o (c0 + mm)) then V (o (c0 + mm)) else gm2)) H := hP
                  have hD : va_D A (mw bd cr w n K V O LF 0 (nI f) spl held 1 (nI (c0 + mm)) 2 (K (o (c0))) nv (gc2 + 1) (gu2 + (V (o (c0 + mm)))) (if gc2 = 0 then V (o (c0 + mm)) else if V (o (c0 + mm)) < gl2 then V (o (c0 + mm)) else gl2) (if gc2 = 0 then V (o (c0 + mm)) else if gm2 < V (o (c0 + mm)) then V (o (c0 + mm)) else gm2)) := hD
                  refine lv_aload_n hx hb dX1_nextGroup_187 rfl (lv_at hl 1 rfl) ?_
                  refine lv_dup hx hb dX1_nextGroup_188 rfl ?_
                  refine z_get C0 zt_x1 hK hP 0 rfl rfl 7 (by decide) fl_X1_46 rfl dX1_nextGroup_189 ?_
                  refine lv_iconst (v := 1) hx hb dX1_nextGroup_192 (by decide) ?_
                  refine lv_iadd hx hb dX1_nextGroup_193 ?_
                  refine z_eq (show ((nI (c0 + mm)) + 1) = nI (c0 + (mm + 1)) from nI_1 _) ?_
                  refine z_put (ty := .int) C0 zt_x1 tyX1 tyX1_ok nmX1 hK hP hD hS 0 rfl rfl 7 (by decide) fl_X1_46 rfl (by decide +kernel) rfl rfl (Nat.le_of_ble_eq_true rfl) dX1_nextGroup_194 (fun H locs hP hD hS => ?_)
                  have hP : va_P D classes (mw bd cr w n K V O LF 0 (nI f) spl held 1 (nI (c0 + (mm + 1))) 2 (K (o (c0))) nv (gc2 + 1) (gu2 + (V (o (c0 + mm)))) (if gc2 = 0 then V (o (c0 + mm)) else if V (o (c0 + mm)) < gl2 then V (o (c0 + mm)) else gl2) (if gc2 = 0 then V (o (c0 + mm)) else if gm2 < V (o (c0 + mm)) then V (o (c0 + mm)) else gm2)) H := hP
                  have hD : va_D A (mw bd cr w n K V O LF 0 (nI f) spl held 1 (nI (c0 + (mm + 1))) 2 (K (o (c0))) nv (gc2 + 1) (gu2 + (V (o (c0 + mm)))) (if gc2 = 0 then V (o (c0 + mm)) else if V (o (c0 + mm)) < gl2 then V (o (c0 + mm)) else gl2) (if gc2 = 0 then V (o (c0 + mm)) else if gm2 < V (o (c0 + mm)) then V (o (c0 + mm)) else gm2)) := hD
                  refine lv_goto (tgt := 66) hx hb dX1_nextGroup_197 (by decide) ?_
                  exact ih66 (mm + 1) (gc2 + 1) (gu2 + V (o (c0 + mm))) (if gc2 = 0 then V (o (c0 + mm)) else if V (o (c0 + mm)) < gl2 then V (o (c0 + mm)) else gl2) (if gc2 = 0 then V (o (c0 + mm)) else if gm2 < V (o (c0 + mm)) then V (o (c0 + mm)) else gm2) _ _ _ (⟨by omega, fun i h => by rcases Nat.lt_or_ge i mm with q | q; (exact i2 i q); (rw [show i = mm by omega]; exact c3), fun h => by omega, fun _ => gs_nx i3 i4⟩) (by omega) hP hD hS (lv_sub hl [1] rfl)
  exact loop _ 0 0 0 gl gm _ _ _ (⟨by omega, fun i h => absurd h (Nat.not_lt_zero i), fun _ => ⟨rfl, rfl⟩, fun h => absurd h (Nat.lt_irrefl 0)⟩) (Nat.lt_succ_self _) hP hD hS (lv_sub hl [0] (rfl))
abbrev rM_skipTo : Room := { frames := 0, cells := 0, slots := 0, locals := 0 }
set_option maxHeartbeats 4000000 in
set_option maxRecDepth 100000 in
theorem m_skipTo_u (l : Launch) (D : va_G) (bd : Nat → Nat) (cr : Nat → ClassId) (w n : Nat) (K V O LF : Nat → Int32) (th fed spl held gone cur nk nv gc gu gl gm : Int32) (key : Int32)  : ZI (S := Unit) l yX1_skipTo cX1_skipTo 3 rM_skipTo D classes (mt cr) [.ref (bd 0), .int key] (mw bd cr w n K V O LF th fed spl held 0 gone cur nk nv gc gu gl gm) (fun v _ => v = -4) (fun _ => (mw bd cr w n K V O LF 0 fed spl held 0 gone cur nk nv gc gu gl gm)) := by
  refine ZI.of (by decide +kernel) (Nat.le_of_ble_eq_true rfl) ?_
  intro p e s m args below meth c A Q ls C0 hK hP hD hS hA hl hret
  have hx := C0.1
  have hb := C0.2.1
  have hl : lv_has ls 3 [(0, .ref (bd 0)), (1, .int key)] := hl
  refine lv_aload_n hx hb dX1_skipTo_0 rfl (lv_at hl 0 rfl) ?_
  refine lv_iconst (v := 0) hx hb dX1_skipTo_1 (by decide) ?_
  refine z_put (ty := .int) C0 zt_x1 tyX1 tyX1_ok nmX1 hK hP hD hS 0 rfl rfl 0 (by decide) fl_X1_30 rfl (by decide +kernel) rfl rfl (Nat.le_of_ble_eq_true rfl) dX1_skipTo_2 (fun H locs hP hD hS => ?_)
  have hP : va_P D classes (mw bd cr w n K V O LF 0 fed spl held 0 gone cur nk nv gc gu gl gm) H := hP
  have hD : va_D A (mw bd cr w n K V O LF 0 fed spl held 0 gone cur nk nv gc gu gl gm) := hD
  refine lv_aload_n hx hb dX1_skipTo_5 rfl (lv_at hl 0 rfl) ?_
  refine z_get C0 zt_x1 hK hP 0 rfl rfl 6 (by decide) fl_X1_42 rfl dX1_skipTo_6 ?_
  refine lv_if_ne (tgt := 15) hx hb dX1_skipTo_9 (by decide) (fun hz => False.elim (hz rfl)) (fun hz => ?_)
  refine lv_bipush (v := -4) hx hb dX1_skipTo_12 (by decide) ?_
  exact hret _ (()) _ _ _ _ hP hD hS (rfl) dX1_skipTo_14
set_option maxHeartbeats 4000000 in
set_option maxRecDepth 100000 in
theorem m_skipTo (l : Launch) (D : va_G) (bd : Nat → Nat) (cr : Nat → ClassId) (w n : Nat) (K V O LF : Nat → Int32) (th spl held cur nk nv gc gu gl gm : Int32) (f c0 : Nat) (o : Nat → Nat) (key : Int32) (hf : f ≤ 2064) (hF : xF K O f o) (hc : c0 ≤ f) : ZI (S := Nat) l yX1_skipTo cX1_skipTo 3 rM_skipTo D classes (mt cr) [.ref (bd 0), .int key] (mw bd cr w n K V O LF th (nI f) spl held 1 (nI c0) cur nk nv gc gu gl gm) (fun v u => v = nI u ∧ c0 + u ≤ f ∧ (∀ i, i < u → K (o (c0 + i)) < key) ∧ (c0 + u = f ∨ ¬ K (o (c0 + u)) < key)) (fun u => (mw bd cr w n K V O LF 0 (nI f) spl held 1 (nI (c0 + u)) 0 nk nv gc gu gl gm)) := by
  refine ZI.of (by decide +kernel) (Nat.le_of_ble_eq_true rfl) ?_
  intro p e s m args below meth c A Q ls C0 hK hP hD hS hA hl hret
  have hx := C0.1
  have hb := C0.2.1
  have hl : lv_has ls 3 [(0, .ref (bd 0)), (1, .int key)] := hl
  refine lv_aload_n hx hb dX1_skipTo_0 rfl (lv_at hl 0 rfl) ?_
  refine lv_iconst (v := 0) hx hb dX1_skipTo_1 (by decide) ?_
  refine z_put (ty := .int) C0 zt_x1 tyX1 tyX1_ok nmX1 hK hP hD hS 0 rfl rfl 0 (by decide) fl_X1_30 rfl (by decide +kernel) rfl rfl (Nat.le_of_ble_eq_true rfl) dX1_skipTo_2 (fun H locs hP hD hS => ?_)
  have hP : va_P D classes (mw bd cr w n K V O LF 0 (nI f) spl held 1 (nI c0) cur nk nv gc gu gl gm) H := hP
  have hD : va_D A (mw bd cr w n K V O LF 0 (nI f) spl held 1 (nI c0) cur nk nv gc gu gl gm) := hD
  refine lv_aload_n hx hb dX1_skipTo_5 rfl (lv_at hl 0 rfl) ?_
  refine z_get C0 zt_x1 hK hP 0 rfl rfl 6 (by decide) fl_X1_42 rfl dX1_skipTo_6 ?_
  refine lv_if_ne (tgt := 15) hx hb dX1_skipTo_9 (by decide) (fun hz => ?_) (fun hz => False.elim (absurd hz (by decide)))
  refine lv_iconst (v := 0) hx hb dX1_skipTo_15 (by decide) ?_
  refine lv_istore_n (lv' := [(2, .int 0), (0, .ref (bd 0)), (1, .int key)]) hx hb dX1_skipTo_16 rfl hl (by decide) rfl (fun ls hl => ?_)
  have loop : ∀ (NN : Nat) (mm : Nat) (H : Heap) (locs : List Loc) (ls : Array Slot), (c0 + mm ≤ f ∧ ∀ i, i < mm → K (o (c0 + i)) < key) → f - mm < NN → va_P D classes (mw bd cr w n K V O LF 0 (nI f) spl held 1 (nI (c0 + mm)) cur nk nv gc gu gl gm) H → va_D A (mw bd cr w n K V O LF 0 (nI f) spl held 1 (nI (c0 + mm)) cur nk nv gc gu gl gm) → va_S A s.heap H locs → lv_has ls 3 [(2, .int (nI mm)), (0, .ref (bd 0)), (1, .int key)] → W p l e rM_skipTo s m args below meth c H locs 0 0 Q (F0 m 17 ls []) := by
    intro N17
    induction N17 with
    | zero => intro mm H locs ls hI hN; exact absurd hN (Nat.not_lt_zero _)
    | succ N17 ih17 =>
      intro mm H locs ls hI hN17 hP hD hS hl
      obtain ⟨i1, i2⟩ := hI
      refine lv_aload_n hx hb dX1_skipTo_17 rfl (lv_at hl 1 rfl) ?_
      refine z_get C0 zt_x1 hK hP 0 rfl rfl 7 (by decide) fl_X1_46 rfl dX1_skipTo_18 ?_
      refine lv_aload_n hx hb dX1_skipTo_21 rfl (lv_at hl 1 rfl) ?_
      refine z_get C0 zt_x1 hK hP 0 rfl rfl 3 (by decide) fl_X1_33 rfl dX1_skipTo_22 ?_
      refine lv_icmp_ge (tgt := 62) hx hb dX1_skipTo_25 (by decide) (fun c2 => ?_) (fun c2 => ?_)
      · have c2 := zle c2 (by omega) (by omega)
        have hend : c0 + mm = f ∨ ¬ K (o (c0 + mm)) < key := Or.inl (by omega)
        refine lv_aload_n hx hb dX1_skipTo_62 rfl (lv_at hl 1 rfl) ?_
        refine lv_iconst (v := 0) hx hb dX1_skipTo_63 (by decide) ?_
        refine z_put (ty := .int) C0 zt_x1 tyX1 tyX1_ok nmX1 hK hP hD hS 0 rfl rfl 8 (by decide) fl_X1_49 rfl (by decide +kernel) rfl rfl (Nat.le_of_ble_eq_true rfl) dX1_skipTo_64 (fun H locs hP hD hS => ?_)
        have hP : va_P D classes (mw bd cr w n K V O LF 0 (nI f) spl held 1 (nI (c0 + mm)) 0 nk nv gc gu gl gm) H := hP
        have hD : va_D A (mw bd cr w n K V O LF 0 (nI f) spl held 1 (nI (c0 + mm)) 0 nk nv gc gu gl gm) := hD
        refine lv_iload_n hx hb dX1_skipTo_67 rfl (lv_at hl 0 rfl) ?_
        exact hret _ (mm) _ _ _ _ hP hD hS (⟨rfl, i1, i2, hend⟩) dX1_skipTo_68
      · have c2 := znle c2 (by omega) (by omega)
        refine lv_aload_n hx hb dX1_skipTo_28 rfl (lv_at hl 1 rfl) ?_
        refine z_get C0 zt_x1 hK hP 0 rfl rfl 15 (by decide) fl_X1_7 rfl dX1_skipTo_29 ?_
        refine lv_aload_n hx hb dX1_skipTo_32 rfl (lv_at hl 1 rfl) ?_
        refine z_get C0 zt_x1 hK hP 0 rfl rfl 17 (by decide) fl_X1_16 rfl dX1_skipTo_33 ?_
        refine lv_aload_n hx hb dX1_skipTo_36 rfl (lv_at hl 1 rfl) ?_
        refine z_get C0 zt_x1 hK hP 0 rfl rfl 7 (by decide) fl_X1_46 rfl dX1_skipTo_37 ?_
        refine z_ild C0 hK hP 3 2 rfl rfl (j := (c0 + mm)) (by omega) (by decide) dX1_skipTo_40 ?_
        refine z_eq (show (O (c0 + mm)) = nI (o (c0 + mm)) from hF.1 _ (by omega)) ?_
        refine z_ild C0 hK hP 1 0 rfl rfl (j := (o (c0 + mm))) (by have := hF.rng (a := c0 + mm) (by omega); omega) (by decide) dX1_skipTo_41 ?_
        refine lv_iload_n hx hb dX1_skipTo_42 rfl (lv_at hl 2 rfl) ?_
        refine lv_icmp_ge (tgt := 62) hx hb dX1_skipTo_43 (by decide) (fun c3 => ?_) (fun c3 => ?_)
        · have hend : c0 + mm = f ∨ ¬ K (o (c0 + mm)) < key := Or.inr (Int32.not_lt.mpr c3)
          refine lv_aload_n hx hb dX1_skipTo_62 rfl (lv_at hl 1 rfl) ?_
          refine lv_iconst (v := 0) hx hb dX1_skipTo_63 (by decide) ?_
          refine z_put (ty := .int) C0 zt_x1 tyX1 tyX1_ok nmX1 hK hP hD hS 0 rfl rfl 8 (by decide) fl_X1_49 rfl (by decide +kernel) rfl rfl (Nat.le_of_ble_eq_true rfl) dX1_skipTo_64 (fun H locs hP hD hS => ?_)
          have hP : va_P D classes (mw bd cr w n K V O LF 0 (nI f) spl held 1 (nI (c0 + mm)) 0 nk nv gc gu gl gm) H := hP
          have hD : va_D A (mw bd cr w n K V O LF 0 (nI f) spl held 1 (nI (c0 + mm)) 0 nk nv gc gu gl gm) := hD
          refine lv_iload_n hx hb dX1_skipTo_67 rfl (lv_at hl 0 rfl) ?_
          exact hret _ (mm) _ _ _ _ hP hD hS (⟨rfl, i1, i2, hend⟩) dX1_skipTo_68
        · refine lv_aload_n hx hb dX1_skipTo_46 rfl (lv_at hl 1 rfl) ?_
          refine lv_dup hx hb dX1_skipTo_47 rfl ?_
          refine z_get C0 zt_x1 hK hP 0 rfl rfl 7 (by decide) fl_X1_46 rfl dX1_skipTo_48 ?_
          refine lv_iconst (v := 1) hx hb dX1_skipTo_51 (by decide) ?_
          refine lv_iadd hx hb dX1_skipTo_52 ?_
          refine z_eq (show ((nI (c0 + mm)) + 1) = nI (c0 + (mm + 1)) from nI_1 _) ?_
          refine z_put (ty := .int) C0 zt_x1 tyX1 tyX1_ok nmX1 hK hP hD hS 0 rfl rfl 7 (by decide) fl_X1_46 rfl (by decide +kernel) rfl rfl (Nat.le_of_ble_eq_true rfl) dX1_skipTo_53 (fun H locs hP hD hS => ?_)
          have hP : va_P D classes (mw bd cr w n K V O LF 0 (nI f) spl held 1 (nI (c0 + (mm + 1))) cur nk nv gc gu gl gm) H := hP
          have hD : va_D A (mw bd cr w n K V O LF 0 (nI f) spl held 1 (nI (c0 + (mm + 1))) cur nk nv gc gu gl gm) := hD
          refine lv_iinc (v := nI (mm + 1)) (lv' := [(2, .int (nI (mm + 1))), (0, .ref (bd 0)), (1, .int key)]) hx hb dX1_skipTo_56 hl (k := 0) rfl (show (nI mm) + Int32.ofInt (1) = nI (mm + 1) from (congrArg ((nI mm) + ·) (by decide : Int32.ofInt (1) = 1)).trans (nI_1 mm)) (by decide) rfl (fun ls hl => ?_)
          refine lv_goto (tgt := 17) hx hb dX1_skipTo_59 (by decide) ?_
          exact ih17 (mm + 1) _ _ _ (⟨by omega, fun i h => by rcases Nat.lt_or_ge i mm with q | q; (exact i2 i q); (rw [show i = mm by omega]; exact Int32.not_le.mp c3)⟩) (by omega) hP hD hS (lv_sub hl [0, 1, 2] rfl)
  exact loop _ 0 _ _ _ (⟨by omega, fun i h => absurd h (Nat.not_lt_zero i)⟩) (Nat.lt_succ_self _) hP hD hS (lv_sub hl [0, 1, 2] (rfl))
abbrev rM_key : Room := { frames := 0, cells := 0, slots := 0, locals := 0 }
set_option maxHeartbeats 4000000 in
set_option maxRecDepth 100000 in
theorem m_key (l : Launch) (D : va_G) (bd : Nat → Nat) (cr : Nat → ClassId) (w n : Nat) (K V O LF : Nat → Int32) (th fed spl held rd gone cur nk nv gc gu gl gm : Int32)   : ZI (S := Unit) l yX1_key cX1_key 1 rM_key D classes (mt cr) [.ref (bd 0)] (mw bd cr w n K V O LF th fed spl held rd gone cur nk nv gc gu gl gm) (fun v _ => v = if cur = 0 then 0 else nk) (fun _ => (mw bd cr w n K V O LF 0 fed spl held rd gone cur nk nv gc gu gl gm)) := by
  refine ZI.of (by decide +kernel) (Nat.le_of_ble_eq_true rfl) ?_
  intro p e s m args below meth c A Q ls C0 hK hP hD hS hA hl hret
  have hx := C0.1
  have hb := C0.2.1
  have hl : lv_has ls 1 [(0, .ref (bd 0))] := hl
  refine lv_aload_n hx hb dX1_key_0 rfl (lv_at hl 0 rfl) ?_
  refine lv_iconst (v := 0) hx hb dX1_key_1 (by decide) ?_
  refine z_put (ty := .int) C0 zt_x1 tyX1 tyX1_ok nmX1 hK hP hD hS 0 rfl rfl 0 (by decide) fl_X1_30 rfl (by decide +kernel) rfl rfl (Nat.le_of_ble_eq_true rfl) dX1_key_2 (fun H locs hP hD hS => ?_)
  have hP : va_P D classes (mw bd cr w n K V O LF 0 fed spl held rd gone cur nk nv gc gu gl gm) H := hP
  have hD : va_D A (mw bd cr w n K V O LF 0 fed spl held rd gone cur nk nv gc gu gl gm) := hD
  refine lv_aload_n hx hb dX1_key_5 rfl (lv_at hl 0 rfl) ?_
  refine z_get C0 zt_x1 hK hP 0 rfl rfl 8 (by decide) fl_X1_49 rfl dX1_key_6 ?_
  refine lv_if_ne (tgt := 16) hx hb dX1_key_9 (by decide) (fun c1 => ?_) (fun c1 => ?_)
  · refine lv_aload_n hx hb dX1_key_16 rfl (lv_at hl 0 rfl) ?_
    refine z_get C0 zt_x1 hK hP 0 rfl rfl 9 (by decide) fl_X1_56 rfl dX1_key_17 ?_
    exact hret _ (()) _ _ _ _ hP hD hS (by first | rw [if_pos c1] | rw [if_neg c1]) dX1_key_20
  · refine lv_iconst (v := 0) hx hb dX1_key_12 (by decide) ?_
    refine lv_goto (tgt := 20) hx hb dX1_key_13 (by decide) ?_
    exact hret _ (()) _ _ _ _ hP hD hS (by first | rw [if_pos c1] | rw [if_neg c1]) dX1_key_20
abbrev rM_value : Room := { frames := 0, cells := 0, slots := 0, locals := 0 }
set_option maxHeartbeats 4000000 in
set_option maxRecDepth 100000 in
theorem m_value (l : Launch) (D : va_G) (bd : Nat → Nat) (cr : Nat → ClassId) (w n : Nat) (K V O LF : Nat → Int32) (th fed spl held rd gone cur nk nv gc gu gl gm : Int32)   : ZI (S := Unit) l yX1_value cX1_value 1 rM_value D classes (mt cr) [.ref (bd 0)] (mw bd cr w n K V O LF th fed spl held rd gone cur nk nv gc gu gl gm) (fun v _ => v = if cur = 1 then nv else 0) (fun _ => (mw bd cr w n K V O LF 0 fed spl held rd gone cur nk nv gc gu gl gm)) := by
  refine ZI.of (by decide +kernel) (Nat.le_of_ble_eq_true rfl) ?_
  intro p e s m args below meth c A Q ls C0 hK hP hD hS hA hl hret
  have hx := C0.1
  have hb := C0.2.1
  have hl : lv_has ls 1 [(0, .ref (bd 0))] := hl
  refine lv_aload_n hx hb dX1_value_0 rfl (lv_at hl 0 rfl) ?_
  refine lv_iconst (v := 0) hx hb dX1_value_1 (by decide) ?_
  refine z_put (ty := .int) C0 zt_x1 tyX1 tyX1_ok nmX1 hK hP hD hS 0 rfl rfl 0 (by decide) fl_X1_30 rfl (by decide +kernel) rfl rfl (Nat.le_of_ble_eq_true rfl) dX1_value_2 (fun H locs hP hD hS => ?_)
  have hP : va_P D classes (mw bd cr w n K V O LF 0 fed spl held rd gone cur nk nv gc gu gl gm) H := hP
  have hD : va_D A (mw bd cr w n K V O LF 0 fed spl held rd gone cur nk nv gc gu gl gm) := hD
  refine lv_aload_n hx hb dX1_value_5 rfl (lv_at hl 0 rfl) ?_
  refine z_get C0 zt_x1 hK hP 0 rfl rfl 8 (by decide) fl_X1_49 rfl dX1_value_6 ?_
  refine lv_iconst (v := 1) hx hb dX1_value_9 (by decide) ?_
  refine lv_icmp_ne (tgt := 20) hx hb dX1_value_10 (by decide) (fun c1 => ?_) (fun c1 => ?_)
  · refine lv_iconst (v := 0) hx hb dX1_value_20 (by decide) ?_
    exact hret _ (()) _ _ _ _ hP hD hS (by first | rw [if_pos c1] | rw [if_neg c1]) dX1_value_21
  · refine lv_aload_n hx hb dX1_value_13 rfl (lv_at hl 0 rfl) ?_
    refine z_get C0 zt_x1 hK hP 0 rfl rfl 10 (by decide) fl_X1_59 rfl dX1_value_14 ?_
    refine lv_goto (tgt := 21) hx hb dX1_value_17 (by decide) ?_
    exact hret _ (()) _ _ _ _ hP hD hS (by first | rw [if_pos c1] | rw [if_neg c1]) dX1_value_21
abbrev rM_group : Room := { frames := 0, cells := 0, slots := 0, locals := 0 }
set_option maxHeartbeats 4000000 in
set_option maxRecDepth 100000 in
theorem m_group_x (l : Launch) (D : va_G) (bd : Nat → Nat) (cr : Nat → ClassId) (w n : Nat) (K V O LF : Nat → Int32) (th fed spl held rd gone cur nk nv gc gu gl gm : Int32) (what : Int32) (hbad : what < 0 ∨ ¬ what ≤ 3) : ZI (S := Unit) l yX1_group cX1_group 2 rM_group D classes (mt cr) [.ref (bd 0), .int what] (mw bd cr w n K V O LF th fed spl held rd gone cur nk nv gc gu gl gm) (fun v _ => v = 0) (fun _ => (mw bd cr w n K V O LF 1 fed spl held rd gone cur nk nv gc gu gl gm)) := by
  refine ZI.of (by decide +kernel) (Nat.le_of_ble_eq_true rfl) ?_
  intro p e s m args below meth c A Q ls C0 hK hP hD hS hA hl hret
  have hx := C0.1
  have hb := C0.2.1
  have hl : lv_has ls 2 [(0, .ref (bd 0)), (1, .int what)] := hl
  refine lv_aload_n hx hb dX1_group_0 rfl (lv_at hl 0 rfl) ?_
  refine lv_iload_n hx hb dX1_group_1 rfl (lv_at hl 1 rfl) ?_
  refine lv_if_lt (tgt := 10) hx hb dX1_group_2 (by decide) (fun c1 => ?_) (fun c1 => ?_)
  · refine lv_iconst (v := 1) hx hb dX1_group_10 (by decide) ?_
    refine lv_goto (tgt := 15) hx hb dX1_group_11 (by decide) ?_
    refine z_put (ty := .int) C0 zt_x1 tyX1 tyX1_ok nmX1 hK hP hD hS 0 rfl rfl 0 (by decide) fl_X1_30 rfl (by decide +kernel) rfl rfl (Nat.le_of_ble_eq_true rfl) dX1_group_15 (fun H locs hP hD hS => ?_)
    have hP : va_P D classes (mw bd cr w n K V O LF 1 fed spl held rd gone cur nk nv gc gu gl gm) H := hP
    have hD : va_D A (mw bd cr w n K V O LF 1 fed spl held rd gone cur nk nv gc gu gl gm) := hD
    refine lv_aload_n hx hb dX1_group_18 rfl (lv_at hl 0 rfl) ?_
    refine z_get C0 zt_x1 hK hP 0 rfl rfl 0 (by decide) fl_X1_30 rfl dX1_group_19 ?_
    refine lv_if_gt (tgt := 33) hx hb dX1_group_22 (by decide) (fun hz => ?_) (fun hz => False.elim (hz (by decide)))
    refine lv_iconst (v := 0) hx hb dX1_group_33 (by decide) ?_
    exact hret _ (()) _ _ _ _ hP hD hS (rfl) dX1_group_34
  · refine lv_iload_n hx hb dX1_group_5 rfl (lv_at hl 1 rfl) ?_
    refine lv_iconst (v := 3) hx hb dX1_group_6 (by decide) ?_
    refine lv_icmp_le (tgt := 14) hx hb dX1_group_7 (by decide) (fun c2 => ?_) (fun c2 => ?_)
    · exact absurd c2 (hbad.resolve_left c1)
    · refine lv_iconst (v := 1) hx hb dX1_group_10 (by decide) ?_
      refine lv_goto (tgt := 15) hx hb dX1_group_11 (by decide) ?_
      refine z_put (ty := .int) C0 zt_x1 tyX1 tyX1_ok nmX1 hK hP hD hS 0 rfl rfl 0 (by decide) fl_X1_30 rfl (by decide +kernel) rfl rfl (Nat.le_of_ble_eq_true rfl) dX1_group_15 (fun H locs hP hD hS => ?_)
      have hP : va_P D classes (mw bd cr w n K V O LF 1 fed spl held rd gone cur nk nv gc gu gl gm) H := hP
      have hD : va_D A (mw bd cr w n K V O LF 1 fed spl held rd gone cur nk nv gc gu gl gm) := hD
      refine lv_aload_n hx hb dX1_group_18 rfl (lv_at hl 0 rfl) ?_
      refine z_get C0 zt_x1 hK hP 0 rfl rfl 0 (by decide) fl_X1_30 rfl dX1_group_19 ?_
      refine lv_if_gt (tgt := 33) hx hb dX1_group_22 (by decide) (fun hz => ?_) (fun hz => False.elim (hz (by decide)))
      refine lv_iconst (v := 0) hx hb dX1_group_33 (by decide) ?_
      exact hret _ (()) _ _ _ _ hP hD hS (rfl) dX1_group_34
set_option maxHeartbeats 4000000 in
set_option maxRecDepth 100000 in
theorem m_group (l : Launch) (D : va_G) (bd : Nat → Nat) (cr : Nat → ClassId) (w n : Nat) (K V O LF : Nat → Int32) (th fed spl held rd gone cur nk nv gc gu gl gm : Int32) (what : Int32) (h1 : ¬ what < 0) (h2 : what ≤ 3) : ZI (S := Unit) l yX1_group cX1_group 2 rM_group D classes (mt cr) [.ref (bd 0), .int what] (mw bd cr w n K V O LF th fed spl held rd gone cur nk nv gc gu gl gm) (fun v _ => v = if cur = 2 then (if what = 0 then gc else if what = 1 then gu else if what = 2 then gl else gm) else 0) (fun _ => (mw bd cr w n K V O LF 0 fed spl held rd gone cur nk nv gc gu gl gm)) := by
  refine ZI.of (by decide +kernel) (Nat.le_of_ble_eq_true rfl) ?_
  intro p e s m args below meth c A Q ls C0 hK hP hD hS hA hl hret
  have hx := C0.1
  have hb := C0.2.1
  have hl : lv_has ls 2 [(0, .ref (bd 0)), (1, .int what)] := hl
  refine lv_aload_n hx hb dX1_group_0 rfl (lv_at hl 0 rfl) ?_
  refine lv_iload_n hx hb dX1_group_1 rfl (lv_at hl 1 rfl) ?_
  refine lv_if_lt (tgt := 10) hx hb dX1_group_2 (by decide) (fun hz => False.elim (h1 hz)) (fun hz => ?_)
  refine lv_iload_n hx hb dX1_group_5 rfl (lv_at hl 1 rfl) ?_
  refine lv_iconst (v := 3) hx hb dX1_group_6 (by decide) ?_
  refine lv_icmp_le (tgt := 14) hx hb dX1_group_7 (by decide) (fun hz => ?_) (fun hz => False.elim (hz h2))
  refine lv_iconst (v := 0) hx hb dX1_group_14 (by decide) ?_
  refine z_put (ty := .int) C0 zt_x1 tyX1 tyX1_ok nmX1 hK hP hD hS 0 rfl rfl 0 (by decide) fl_X1_30 rfl (by decide +kernel) rfl rfl (Nat.le_of_ble_eq_true rfl) dX1_group_15 (fun H locs hP hD hS => ?_)
  have hP : va_P D classes (mw bd cr w n K V O LF 0 fed spl held rd gone cur nk nv gc gu gl gm) H := hP
  have hD : va_D A (mw bd cr w n K V O LF 0 fed spl held rd gone cur nk nv gc gu gl gm) := hD
  refine lv_aload_n hx hb dX1_group_18 rfl (lv_at hl 0 rfl) ?_
  refine z_get C0 zt_x1 hK hP 0 rfl rfl 0 (by decide) fl_X1_30 rfl dX1_group_19 ?_
  refine lv_if_gt (tgt := 33) hx hb dX1_group_22 (by decide) (fun hz => False.elim (absurd hz (by decide))) (fun hz => ?_)
  refine lv_aload_n hx hb dX1_group_25 rfl (lv_at hl 0 rfl) ?_
  refine z_get C0 zt_x1 hK hP 0 rfl rfl 8 (by decide) fl_X1_49 rfl dX1_group_26 ?_
  refine lv_iconst (v := 2) hx hb dX1_group_29 (by decide) ?_
  refine lv_icmp_eq (tgt := 35) hx hb dX1_group_30 (by decide) (fun c1 => ?_) (fun c1 => ?_)
  · refine lv_iload_n hx hb dX1_group_35 rfl (lv_at hl 1 rfl) ?_
    refine lv_if_ne (tgt := 46) hx hb dX1_group_36 (by decide) (fun c2 => ?_) (fun c2 => ?_)
    · refine lv_iload_n hx hb dX1_group_46 rfl (lv_at hl 1 rfl) ?_
      refine lv_iconst (v := 1) hx hb dX1_group_47 (by decide) ?_
      refine lv_icmp_ne (tgt := 58) hx hb dX1_group_48 (by decide) (fun c3 => ?_) (fun c3 => ?_)
      · refine lv_iload_n hx hb dX1_group_58 rfl (lv_at hl 1 rfl) ?_
        refine lv_iconst (v := 2) hx hb dX1_group_59 (by decide) ?_
        refine lv_icmp_ne (tgt := 70) hx hb dX1_group_60 (by decide) (fun c4 => ?_) (fun c4 => ?_)
        · refine lv_aload_n hx hb dX1_group_70 rfl (lv_at hl 0 rfl) ?_
          refine z_get C0 zt_x1 hK hP 0 rfl rfl 14 (by decide) fl_X1_71 rfl dX1_group_71 ?_
          exact hret _ (()) _ _ _ _ hP hD hS (by rw [if_pos c1]; first | rw [if_pos c2] | rw [if_neg c2, if_pos c3] | rw [if_neg c2, if_neg c3, if_pos c4] | rw [if_neg c2, if_neg c3, if_neg c4]) dX1_group_74
        · refine lv_aload_n hx hb dX1_group_63 rfl (lv_at hl 0 rfl) ?_
          refine z_get C0 zt_x1 hK hP 0 rfl rfl 13 (by decide) fl_X1_68 rfl dX1_group_64 ?_
          refine lv_goto (tgt := 74) hx hb dX1_group_67 (by decide) ?_
          exact hret _ (()) _ _ _ _ hP hD hS (by rw [if_pos c1]; first | rw [if_pos c2] | rw [if_neg c2, if_pos c3] | rw [if_neg c2, if_neg c3, if_pos c4] | rw [if_neg c2, if_neg c3, if_neg c4]) dX1_group_74
      · refine lv_aload_n hx hb dX1_group_51 rfl (lv_at hl 0 rfl) ?_
        refine z_get C0 zt_x1 hK hP 0 rfl rfl 12 (by decide) fl_X1_65 rfl dX1_group_52 ?_
        refine lv_goto (tgt := 74) hx hb dX1_group_55 (by decide) ?_
        exact hret _ (()) _ _ _ _ hP hD hS (by rw [if_pos c1]; first | rw [if_pos c2] | rw [if_neg c2, if_pos c3] | rw [if_neg c2, if_neg c3, if_pos c4] | rw [if_neg c2, if_neg c3, if_neg c4]) dX1_group_74
    · refine lv_aload_n hx hb dX1_group_39 rfl (lv_at hl 0 rfl) ?_
      refine z_get C0 zt_x1 hK hP 0 rfl rfl 11 (by decide) fl_X1_62 rfl dX1_group_40 ?_
      refine lv_goto (tgt := 74) hx hb dX1_group_43 (by decide) ?_
      exact hret _ (()) _ _ _ _ hP hD hS (by rw [if_pos c1]; first | rw [if_pos c2] | rw [if_neg c2, if_pos c3] | rw [if_neg c2, if_neg c3, if_pos c4] | rw [if_neg c2, if_neg c3, if_neg c4]) dX1_group_74
  · refine lv_iconst (v := 0) hx hb dX1_group_33 (by decide) ?_
    exact hret _ (()) _ _ _ _ hP hD hS (by rw [if_neg c1]) dX1_group_34
abbrev rM_runsLeft : Room := { frames := 0, cells := 0, slots := 0, locals := 0 }
set_option maxHeartbeats 4000000 in
set_option maxRecDepth 100000 in
theorem m_runsLeft (l : Launch) (D : va_G) (bd : Nat → Nat) (cr : Nat → ClassId) (w n : Nat) (K V O LF : Nat → Int32) (th spl held rd cur nk nv gc gu gl gm : Int32) (f c0 r : Nat) (o : Nat → Nat) (hf : f ≤ 2064) (hF : xF K O f o) (hc : c0 ≤ f) (hw0 : 0 < w) (hw1 : w < 2 ^ 29) (hfr : f ≤ r * w + w) : ZI (S := (Nat → Int32)) l yX1_runsLeft cX1_runsLeft 4 rM_runsLeft D classes (mt cr) [.ref (bd 0)] (mw bd cr w n K V O LF th (nI f) spl held rd (nI c0) cur nk nv gc gu gl gm) (fun v _ => v = nI (rw_open w (rnn r f) o c0 (f - c0))) (fun L1 => (mw bd cr w n K V O L1 th (nI f) spl held rd (nI c0) cur nk nv gc gu gl gm)) := by
  refine ZI.of (by decide +kernel) (Nat.le_of_ble_eq_true rfl) ?_
  intro p e s m args below meth c A Q ls C0 hK hP hD hS hA hl hret
  have hx := C0.1
  have hb := C0.2.1
  have hl : lv_has ls 4 [(0, .ref (bd 0))] := hl
  refine lv_iconst (v := 0) hx hb dX1_runsLeft_0 (by decide) ?_
  refine lv_istore_n (lv' := [(1, .int 0), (0, .ref (bd 0))]) hx hb dX1_runsLeft_1 rfl hl (by decide) rfl (fun ls hl => ?_)
  have loop : ∀ (NN : Nat) (j : Nat) (L1 : Nat → Int32) (H : Heap) (locs : List Loc) (ls : Array Slot), (j ≤ f ∧ ∀ i, i < j → L1 i = 0) → f - j < NN → va_P D classes (mw bd cr w n K V O L1 th (nI f) spl held rd (nI c0) cur nk nv gc gu gl gm) H → va_D A (mw bd cr w n K V O L1 th (nI f) spl held rd (nI c0) cur nk nv gc gu gl gm) → va_S A s.heap H locs → lv_has ls 4 [(1, .int (nI j)), (0, .ref (bd 0))] → W p l e rM_runsLeft s m args below meth c H locs 0 0 Q (F0 m 2 ls []) := by
    intro N2
    induction N2 with
    | zero => intro j L1 H locs ls hI hN; exact absurd hN (Nat.not_lt_zero _)
    | succ N2 ih2 =>
      intro j L1 H locs ls hI hN2 hP hD hS hl
      obtain ⟨i1, i2⟩ := hI
      refine lv_iload_n hx hb dX1_runsLeft_2 rfl (lv_at hl 0 rfl) ?_
      refine lv_aload_n hx hb dX1_runsLeft_3 rfl (lv_at hl 1 rfl) ?_
      refine z_get C0 zt_x1 hK hP 0 rfl rfl 3 (by decide) fl_X1_33 rfl dX1_runsLeft_4 ?_
      refine lv_icmp_ge (tgt := 23) hx hb dX1_runsLeft_7 (by decide) (fun c1 => ?_) (fun c1 => ?_)
      · have c1 := zle c1 (by omega) (by omega)
        have ej : j = f := by omega
        rw [ej] at i2
        refine lv_iconst (v := 0) hx hb dX1_runsLeft_23 (by decide) ?_
        refine lv_istore_n (lv' := [(1, .int 0), (0, .ref (bd 0))]) hx hb dX1_runsLeft_24 rfl hl (by decide) rfl (fun ls hl => ?_)
        refine lv_aload_n hx hb dX1_runsLeft_25 rfl (lv_at hl 1 rfl) ?_
        refine z_get C0 zt_x1 hK hP 0 rfl rfl 7 (by decide) fl_X1_46 rfl dX1_runsLeft_26 ?_
        refine lv_istore_n (lv' := [(2, .int (nI c0)), (1, .int 0), (0, .ref (bd 0))]) hx hb dX1_runsLeft_29 rfl hl (by decide) rfl (fun ls hl => ?_)
        have loop : ∀ (NN : Nat) (mm : Nat) (L2 : Nat → Int32) (H : Heap) (locs : List Loc) (ls : Array Slot), (c0 + mm ≤ f ∧ ∀ j, j < f → L2 j = if 0 < px_cnt (rw_P w j) o c0 mm then 1 else 0) → f - mm < NN → va_P D classes (mw bd cr w n K V O L2 th (nI f) spl held rd (nI c0) cur nk nv gc gu gl gm) H → va_D A (mw bd cr w n K V O L2 th (nI f) spl held rd (nI c0) cur nk nv gc gu gl gm) → va_S A s.heap H locs → lv_has ls 4 [(2, .int (nI (c0 + mm))), (1, .int (nI (rw_open w (rnn r f) o c0 mm))), (0, .ref (bd 0))] → W p l e rM_runsLeft s m args below meth c H locs 0 0 Q (F0 m 30 ls []) := by
          intro N30
          induction N30 with
          | zero => intro mm L2 H locs ls hI hN; exact absurd hN (Nat.not_lt_zero _)
          | succ N30 ih30 =>
            intro mm L2 H locs ls hI hN30 hP hD hS hl
            obtain ⟨k1, k2⟩ := hI
            refine lv_iload_n hx hb dX1_runsLeft_30 rfl (lv_at hl 0 rfl) ?_
            refine lv_aload_n hx hb dX1_runsLeft_31 rfl (lv_at hl 2 rfl) ?_
            refine z_get C0 zt_x1 hK hP 0 rfl rfl 3 (by decide) fl_X1_33 rfl dX1_runsLeft_32 ?_
            refine lv_icmp_ge (tgt := 80) hx hb dX1_runsLeft_35 (by decide) (fun c2 => ?_) (fun c2 => ?_)
            · have c2 := zle c2 (by omega) (by omega)
              have em : mm = f - c0 := by omega
              refine lv_iload_n hx hb dX1_runsLeft_80 rfl (lv_at hl 1 rfl) ?_
              exact hret _ (L2) _ _ _ _ hP hD hS (by rw [em]) dX1_runsLeft_81
            · have c2 := znle c2 (by omega) (by omega)
              have hoc : o (c0 + mm) < f := hF.rng (by omega)
              have hdv : o (c0 + mm) / w ≤ o (c0 + mm) := Nat.div_le_self _ _
              have e0 : rnn r f = r + 1 := by unfold rnn; rw [if_neg (by omega)]
              have hjr : o (c0 + mm) / w < rnn r f := by rw [e0]; exact (Nat.div_lt_iff_lt_mul hw0).mpr (by rw [Nat.succ_mul]; omega)
              obtain ⟨u1, u2⟩ := rw_more (w := w) (rn := rnn r f) (c := c0) (m := mm) (o := o) hjr
              have hk2 := k2 (o (c0 + mm) / w) (by omega)
              refine lv_aload_n hx hb dX1_runsLeft_38 rfl (lv_at hl 2 rfl) ?_
              refine z_get C0 zt_x1 hK hP 0 rfl rfl 17 (by decide) fl_X1_16 rfl dX1_runsLeft_39 ?_
              refine lv_iload_n hx hb dX1_runsLeft_42 rfl (lv_at hl 0 rfl) ?_
              refine z_ild C0 hK hP 3 2 rfl rfl (j := (c0 + mm)) (by omega) (by decide) dX1_runsLeft_43 ?_
              refine z_eq (show (O (c0 + mm)) = nI (o (c0 + mm)) from hF.1 _ (by omega)) ?_
              refine lv_aload_n hx hb dX1_runsLeft_44 rfl (lv_at hl 2 rfl) ?_
              refine z_get C0 zt_x1 hK hP 0 rfl rfl 1 (by decide) fl_X1_23 rfl dX1_runsLeft_45 ?_
              refine lv_idiv hx hb dX1_runsLeft_48 (nI_ne0 hw0 (by omega)) ?_
              refine z_eq (show ((nI (o (c0 + mm))) / (nI w)) = nI (o (c0 + mm) / w) from pk_div (by omega) hw0 (by omega)) ?_
              refine lv_istore_n (lv' := [(3, .int (nI (o (c0 + mm) / w))), (2, .int (nI (c0 + mm))), (1, .int (nI (rw_open w (rnn r f) o c0 mm))), (0, .ref (bd 0))]) hx hb dX1_runsLeft_49 rfl hl (by decide) rfl (fun ls hl => ?_)
              refine lv_aload_n hx hb dX1_runsLeft_50 rfl (lv_at hl 3 rfl) ?_
              refine z_get C0 zt_x1 hK hP 0 rfl rfl 18 (by decide) fl_X1_19 rfl dX1_runsLeft_51 ?_
              refine lv_iload_n hx hb dX1_runsLeft_54 rfl (lv_at hl 0 rfl) ?_
              refine z_bld C0 hK hP 4 3 rfl rfl (j := (o (c0 + mm) / w)) (by omega) (by decide) dX1_runsLeft_55 ?_
              refine lv_if_eq (tgt := 63) hx hb dX1_runsLeft_56 (by decide) (fun c3 => ?_) (fun c3 => ?_)
              · have hcz : px_cnt (rw_P w (o (c0 + mm) / w)) o c0 mm = 0 := by
                  rw [hk2] at c3
                  rcases Nat.eq_zero_or_pos (px_cnt (rw_P w (o (c0 + mm) / w)) o c0 mm) with q | q
                  · exact q
                  · rw [if_pos q] at c3
                    exact absurd c3 (by decide)
                rw [if_pos hcz] at u2
                refine lv_iload_n hx hb dX1_runsLeft_63 rfl (lv_at hl 2 rfl) ?_
                refine lv_iconst (v := 1) hx hb dX1_runsLeft_64 (by decide) ?_
                refine lv_iadd hx hb dX1_runsLeft_65 ?_
                refine z_eq (show ((nI (rw_open w (rnn r f) o c0 mm)) + 1) = nI (rw_open w (rnn r f) o c0 (mm + 1)) from by rw [u2]; exact nI_1 _) ?_
                refine lv_istore_n (lv' := [(1, .int (nI (rw_open w (rnn r f) o c0 (mm + 1)))), (3, .int (nI (o (c0 + mm) / w))), (2, .int (nI (c0 + mm))), (0, .ref (bd 0))]) hx hb dX1_runsLeft_66 rfl hl (by decide) rfl (fun ls hl => ?_)
                refine lv_aload_n hx hb dX1_runsLeft_67 rfl (lv_at hl 3 rfl) ?_
                refine z_get C0 zt_x1 hK hP 0 rfl rfl 18 (by decide) fl_X1_19 rfl dX1_runsLeft_68 ?_
                refine lv_iload_n hx hb dX1_runsLeft_71 rfl (lv_at hl 1 rfl) ?_
                refine lv_iconst (v := 1) hx hb dX1_runsLeft_72 (by decide) ?_
                refine z_bst C0 hK hP hD hS 4 3 rfl rfl (j := (o (c0 + mm) / w)) (by omega) (by decide) (by rfl) dX1_runsLeft_73 (fun H locs hP hD hS => ?_)
                have hP : va_P D classes (mw bd cr w n K V O (upd L2 (o (c0 + mm) / w) 1) th (nI f) spl held rd (nI c0) cur nk nv gc gu gl gm) H := hP
                have hD : va_D A (mw bd cr w n K V O (upd L2 (o (c0 + mm) / w) 1) th (nI f) spl held rd (nI c0) cur nk nv gc gu gl gm) := hD
                refine lv_iinc (v := nI (c0 + (mm + 1))) (lv' := [(2, .int (nI (c0 + (mm + 1)))), (1, .int (nI (rw_open w (rnn r f) o c0 (mm + 1)))), (3, .int (nI (o (c0 + mm) / w))), (0, .ref (bd 0))]) hx hb dX1_runsLeft_74 hl (k := 2) rfl (show (nI (c0 + mm)) + Int32.ofInt (1) = nI (c0 + (mm + 1)) from (congrArg ((nI (c0 + mm)) + ·) (by decide : Int32.ofInt (1) = 1)).trans (nI_1 _)) (by decide) rfl (fun ls hl => ?_)
                refine lv_goto (tgt := 30) hx hb dX1_runsLeft_77 (by decide) ?_
                exact ih30 (mm + 1) (upd L2 (o (c0 + mm) / w) 1) _ _ _ (⟨by omega, fun j hj => by rw [u1 j]; by_cases q : j = o (c0 + mm) / w; (rw [q, upd_eq, if_pos rfl, if_pos (by omega)]); (rw [upd_ne q, if_neg q, Nat.add_zero]; exact k2 j hj)⟩) (by omega) hP hD hS (lv_sub hl [0, 1, 3] rfl)
              · have hcz : ¬ px_cnt (rw_P w (o (c0 + mm) / w)) o c0 mm = 0 := by
                  intro q
                  rw [hk2, if_neg (by omega)] at c3
                  exact c3 rfl
                rw [if_neg hcz, Nat.add_zero] at u2
                refine lv_iload_n hx hb dX1_runsLeft_59 rfl (lv_at hl 2 rfl) ?_
                refine z_eq (show (nI (rw_open w (rnn r f) o c0 mm)) = nI (rw_open w (rnn r f) o c0 (mm + 1)) from by rw [u2]; rfl) ?_
                refine lv_goto (tgt := 66) hx hb dX1_runsLeft_60 (by decide) ?_
                refine lv_istore_n (lv' := [(1, .int (nI (rw_open w (rnn r f) o c0 (mm + 1)))), (3, .int (nI (o (c0 + mm) / w))), (2, .int (nI (c0 + mm))), (0, .ref (bd 0))]) hx hb dX1_runsLeft_66 rfl hl (by decide) rfl (fun ls hl => ?_)
                refine lv_aload_n hx hb dX1_runsLeft_67 rfl (lv_at hl 3 rfl) ?_
                refine z_get C0 zt_x1 hK hP 0 rfl rfl 18 (by decide) fl_X1_19 rfl dX1_runsLeft_68 ?_
                refine lv_iload_n hx hb dX1_runsLeft_71 rfl (lv_at hl 1 rfl) ?_
                refine lv_iconst (v := 1) hx hb dX1_runsLeft_72 (by decide) ?_
                refine z_bst C0 hK hP hD hS 4 3 rfl rfl (j := (o (c0 + mm) / w)) (by omega) (by decide) (by rfl) dX1_runsLeft_73 (fun H locs hP hD hS => ?_)
                have hP : va_P D classes (mw bd cr w n K V O (upd L2 (o (c0 + mm) / w) 1) th (nI f) spl held rd (nI c0) cur nk nv gc gu gl gm) H := hP
                have hD : va_D A (mw bd cr w n K V O (upd L2 (o (c0 + mm) / w) 1) th (nI f) spl held rd (nI c0) cur nk nv gc gu gl gm) := hD
                refine lv_iinc (v := nI (c0 + (mm + 1))) (lv' := [(2, .int (nI (c0 + (mm + 1)))), (1, .int (nI (rw_open w (rnn r f) o c0 (mm + 1)))), (3, .int (nI (o (c0 + mm) / w))), (0, .ref (bd 0))]) hx hb dX1_runsLeft_74 hl (k := 2) rfl (show (nI (c0 + mm)) + Int32.ofInt (1) = nI (c0 + (mm + 1)) from (congrArg ((nI (c0 + mm)) + ·) (by decide : Int32.ofInt (1) = 1)).trans (nI_1 _)) (by decide) rfl (fun ls hl => ?_)
                refine lv_goto (tgt := 30) hx hb dX1_runsLeft_77 (by decide) ?_
                exact ih30 (mm + 1) (upd L2 (o (c0 + mm) / w) 1) _ _ _ (⟨by omega, fun j hj => by rw [u1 j]; by_cases q : j = o (c0 + mm) / w; (rw [q, upd_eq, if_pos rfl, if_pos (by omega)]); (rw [upd_ne q, if_neg q, Nat.add_zero]; exact k2 j hj)⟩) (by omega) hP hD hS (lv_sub hl [0, 1, 3] rfl)
        exact loop _ 0 L1 _ _ _ (⟨by omega, fun j hj => by rw [i2 j hj]; rfl⟩) (Nat.lt_succ_self _) hP hD hS (lv_sub hl [0, 1, 2] (by rw [rw_open_0]; rfl))
      · have c1 := znle c1 (by omega) (by omega)
        refine lv_aload_n hx hb dX1_runsLeft_10 rfl (lv_at hl 1 rfl) ?_
        refine z_get C0 zt_x1 hK hP 0 rfl rfl 18 (by decide) fl_X1_19 rfl dX1_runsLeft_11 ?_
        refine lv_iload_n hx hb dX1_runsLeft_14 rfl (lv_at hl 0 rfl) ?_
        refine lv_iconst (v := 0) hx hb dX1_runsLeft_15 (by decide) ?_
        refine z_bst C0 hK hP hD hS 4 3 rfl rfl (j := j) (by omega) (by decide) (by rfl) dX1_runsLeft_16 (fun H locs hP hD hS => ?_)
        have hP : va_P D classes (mw bd cr w n K V O (upd L1 j 0) th (nI f) spl held rd (nI c0) cur nk nv gc gu gl gm) H := hP
        have hD : va_D A (mw bd cr w n K V O (upd L1 j 0) th (nI f) spl held rd (nI c0) cur nk nv gc gu gl gm) := hD
        refine lv_iinc (v := nI (j + 1)) (lv' := [(1, .int (nI (j + 1))), (0, .ref (bd 0))]) hx hb dX1_runsLeft_17 hl (k := 0) rfl (show (nI j) + Int32.ofInt (1) = nI (j + 1) from (congrArg ((nI j) + ·) (by decide : Int32.ofInt (1) = 1)).trans (nI_1 j)) (by decide) rfl (fun ls hl => ?_)
        refine lv_goto (tgt := 2) hx hb dX1_runsLeft_20 (by decide) ?_
        exact ih2 (j + 1) (upd L1 j 0) _ _ _ (⟨by omega, fun i h => by rcases Nat.lt_or_ge i j with q | q; (rw [upd_ne (by omega)]; exact i2 i q); (rw [show i = j by omega, upd_eq])⟩) (by omega) hP hD hS (lv_sub hl [0, 1] rfl)
  exact loop _ 0 LF _ _ _ (⟨Nat.zero_le _, fun i h => absurd h (Nat.not_lt_zero i)⟩) (Nat.lt_succ_self _) hP hD hS (lv_sub hl [0, 1] (rfl))
abbrev rM_count : Room := { frames := 1, cells := 0, slots := 0, locals := 23 }
set_option maxHeartbeats 4000000 in
set_option maxRecDepth 100000 in
theorem m_count_x (l : Launch) (D : va_G) (bd : Nat → Nat) (cr : Nat → ClassId) (w n : Nat) (K V O LF : Nat → Int32) (th fed spl held rd gone cur nk nv gc gu gl gm : Int32) (what : Int32) (hbad : what < 0 ∨ ¬ what ≤ 3) : ZI (S := Unit) l yX1_count cX1_count 2 rM_count D classes (mt cr) [.ref (bd 0), .int what] (mw bd cr w n K V O LF th fed spl held rd gone cur nk nv gc gu gl gm) (fun v _ => v = 0) (fun _ => (mw bd cr w n K V O LF 1 fed spl held rd gone cur nk nv gc gu gl gm)) := by
  refine ZI.of (by decide +kernel) (Nat.le_of_ble_eq_true rfl) ?_
  intro p e s m args below meth c A Q ls C0 hK hP hD hS hA hl hret
  have hx := C0.1
  have hb := C0.2.1
  have hl : lv_has ls 2 [(0, .ref (bd 0)), (1, .int what)] := hl
  refine lv_aload_n hx hb dX1_count_0 rfl (lv_at hl 0 rfl) ?_
  refine lv_iload_n hx hb dX1_count_1 rfl (lv_at hl 1 rfl) ?_
  refine lv_if_lt (tgt := 10) hx hb dX1_count_2 (by decide) (fun c1 => ?_) (fun c1 => ?_)
  · refine lv_iconst (v := 1) hx hb dX1_count_10 (by decide) ?_
    refine lv_goto (tgt := 15) hx hb dX1_count_11 (by decide) ?_
    refine z_put (ty := .int) C0 zt_x1 tyX1 tyX1_ok nmX1 hK hP hD hS 0 rfl rfl 0 (by decide) fl_X1_30 rfl (by decide +kernel) rfl rfl (Nat.le_of_ble_eq_true rfl) dX1_count_15 (fun H locs hP hD hS => ?_)
    have hP : va_P D classes (mw bd cr w n K V O LF 1 fed spl held rd gone cur nk nv gc gu gl gm) H := hP
    have hD : va_D A (mw bd cr w n K V O LF 1 fed spl held rd gone cur nk nv gc gu gl gm) := hD
    refine lv_aload_n hx hb dX1_count_18 rfl (lv_at hl 0 rfl) ?_
    refine z_get C0 zt_x1 hK hP 0 rfl rfl 0 (by decide) fl_X1_30 rfl dX1_count_19 ?_
    refine lv_if_le (tgt := 27) hx hb dX1_count_22 (by decide) (fun hz => False.elim (absurd hz (by decide))) (fun hz => ?_)
    refine lv_iconst (v := 0) hx hb dX1_count_25 (by decide) ?_
    exact hret _ (()) _ _ _ _ hP hD hS (rfl) dX1_count_26
  · refine lv_iload_n hx hb dX1_count_5 rfl (lv_at hl 1 rfl) ?_
    refine lv_iconst (v := 3) hx hb dX1_count_6 (by decide) ?_
    refine lv_icmp_le (tgt := 14) hx hb dX1_count_7 (by decide) (fun c2 => ?_) (fun c2 => ?_)
    · exact absurd c2 (hbad.resolve_left c1)
    · refine lv_iconst (v := 1) hx hb dX1_count_10 (by decide) ?_
      refine lv_goto (tgt := 15) hx hb dX1_count_11 (by decide) ?_
      refine z_put (ty := .int) C0 zt_x1 tyX1 tyX1_ok nmX1 hK hP hD hS 0 rfl rfl 0 (by decide) fl_X1_30 rfl (by decide +kernel) rfl rfl (Nat.le_of_ble_eq_true rfl) dX1_count_15 (fun H locs hP hD hS => ?_)
      have hP : va_P D classes (mw bd cr w n K V O LF 1 fed spl held rd gone cur nk nv gc gu gl gm) H := hP
      have hD : va_D A (mw bd cr w n K V O LF 1 fed spl held rd gone cur nk nv gc gu gl gm) := hD
      refine lv_aload_n hx hb dX1_count_18 rfl (lv_at hl 0 rfl) ?_
      refine z_get C0 zt_x1 hK hP 0 rfl rfl 0 (by decide) fl_X1_30 rfl dX1_count_19 ?_
      refine lv_if_le (tgt := 27) hx hb dX1_count_22 (by decide) (fun hz => False.elim (absurd hz (by decide))) (fun hz => ?_)
      refine lv_iconst (v := 0) hx hb dX1_count_25 (by decide) ?_
      exact hret _ (()) _ _ _ _ hP hD hS (rfl) dX1_count_26
set_option maxHeartbeats 4000000 in
set_option maxRecDepth 100000 in
theorem m_count_0 (l : Launch) (D : va_G) (bd : Nat → Nat) (cr : Nat → ClassId) (w n : Nat) (K V O LF : Nat → Int32) (th fed spl held rd gone cur nk nv gc gu gl gm : Int32)   : ZI (S := Unit) l yX1_count cX1_count 2 rM_count D classes (mt cr) [.ref (bd 0), .int 0] (mw bd cr w n K V O LF th fed spl held rd gone cur nk nv gc gu gl gm) (fun v _ => v = fed) (fun _ => (mw bd cr w n K V O LF 0 fed spl held rd gone cur nk nv gc gu gl gm)) := by
  refine ZI.of (by decide +kernel) (Nat.le_of_ble_eq_true rfl) ?_
  intro p e s m args below meth c A Q ls C0 hK hP hD hS hA hl hret
  have hx := C0.1
  have hb := C0.2.1
  have hl : lv_has ls 2 [(0, .ref (bd 0)), (1, .int 0)] := hl
  refine lv_aload_n hx hb dX1_count_0 rfl (lv_at hl 0 rfl) ?_
  refine lv_iload_n hx hb dX1_count_1 rfl (lv_at hl 1 rfl) ?_
  refine lv_if_lt (tgt := 10) hx hb dX1_count_2 (by decide) (fun hz => False.elim (absurd hz (by decide))) (fun hz => ?_)
  refine lv_iload_n hx hb dX1_count_5 rfl (lv_at hl 1 rfl) ?_
  refine lv_iconst (v := 3) hx hb dX1_count_6 (by decide) ?_
  refine lv_icmp_le (tgt := 14) hx hb dX1_count_7 (by decide) (fun hz => ?_) (fun hz => False.elim (hz (by decide)))
  refine lv_iconst (v := 0) hx hb dX1_count_14 (by decide) ?_
  refine z_put (ty := .int) C0 zt_x1 tyX1 tyX1_ok nmX1 hK hP hD hS 0 rfl rfl 0 (by decide) fl_X1_30 rfl (by decide +kernel) rfl rfl (Nat.le_of_ble_eq_true rfl) dX1_count_15 (fun H locs hP hD hS => ?_)
  have hP : va_P D classes (mw bd cr w n K V O LF 0 fed spl held rd gone cur nk nv gc gu gl gm) H := hP
  have hD : va_D A (mw bd cr w n K V O LF 0 fed spl held rd gone cur nk nv gc gu gl gm) := hD
  refine lv_aload_n hx hb dX1_count_18 rfl (lv_at hl 0 rfl) ?_
  refine z_get C0 zt_x1 hK hP 0 rfl rfl 0 (by decide) fl_X1_30 rfl dX1_count_19 ?_
  refine lv_if_le (tgt := 27) hx hb dX1_count_22 (by decide) (fun hz => ?_) (fun hz => False.elim (hz (by decide)))
  refine lv_iload_n hx hb dX1_count_27 rfl (lv_at hl 1 rfl) ?_
  refine lv_tableIn (tgt := 56) hx hb dX1_count_28 (by decide) (by decide) rfl (by decide) ?_
  refine lv_aload_n hx hb dX1_count_56 rfl (lv_at hl 0 rfl) ?_
  refine z_get C0 zt_x1 hK hP 0 rfl rfl 3 (by decide) fl_X1_33 rfl dX1_count_57 ?_
  exact hret _ (()) _ _ _ _ hP hD hS (rfl) dX1_count_60
set_option maxHeartbeats 4000000 in
set_option maxRecDepth 100000 in
theorem m_count_1 (l : Launch) (D : va_G) (bd : Nat → Nat) (cr : Nat → ClassId) (w n : Nat) (K V O LF : Nat → Int32) (th fed spl held rd gone cur nk nv gc gu gl gm : Int32)   : ZI (S := Unit) l yX1_count cX1_count 2 rM_count D classes (mt cr) [.ref (bd 0), .int 1] (mw bd cr w n K V O LF th fed spl held rd gone cur nk nv gc gu gl gm) (fun v _ => v = spl * nI w) (fun _ => (mw bd cr w n K V O LF 0 fed spl held rd gone cur nk nv gc gu gl gm)) := by
  refine ZI.of (by decide +kernel) (Nat.le_of_ble_eq_true rfl) ?_
  intro p e s m args below meth c A Q ls C0 hK hP hD hS hA hl hret
  have hx := C0.1
  have hb := C0.2.1
  have hl : lv_has ls 2 [(0, .ref (bd 0)), (1, .int 1)] := hl
  refine lv_aload_n hx hb dX1_count_0 rfl (lv_at hl 0 rfl) ?_
  refine lv_iload_n hx hb dX1_count_1 rfl (lv_at hl 1 rfl) ?_
  refine lv_if_lt (tgt := 10) hx hb dX1_count_2 (by decide) (fun hz => False.elim (absurd hz (by decide))) (fun hz => ?_)
  refine lv_iload_n hx hb dX1_count_5 rfl (lv_at hl 1 rfl) ?_
  refine lv_iconst (v := 3) hx hb dX1_count_6 (by decide) ?_
  refine lv_icmp_le (tgt := 14) hx hb dX1_count_7 (by decide) (fun hz => ?_) (fun hz => False.elim (hz (by decide)))
  refine lv_iconst (v := 0) hx hb dX1_count_14 (by decide) ?_
  refine z_put (ty := .int) C0 zt_x1 tyX1 tyX1_ok nmX1 hK hP hD hS 0 rfl rfl 0 (by decide) fl_X1_30 rfl (by decide +kernel) rfl rfl (Nat.le_of_ble_eq_true rfl) dX1_count_15 (fun H locs hP hD hS => ?_)
  have hP : va_P D classes (mw bd cr w n K V O LF 0 fed spl held rd gone cur nk nv gc gu gl gm) H := hP
  have hD : va_D A (mw bd cr w n K V O LF 0 fed spl held rd gone cur nk nv gc gu gl gm) := hD
  refine lv_aload_n hx hb dX1_count_18 rfl (lv_at hl 0 rfl) ?_
  refine z_get C0 zt_x1 hK hP 0 rfl rfl 0 (by decide) fl_X1_30 rfl dX1_count_19 ?_
  refine lv_if_le (tgt := 27) hx hb dX1_count_22 (by decide) (fun hz => ?_) (fun hz => False.elim (hz (by decide)))
  refine lv_iload_n hx hb dX1_count_27 rfl (lv_at hl 1 rfl) ?_
  refine lv_tableIn (tgt := 61) hx hb dX1_count_28 (by decide) (by decide) rfl (by decide) ?_
  refine lv_aload_n hx hb dX1_count_61 rfl (lv_at hl 0 rfl) ?_
  refine z_get C0 zt_x1 hK hP 0 rfl rfl 4 (by decide) fl_X1_36 rfl dX1_count_62 ?_
  refine lv_aload_n hx hb dX1_count_65 rfl (lv_at hl 0 rfl) ?_
  refine z_get C0 zt_x1 hK hP 0 rfl rfl 1 (by decide) fl_X1_23 rfl dX1_count_66 ?_
  refine lv_imul hx hb dX1_count_69 ?_
  exact hret _ (()) _ _ _ _ hP hD hS (rfl) dX1_count_70
set_option maxHeartbeats 4000000 in
set_option maxRecDepth 100000 in
theorem m_count_2 (l : Launch) (D : va_G) (bd : Nat → Nat) (cr : Nat → ClassId) (w n : Nat) (K V O LF : Nat → Int32) (th fed spl held rd gone cur nk nv gc gu gl gm : Int32)   : ZI (S := Unit) l yX1_count cX1_count 2 rM_count D classes (mt cr) [.ref (bd 0), .int 2] (mw bd cr w n K V O LF th fed spl held rd gone cur nk nv gc gu gl gm) (fun v _ => v = gone) (fun _ => (mw bd cr w n K V O LF 0 fed spl held rd gone cur nk nv gc gu gl gm)) := by
  refine ZI.of (by decide +kernel) (Nat.le_of_ble_eq_true rfl) ?_
  intro p e s m args below meth c A Q ls C0 hK hP hD hS hA hl hret
  have hx := C0.1
  have hb := C0.2.1
  have hl : lv_has ls 2 [(0, .ref (bd 0)), (1, .int 2)] := hl
  refine lv_aload_n hx hb dX1_count_0 rfl (lv_at hl 0 rfl) ?_
  refine lv_iload_n hx hb dX1_count_1 rfl (lv_at hl 1 rfl) ?_
  refine lv_if_lt (tgt := 10) hx hb dX1_count_2 (by decide) (fun hz => False.elim (absurd hz (by decide))) (fun hz => ?_)
  refine lv_iload_n hx hb dX1_count_5 rfl (lv_at hl 1 rfl) ?_
  refine lv_iconst (v := 3) hx hb dX1_count_6 (by decide) ?_
  refine lv_icmp_le (tgt := 14) hx hb dX1_count_7 (by decide) (fun hz => ?_) (fun hz => False.elim (hz (by decide)))
  refine lv_iconst (v := 0) hx hb dX1_count_14 (by decide) ?_
  refine z_put (ty := .int) C0 zt_x1 tyX1 tyX1_ok nmX1 hK hP hD hS 0 rfl rfl 0 (by decide) fl_X1_30 rfl (by decide +kernel) rfl rfl (Nat.le_of_ble_eq_true rfl) dX1_count_15 (fun H locs hP hD hS => ?_)
  have hP : va_P D classes (mw bd cr w n K V O LF 0 fed spl held rd gone cur nk nv gc gu gl gm) H := hP
  have hD : va_D A (mw bd cr w n K V O LF 0 fed spl held rd gone cur nk nv gc gu gl gm) := hD
  refine lv_aload_n hx hb dX1_count_18 rfl (lv_at hl 0 rfl) ?_
  refine z_get C0 zt_x1 hK hP 0 rfl rfl 0 (by decide) fl_X1_30 rfl dX1_count_19 ?_
  refine lv_if_le (tgt := 27) hx hb dX1_count_22 (by decide) (fun hz => ?_) (fun hz => False.elim (hz (by decide)))
  refine lv_iload_n hx hb dX1_count_27 rfl (lv_at hl 1 rfl) ?_
  refine lv_tableIn (tgt := 71) hx hb dX1_count_28 (by decide) (by decide) rfl (by decide) ?_
  refine lv_aload_n hx hb dX1_count_71 rfl (lv_at hl 0 rfl) ?_
  refine z_get C0 zt_x1 hK hP 0 rfl rfl 7 (by decide) fl_X1_46 rfl dX1_count_72 ?_
  exact hret _ (()) _ _ _ _ hP hD hS (rfl) dX1_count_75
set_option maxHeartbeats 4000000 in
set_option maxRecDepth 100000 in
theorem m_count_3u (l : Launch) (D : va_G) (bd : Nat → Nat) (cr : Nat → ClassId) (w n : Nat) (K V O LF : Nat → Int32) (th fed spl held gone cur nk nv gc gu gl gm : Int32)   : ZI (S := Unit) l yX1_count cX1_count 2 rM_count D classes (mt cr) [.ref (bd 0), .int 3] (mw bd cr w n K V O LF th fed spl held 0 gone cur nk nv gc gu gl gm) (fun v _ => v = spl) (fun _ => (mw bd cr w n K V O LF 0 fed spl held 0 gone cur nk nv gc gu gl gm)) := by
  refine ZI.of (by decide +kernel) (Nat.le_of_ble_eq_true rfl) ?_
  intro p e s m args below meth c A Q ls C0 hK hP hD hS hA hl hret
  have hx := C0.1
  have hb := C0.2.1
  have hl : lv_has ls 2 [(0, .ref (bd 0)), (1, .int 3)] := hl
  refine lv_aload_n hx hb dX1_count_0 rfl (lv_at hl 0 rfl) ?_
  refine lv_iload_n hx hb dX1_count_1 rfl (lv_at hl 1 rfl) ?_
  refine lv_if_lt (tgt := 10) hx hb dX1_count_2 (by decide) (fun hz => False.elim (absurd hz (by decide))) (fun hz => ?_)
  refine lv_iload_n hx hb dX1_count_5 rfl (lv_at hl 1 rfl) ?_
  refine lv_iconst (v := 3) hx hb dX1_count_6 (by decide) ?_
  refine lv_icmp_le (tgt := 14) hx hb dX1_count_7 (by decide) (fun hz => ?_) (fun hz => False.elim (hz (by decide)))
  refine lv_iconst (v := 0) hx hb dX1_count_14 (by decide) ?_
  refine z_put (ty := .int) C0 zt_x1 tyX1 tyX1_ok nmX1 hK hP hD hS 0 rfl rfl 0 (by decide) fl_X1_30 rfl (by decide +kernel) rfl rfl (Nat.le_of_ble_eq_true rfl) dX1_count_15 (fun H locs hP hD hS => ?_)
  have hP : va_P D classes (mw bd cr w n K V O LF 0 fed spl held 0 gone cur nk nv gc gu gl gm) H := hP
  have hD : va_D A (mw bd cr w n K V O LF 0 fed spl held 0 gone cur nk nv gc gu gl gm) := hD
  refine lv_aload_n hx hb dX1_count_18 rfl (lv_at hl 0 rfl) ?_
  refine z_get C0 zt_x1 hK hP 0 rfl rfl 0 (by decide) fl_X1_30 rfl dX1_count_19 ?_
  refine lv_if_le (tgt := 27) hx hb dX1_count_22 (by decide) (fun hz => ?_) (fun hz => False.elim (hz (by decide)))
  refine lv_iload_n hx hb dX1_count_27 rfl (lv_at hl 1 rfl) ?_
  refine lv_tableOut (tgt := 76) hx hb dX1_count_28 (by decide) (by decide) ?_
  refine lv_aload_n hx hb dX1_count_76 rfl (lv_at hl 0 rfl) ?_
  refine z_get C0 zt_x1 hK hP 0 rfl rfl 6 (by decide) fl_X1_42 rfl dX1_count_77 ?_
  refine lv_if_eq (tgt := 90) hx hb dX1_count_80 (by decide) (fun hz => ?_) (fun hz => False.elim (hz rfl))
  refine lv_aload_n hx hb dX1_count_90 rfl (lv_at hl 0 rfl) ?_
  refine z_get C0 zt_x1 hK hP 0 rfl rfl 4 (by decide) fl_X1_36 rfl dX1_count_91 ?_
  exact hret _ (()) _ _ _ _ hP hD hS (rfl) dX1_count_94
set_option maxHeartbeats 4000000 in
set_option maxRecDepth 100000 in
theorem m_count_3s (l : Launch) (D : va_G) (bd : Nat → Nat) (cr : Nat → ClassId) (w n : Nat) (K V O LF : Nat → Int32) (th spl held cur nk nv gc gu gl gm : Int32) (f c0 r : Nat) (o : Nat → Nat) (hf : f ≤ 2064) (hF : xF K O f o) (hc : c0 ≤ f) (hw0 : 0 < w) (hw1 : w < 2 ^ 29) (hfr : f ≤ r * w + w) : ZI (S := (Nat → Int32)) l yX1_count cX1_count 2 rM_count D classes (mt cr) [.ref (bd 0), .int 3] (mw bd cr w n K V O LF th (nI f) spl held 1 (nI c0) cur nk nv gc gu gl gm) (fun v _ => v = nI (rw_open w (rnn r f) o c0 (f - c0))) (fun L1 => (mw bd cr w n K V O L1 0 (nI f) spl held 1 (nI c0) cur nk nv gc gu gl gm)) := by
  refine ZI.of (by decide +kernel) (Nat.le_of_ble_eq_true rfl) ?_
  intro p e s m args below meth c A Q ls C0 hK hP hD hS hA hl hret
  have hx := C0.1
  have hb := C0.2.1
  have hl : lv_has ls 2 [(0, .ref (bd 0)), (1, .int 3)] := hl
  refine lv_aload_n hx hb dX1_count_0 rfl (lv_at hl 0 rfl) ?_
  refine lv_iload_n hx hb dX1_count_1 rfl (lv_at hl 1 rfl) ?_
  refine lv_if_lt (tgt := 10) hx hb dX1_count_2 (by decide) (fun hz => False.elim (absurd hz (by decide))) (fun hz => ?_)
  refine lv_iload_n hx hb dX1_count_5 rfl (lv_at hl 1 rfl) ?_
  refine lv_iconst (v := 3) hx hb dX1_count_6 (by decide) ?_
  refine lv_icmp_le (tgt := 14) hx hb dX1_count_7 (by decide) (fun hz => ?_) (fun hz => False.elim (hz (by decide)))
  refine lv_iconst (v := 0) hx hb dX1_count_14 (by decide) ?_
  refine z_put (ty := .int) C0 zt_x1 tyX1 tyX1_ok nmX1 hK hP hD hS 0 rfl rfl 0 (by decide) fl_X1_30 rfl (by decide +kernel) rfl rfl (Nat.le_of_ble_eq_true rfl) dX1_count_15 (fun H locs hP hD hS => ?_)
  have hP : va_P D classes (mw bd cr w n K V O LF 0 (nI f) spl held 1 (nI c0) cur nk nv gc gu gl gm) H := hP
  have hD : va_D A (mw bd cr w n K V O LF 0 (nI f) spl held 1 (nI c0) cur nk nv gc gu gl gm) := hD
  refine lv_aload_n hx hb dX1_count_18 rfl (lv_at hl 0 rfl) ?_
  refine z_get C0 zt_x1 hK hP 0 rfl rfl 0 (by decide) fl_X1_30 rfl dX1_count_19 ?_
  refine lv_if_le (tgt := 27) hx hb dX1_count_22 (by decide) (fun hz => ?_) (fun hz => False.elim (hz (by decide)))
  refine lv_iload_n hx hb dX1_count_27 rfl (lv_at hl 1 rfl) ?_
  refine lv_tableOut (tgt := 76) hx hb dX1_count_28 (by decide) (by decide) ?_
  refine lv_aload_n hx hb dX1_count_76 rfl (lv_at hl 0 rfl) ?_
  refine z_get C0 zt_x1 hK hP 0 rfl rfl 6 (by decide) fl_X1_42 rfl dX1_count_77 ?_
  refine lv_if_eq (tgt := 90) hx hb dX1_count_80 (by decide) (fun hz => False.elim (absurd hz (by decide))) (fun hz => ?_)
  refine lv_aload_n hx hb dX1_count_83 rfl (lv_at hl 0 rfl) ?_
  refine zi_callV0 (As := []) (rest := []) (q0 := 0) (ci := 1) C0 (m_runsLeft l D bd cr w n K V O LF 0 spl held 1 cur nk nv gc gu gl gm f c0 r o hf hF hc hw0 hw1 hfr) zv_X1_X1_runsLeft ⟨by decide, by decide⟩ ⟨rfl, rfl⟩ rfl hK hP hD hS hA rfl rfl rfl hl.1 rfl (Nat.le_of_ble_eq_true rfl) dX1_count_84 ⟨Nat.zero_le _, Nat.zero_le _⟩ (fun r1 L1 H locs hj hP hD hS => ?_)
  have hP : va_P D classes (mw bd cr w n K V O L1 0 (nI f) spl held 1 (nI c0) cur nk nv gc gu gl gm) H := hP
  have hD : va_D A (mw bd cr w n K V O L1 0 (nI f) spl held 1 (nI c0) cur nk nv gc gu gl gm) := hD
  refine lv_goto (tgt := 94) hx hb dX1_count_87 (by decide) ?_
  exact hret _ (L1) _ _ _ _ hP hD hS (hj) dX1_count_94
