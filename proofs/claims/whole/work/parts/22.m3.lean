abbrev rM_init : Room := { frames := 1, cells := 4, slots := 8256, locals := 12 }
set_option maxHeartbeats 4000000 in
set_option maxRecDepth 100000 in
theorem m_init (l : Launch) (D : va_G) (h0 : Nat) (w0 s0 : Int32) (w sp nr n : Nat) (hw : (if w0 < 1 then 1 else if 64 < w0 then 64 else w0) = nI w) (hs : (if s0 < 1 then 1 else if 2000 < s0 then 2000 else s0) = nI sp) (hw0 : 0 < w) (hw1 : w ≤ 64) (hs1 : sp ≤ 2000) (hnr : nr = sp / w + 1) (hnn : n = w * nr) (hn : n ≤ 2064) : ZN (S := ((Nat → Nat) × (Nat → ClassId))) l yX1_init cX1_init 5 rM_init D classes [.ref h0, .int w0, .int s0] [(h0, .inr (1, [.int 0, .int 0, .int 0, .int 0, .int 0, .int 0, .int 0, .int 0, .int 0, .int 0, .int 0, .int 0, .int 0, .int 0, .int 0, .null, .null, .null, .null]))] (fun u => u.1 0 = h0) (fun u => mw u.1 u.2 w n (fun _ => 0) (fun _ => 0) (fun _ => 0) (fun _ => 0) 0 0 0 0 0 0 0 0 0 0 0 0 0) (fun u => mt u.2) := by
  refine ZN.of (by decide +kernel) (Nat.le_of_ble_eq_true rfl) ?_
  intro p e s m args below meth c A Q ls C0 hname hK hP hD hS hA hl hret
  have hx := C0.1
  have hb := C0.2.1
  have hl : lv_has ls 5 [(0, .ref h0), (1, .int w0), (2, .int s0)] := hl
  refine lv_aload_n hx hb dX1_init_0 rfl (lv_at hl 0 rfl) ?_
  refine W.objInit hx hb C0.2.2.2.1 (C0.2.2.2.2 _ zk_ol1) (C0.2.2.2.2 _ zk_oi) (C0.2.2.2.2 _ zk_oc) rfl (hl.1.trans C0.2.2.1.symm) rfl dX1_init_1 (by decide) (Nat.le_of_ble_eq_true rfl) ?_
  refine W.eq (g2 := F0 m 4 ls []) rfl ?_
  refine lv_aload_n hx hb dX1_init_4 rfl (lv_at hl 0 rfl) ?_
  refine lv_sipush (v := 2064) hx hb dX1_init_5 (by decide) ?_
  refine z_eq (show (2064) = nI 2064 from rfl) ?_
  refine z_newi (n := 2064) C0 zk_ai hK hP hD hS hA (by omega) (show 0 + 1 ≤ 4 by decide) (show 0 + 2064 ≤ 8256 by omega) dX1_init_8 (fun q1 e1 H hK hP hD hS => ?_)
  have hP : va_P D classes [(h0, .inr (1, [.int 0, .int 0, .int 0, .int 0, .int 0, .int 0, .int 0, .int 0, .int 0, .int 0, .int 0, .int 0, .int 0, .int 0, .int 0, .null, .null, .null, .null])), (q1, .inl (e1, 2064, .inl (fun _ => 0)))] H := hP
  have hD : va_D A [(h0, .inr (1, [.int 0, .int 0, .int 0, .int 0, .int 0, .int 0, .int 0, .int 0, .int 0, .int 0, .int 0, .int 0, .int 0, .int 0, .int 0, .null, .null, .null, .null])), (q1, .inl (e1, 2064, .inl (fun _ => 0)))] := hD
  have hK : va_K D classes [(e1, .int)] s := hK
  refine W.widen (k := 1) (n := 2064) (by omega) (by omega) ?_
  refine z_putF (ty := .array .int) C0 zt_x1 tyX1 tyX1_ok nmX1 hK hP hD hS hname 0 rfl rfl 15 (by decide) fl_X1_7 rfl rfl (by decide +kernel) rfl rfl (Nat.le_of_ble_eq_true rfl) dX1_init_10 (fun H locs hP hD hS => ?_)
  have hP : va_P D classes [(h0, .inr (1, [.int 0, .int 0, .int 0, .int 0, .int 0, .int 0, .int 0, .int 0, .int 0, .int 0, .int 0, .int 0, .int 0, .int 0, .int 0, .ref q1, .null, .null, .null])), (q1, .inl (e1, 2064, .inl (fun _ => 0)))] H := hP
  have hD : va_D A [(h0, .inr (1, [.int 0, .int 0, .int 0, .int 0, .int 0, .int 0, .int 0, .int 0, .int 0, .int 0, .int 0, .int 0, .int 0, .int 0, .int 0, .ref q1, .null, .null, .null])), (q1, .inl (e1, 2064, .inl (fun _ => 0)))] := hD
  refine lv_aload_n hx hb dX1_init_13 rfl (lv_at hl 0 rfl) ?_
  refine lv_sipush (v := 2064) hx hb dX1_init_14 (by decide) ?_
  refine z_eq (show (2064) = nI 2064 from rfl) ?_
  refine z_newi (n := 2064) C0 zk_ai hK hP hD hS hA (by omega) (show 1 + 1 ≤ 4 by decide) (show 2064 + 2064 ≤ 8256 by omega) dX1_init_17 (fun q2 e2 H hK hP hD hS => ?_)
  have hP : va_P D classes [(h0, .inr (1, [.int 0, .int 0, .int 0, .int 0, .int 0, .int 0, .int 0, .int 0, .int 0, .int 0, .int 0, .int 0, .int 0, .int 0, .int 0, .ref q1, .null, .null, .null])), (q1, .inl (e1, 2064, .inl (fun _ => 0))), (q2, .inl (e2, 2064, .inl (fun _ => 0)))] H := hP
  have hD : va_D A [(h0, .inr (1, [.int 0, .int 0, .int 0, .int 0, .int 0, .int 0, .int 0, .int 0, .int 0, .int 0, .int 0, .int 0, .int 0, .int 0, .int 0, .ref q1, .null, .null, .null])), (q1, .inl (e1, 2064, .inl (fun _ => 0))), (q2, .inl (e2, 2064, .inl (fun _ => 0)))] := hD
  have hK : va_K D classes [(e1, .int), (e2, .int)] s := hK
  refine W.widen (k := 2) (n := 4128) (by omega) (by omega) ?_
  refine z_putF (ty := .array .int) C0 zt_x1 tyX1 tyX1_ok nmX1 hK hP hD hS hname 0 rfl rfl 16 (by decide) fl_X1_13 rfl rfl (by decide +kernel) rfl rfl (Nat.le_of_ble_eq_true rfl) dX1_init_19 (fun H locs hP hD hS => ?_)
  have hP : va_P D classes [(h0, .inr (1, [.int 0, .int 0, .int 0, .int 0, .int 0, .int 0, .int 0, .int 0, .int 0, .int 0, .int 0, .int 0, .int 0, .int 0, .int 0, .ref q1, .ref q2, .null, .null])), (q1, .inl (e1, 2064, .inl (fun _ => 0))), (q2, .inl (e2, 2064, .inl (fun _ => 0)))] H := hP
  have hD : va_D A [(h0, .inr (1, [.int 0, .int 0, .int 0, .int 0, .int 0, .int 0, .int 0, .int 0, .int 0, .int 0, .int 0, .int 0, .int 0, .int 0, .int 0, .ref q1, .ref q2, .null, .null])), (q1, .inl (e1, 2064, .inl (fun _ => 0))), (q2, .inl (e2, 2064, .inl (fun _ => 0)))] := hD
  refine lv_aload_n hx hb dX1_init_22 rfl (lv_at hl 0 rfl) ?_
  refine lv_sipush (v := 2064) hx hb dX1_init_23 (by decide) ?_
  refine z_eq (show (2064) = nI 2064 from rfl) ?_
  refine z_newi (n := 2064) C0 zk_ai hK hP hD hS hA (by omega) (show 2 + 1 ≤ 4 by decide) (show 4128 + 2064 ≤ 8256 by omega) dX1_init_26 (fun q3 e3 H hK hP hD hS => ?_)
  have hP : va_P D classes [(h0, .inr (1, [.int 0, .int 0, .int 0, .int 0, .int 0, .int 0, .int 0, .int 0, .int 0, .int 0, .int 0, .int 0, .int 0, .int 0, .int 0, .ref q1, .ref q2, .null, .null])), (q1, .inl (e1, 2064, .inl (fun _ => 0))), (q2, .inl (e2, 2064, .inl (fun _ => 0))), (q3, .inl (e3, 2064, .inl (fun _ => 0)))] H := hP
  have hD : va_D A [(h0, .inr (1, [.int 0, .int 0, .int 0, .int 0, .int 0, .int 0, .int 0, .int 0, .int 0, .int 0, .int 0, .int 0, .int 0, .int 0, .int 0, .ref q1, .ref q2, .null, .null])), (q1, .inl (e1, 2064, .inl (fun _ => 0))), (q2, .inl (e2, 2064, .inl (fun _ => 0))), (q3, .inl (e3, 2064, .inl (fun _ => 0)))] := hD
  have hK : va_K D classes [(e1, .int), (e2, .int), (e3, .int)] s := hK
  refine W.widen (k := 3) (n := 6192) (by omega) (by omega) ?_
  refine z_putF (ty := .array .int) C0 zt_x1 tyX1 tyX1_ok nmX1 hK hP hD hS hname 0 rfl rfl 17 (by decide) fl_X1_16 rfl rfl (by decide +kernel) rfl rfl (Nat.le_of_ble_eq_true rfl) dX1_init_28 (fun H locs hP hD hS => ?_)
  have hP : va_P D classes [(h0, .inr (1, [.int 0, .int 0, .int 0, .int 0, .int 0, .int 0, .int 0, .int 0, .int 0, .int 0, .int 0, .int 0, .int 0, .int 0, .int 0, .ref q1, .ref q2, .ref q3, .null])), (q1, .inl (e1, 2064, .inl (fun _ => 0))), (q2, .inl (e2, 2064, .inl (fun _ => 0))), (q3, .inl (e3, 2064, .inl (fun _ => 0)))] H := hP
  have hD : va_D A [(h0, .inr (1, [.int 0, .int 0, .int 0, .int 0, .int 0, .int 0, .int 0, .int 0, .int 0, .int 0, .int 0, .int 0, .int 0, .int 0, .int 0, .ref q1, .ref q2, .ref q3, .null])), (q1, .inl (e1, 2064, .inl (fun _ => 0))), (q2, .inl (e2, 2064, .inl (fun _ => 0))), (q3, .inl (e3, 2064, .inl (fun _ => 0)))] := hD
  refine lv_aload_n hx hb dX1_init_31 rfl (lv_at hl 0 rfl) ?_
  refine lv_sipush (v := 2064) hx hb dX1_init_32 (by decide) ?_
  refine z_eq (show (2064) = nI 2064 from rfl) ?_
  refine z_newz (n := 2064) C0 zk_az hK hP hD hS hA (by omega) (show 3 + 1 ≤ 4 by decide) (show 6192 + 2064 ≤ 8256 by omega) dX1_init_35 (fun q4 e4 H hK hP hD hS => ?_)
  have hP : va_P D classes [(h0, .inr (1, [.int 0, .int 0, .int 0, .int 0, .int 0, .int 0, .int 0, .int 0, .int 0, .int 0, .int 0, .int 0, .int 0, .int 0, .int 0, .ref q1, .ref q2, .ref q3, .null])), (q1, .inl (e1, 2064, .inl (fun _ => 0))), (q2, .inl (e2, 2064, .inl (fun _ => 0))), (q3, .inl (e3, 2064, .inl (fun _ => 0))), (q4, .inl (e4, 2064, .inl (fun _ => 0)))] H := hP
  have hD : va_D A [(h0, .inr (1, [.int 0, .int 0, .int 0, .int 0, .int 0, .int 0, .int 0, .int 0, .int 0, .int 0, .int 0, .int 0, .int 0, .int 0, .int 0, .ref q1, .ref q2, .ref q3, .null])), (q1, .inl (e1, 2064, .inl (fun _ => 0))), (q2, .inl (e2, 2064, .inl (fun _ => 0))), (q3, .inl (e3, 2064, .inl (fun _ => 0))), (q4, .inl (e4, 2064, .inl (fun _ => 0)))] := hD
  have hK : va_K D classes [(e1, .int), (e2, .int), (e3, .int), (e4, .boolean)] s := hK
  refine W.widen (k := 4) (n := 8256) (by omega) (by omega) ?_
  refine z_putF (ty := .array .boolean) C0 zt_x1 tyX1 tyX1_ok nmX1 hK hP hD hS hname 0 rfl rfl 18 (by decide) fl_X1_19 rfl rfl (by decide +kernel) rfl rfl (Nat.le_of_ble_eq_true rfl) dX1_init_37 (fun H locs hP hD hS => ?_)
  have hP : va_P D classes [(h0, .inr (1, [.int 0, .int 0, .int 0, .int 0, .int 0, .int 0, .int 0, .int 0, .int 0, .int 0, .int 0, .int 0, .int 0, .int 0, .int 0, .ref q1, .ref q2, .ref q3, .ref q4])), (q1, .inl (e1, 2064, .inl (fun _ => 0))), (q2, .inl (e2, 2064, .inl (fun _ => 0))), (q3, .inl (e3, 2064, .inl (fun _ => 0))), (q4, .inl (e4, 2064, .inl (fun _ => 0)))] H := hP
  have hD : va_D A [(h0, .inr (1, [.int 0, .int 0, .int 0, .int 0, .int 0, .int 0, .int 0, .int 0, .int 0, .int 0, .int 0, .int 0, .int 0, .int 0, .int 0, .ref q1, .ref q2, .ref q3, .ref q4])), (q1, .inl (e1, 2064, .inl (fun _ => 0))), (q2, .inl (e2, 2064, .inl (fun _ => 0))), (q3, .inl (e3, 2064, .inl (fun _ => 0))), (q4, .inl (e4, 2064, .inl (fun _ => 0)))] := hD
  refine lv_iload_n hx hb dX1_init_40 rfl (lv_at hl 1 rfl) ?_
  refine lv_iconst (v := 1) hx hb dX1_init_41 (by decide) ?_
  refine lv_icmp_ge (tgt := 49) hx hb dX1_init_42 (by decide) (fun c1 => ?_) (fun c1 => ?_)
  · refine lv_iload_n hx hb dX1_init_49 rfl (lv_at hl 1 rfl) ?_
    refine lv_bipush (v := 64) hx hb dX1_init_50 (by decide) ?_
    refine lv_icmp_le (tgt := 60) hx hb dX1_init_52 (by decide) (fun c2 => ?_) (fun c2 => ?_)
    · refine lv_iload_n hx hb dX1_init_60 rfl (lv_at hl 1 rfl) ?_
      refine z_eq (show (w0) = nI w from by first | (rw [← hw, if_pos (Int32.not_le.mp c1)]) | (rw [← hw, if_neg (Int32.not_lt.mpr c1), if_pos (Int32.not_le.mp c2)]) | (rw [← hw, if_neg (Int32.not_lt.mpr c1), if_neg (Int32.not_lt.mpr c2)])) ?_
      refine lv_istore_n (lv' := [(3, .int (nI w)), (0, .ref h0), (1, .int w0), (2, .int s0)]) hx hb dX1_init_61 rfl hl (by decide) rfl (fun ls hl => ?_)
      refine lv_iload_n hx hb dX1_init_62 rfl (lv_at hl 3 rfl) ?_
      refine lv_iconst (v := 1) hx hb dX1_init_63 (by decide) ?_
      refine lv_icmp_ge (tgt := 71) hx hb dX1_init_64 (by decide) (fun c3 => ?_) (fun c3 => ?_)
      · refine lv_iload_n hx hb dX1_init_71 rfl (lv_at hl 3 rfl) ?_
        refine lv_sipush (v := 2000) hx hb dX1_init_72 (by decide) ?_
        refine lv_icmp_le (tgt := 84) hx hb dX1_init_75 (by decide) (fun c4 => ?_) (fun c4 => ?_)
        · refine lv_iload_n hx hb dX1_init_84 rfl (lv_at hl 3 rfl) ?_
          refine z_eq (show (s0) = nI sp from by first | (rw [← hs, if_pos (Int32.not_le.mp c3)]) | (rw [← hs, if_neg (Int32.not_lt.mpr c3), if_pos (Int32.not_le.mp c4)]) | (rw [← hs, if_neg (Int32.not_lt.mpr c3), if_neg (Int32.not_lt.mpr c4)])) ?_
          refine lv_istore (lv' := [(4, .int (nI sp)), (3, .int (nI w)), (0, .ref h0), (1, .int w0), (2, .int s0)]) hx hb dX1_init_85 hl (by decide) rfl (fun ls hl => ?_)
          refine lv_aload_n hx hb dX1_init_87 rfl (lv_at hl 2 rfl) ?_
          refine lv_iload_n hx hb dX1_init_88 rfl (lv_at hl 1 rfl) ?_
          refine z_putF (ty := .int) C0 zt_x1 tyX1 tyX1_ok nmX1 hK hP hD hS hname 0 rfl rfl 1 (by decide) fl_X1_23 rfl rfl (by decide +kernel) rfl rfl (Nat.le_of_ble_eq_true rfl) dX1_init_89 (fun H locs hP hD hS => ?_)
          have hP : va_P D classes [(h0, .inr (1, [.int 0, .int (nI w), .int 0, .int 0, .int 0, .int 0, .int 0, .int 0, .int 0, .int 0, .int 0, .int 0, .int 0, .int 0, .int 0, .ref q1, .ref q2, .ref q3, .ref q4])), (q1, .inl (e1, 2064, .inl (fun _ => 0))), (q2, .inl (e2, 2064, .inl (fun _ => 0))), (q3, .inl (e3, 2064, .inl (fun _ => 0))), (q4, .inl (e4, 2064, .inl (fun _ => 0)))] H := hP
          have hD : va_D A [(h0, .inr (1, [.int 0, .int (nI w), .int 0, .int 0, .int 0, .int 0, .int 0, .int 0, .int 0, .int 0, .int 0, .int 0, .int 0, .int 0, .int 0, .ref q1, .ref q2, .ref q3, .ref q4])), (q1, .inl (e1, 2064, .inl (fun _ => 0))), (q2, .inl (e2, 2064, .inl (fun _ => 0))), (q3, .inl (e3, 2064, .inl (fun _ => 0))), (q4, .inl (e4, 2064, .inl (fun _ => 0)))] := hD
          refine lv_aload_n hx hb dX1_init_92 rfl (lv_at hl 2 rfl) ?_
          refine lv_iload_n hx hb dX1_init_93 rfl (lv_at hl 1 rfl) ?_
          refine lv_iload hx hb dX1_init_94 (lv_at hl 0 rfl) ?_
          refine lv_iload_n hx hb dX1_init_96 rfl (lv_at hl 1 rfl) ?_
          refine lv_idiv hx hb dX1_init_97 (nI_ne0 hw0 (by omega)) ?_
          refine z_eq (show ((nI sp) / (nI w)) = nI (sp / w) from pk_div (by omega) hw0 (by omega)) ?_
          refine lv_iconst (v := 1) hx hb dX1_init_98 (by decide) ?_
          refine lv_iadd hx hb dX1_init_99 ?_
          refine z_eq (show ((nI (sp / w)) + 1) = nI nr from by rw [hnr]; exact nI_1 _) ?_
          refine lv_imul hx hb dX1_init_100 ?_
          refine z_eq (show ((nI w) * (nI nr)) = nI n from by rw [hnn]; exact pk_mul _ _) ?_
          refine z_putF (ty := .int) C0 zt_x1 tyX1 tyX1_ok nmX1 hK hP hD hS hname 0 rfl rfl 2 (by decide) fl_X1_27 rfl rfl (by decide +kernel) rfl rfl (Nat.le_of_ble_eq_true rfl) dX1_init_101 (fun H locs hP hD hS => ?_)
          have hP : va_P D classes [(h0, .inr (1, [.int 0, .int (nI w), .int (nI n), .int 0, .int 0, .int 0, .int 0, .int 0, .int 0, .int 0, .int 0, .int 0, .int 0, .int 0, .int 0, .ref q1, .ref q2, .ref q3, .ref q4])), (q1, .inl (e1, 2064, .inl (fun _ => 0))), (q2, .inl (e2, 2064, .inl (fun _ => 0))), (q3, .inl (e3, 2064, .inl (fun _ => 0))), (q4, .inl (e4, 2064, .inl (fun _ => 0)))] H := hP
          have hD : va_D A [(h0, .inr (1, [.int 0, .int (nI w), .int (nI n), .int 0, .int 0, .int 0, .int 0, .int 0, .int 0, .int 0, .int 0, .int 0, .int 0, .int 0, .int 0, .ref q1, .ref q2, .ref q3, .ref q4])), (q1, .inl (e1, 2064, .inl (fun _ => 0))), (q2, .inl (e2, 2064, .inl (fun _ => 0))), (q3, .inl (e3, 2064, .inl (fun _ => 0))), (q4, .inl (e4, 2064, .inl (fun _ => 0)))] := hD
          exact hret ((fun k => match k with | 0 => h0 | 1 => q1 | 2 => q2 | 3 => q3 | _ => q4, fun k => match k with | 1 => e1 | 2 => e2 | 3 => e3 | _ => e4)) _ _ _ _ hK hP hD hS (rfl) dX1_init_104
        · refine lv_sipush (v := 2000) hx hb dX1_init_78 (by decide) ?_
          refine z_eq (show (2000) = nI sp from by first | (rw [← hs, if_pos (Int32.not_le.mp c3)]) | (rw [← hs, if_neg (Int32.not_lt.mpr c3), if_pos (Int32.not_le.mp c4)]) | (rw [← hs, if_neg (Int32.not_lt.mpr c3), if_neg (Int32.not_lt.mpr c4)])) ?_
          refine lv_goto (tgt := 85) hx hb dX1_init_81 (by decide) ?_
          refine lv_istore (lv' := [(4, .int (nI sp)), (3, .int (nI w)), (0, .ref h0), (1, .int w0), (2, .int s0)]) hx hb dX1_init_85 hl (by decide) rfl (fun ls hl => ?_)
          refine lv_aload_n hx hb dX1_init_87 rfl (lv_at hl 2 rfl) ?_
          refine lv_iload_n hx hb dX1_init_88 rfl (lv_at hl 1 rfl) ?_
          refine z_putF (ty := .int) C0 zt_x1 tyX1 tyX1_ok nmX1 hK hP hD hS hname 0 rfl rfl 1 (by decide) fl_X1_23 rfl rfl (by decide +kernel) rfl rfl (Nat.le_of_ble_eq_true rfl) dX1_init_89 (fun H locs hP hD hS => ?_)
          have hP : va_P D classes [(h0, .inr (1, [.int 0, .int (nI w), .int 0, .int 0, .int 0, .int 0, .int 0, .int 0, .int 0, .int 0, .int 0, .int 0, .int 0, .int 0, .int 0, .ref q1, .ref q2, .ref q3, .ref q4])), (q1, .inl (e1, 2064, .inl (fun _ => 0))), (q2, .inl (e2, 2064, .inl (fun _ => 0))), (q3, .inl (e3, 2064, .inl (fun _ => 0))), (q4, .inl (e4, 2064, .inl (fun _ => 0)))] H := hP
          have hD : va_D A [(h0, .inr (1, [.int 0, .int (nI w), .int 0, .int 0, .int 0, .int 0, .int 0, .int 0, .int 0, .int 0, .int 0, .int 0, .int 0, .int 0, .int 0, .ref q1, .ref q2, .ref q3, .ref q4])), (q1, .inl (e1, 2064, .inl (fun _ => 0))), (q2, .inl (e2, 2064, .inl (fun _ => 0))), (q3, .inl (e3, 2064, .inl (fun _ => 0))), (q4, .inl (e4, 2064, .inl (fun _ => 0)))] := hD
          refine lv_aload_n hx hb dX1_init_92 rfl (lv_at hl 2 rfl) ?_
          refine lv_iload_n hx hb dX1_init_93 rfl (lv_at hl 1 rfl) ?_
          refine lv_iload hx hb dX1_init_94 (lv_at hl 0 rfl) ?_
          refine lv_iload_n hx hb dX1_init_96 rfl (lv_at hl 1 rfl) ?_
          refine lv_idiv hx hb dX1_init_97 (nI_ne0 hw0 (by omega)) ?_
          refine z_eq (show ((nI sp) / (nI w)) = nI (sp / w) from pk_div (by omega) hw0 (by omega)) ?_
          refine lv_iconst (v := 1) hx hb dX1_init_98 (by decide) ?_
          refine lv_iadd hx hb dX1_init_99 ?_
          refine z_eq (show ((nI (sp / w)) + 1) = nI nr from by rw [hnr]; exact nI_1 _) ?_
          refine lv_imul hx hb dX1_init_100 ?_
          refine z_eq (show ((nI w) * (nI nr)) = nI n from by rw [hnn]; exact pk_mul _ _) ?_
          refine z_putF (ty := .int) C0 zt_x1 tyX1 tyX1_ok nmX1 hK hP hD hS hname 0 rfl rfl 2 (by decide) fl_X1_27 rfl rfl (by decide +kernel) rfl rfl (Nat.le_of_ble_eq_true rfl) dX1_init_101 (fun H locs hP hD hS => ?_)
          have hP : va_P D classes [(h0, .inr (1, [.int 0, .int (nI w), .int (nI n), .int 0, .int 0, .int 0, .int 0, .int 0, .int 0, .int 0, .int 0, .int 0, .int 0, .int 0, .int 0, .ref q1, .ref q2, .ref q3, .ref q4])), (q1, .inl (e1, 2064, .inl (fun _ => 0))), (q2, .inl (e2, 2064, .inl (fun _ => 0))), (q3, .inl (e3, 2064, .inl (fun _ => 0))), (q4, .inl (e4, 2064, .inl (fun _ => 0)))] H := hP
          have hD : va_D A [(h0, .inr (1, [.int 0, .int (nI w), .int (nI n), .int 0, .int 0, .int 0, .int 0, .int 0, .int 0, .int 0, .int 0, .int 0, .int 0, .int 0, .int 0, .ref q1, .ref q2, .ref q3, .ref q4])), (q1, .inl (e1, 2064, .inl (fun _ => 0))), (q2, .inl (e2, 2064, .inl (fun _ => 0))), (q3, .inl (e3, 2064, .inl (fun _ => 0))), (q4, .inl (e4, 2064, .inl (fun _ => 0)))] := hD
          exact hret ((fun k => match k with | 0 => h0 | 1 => q1 | 2 => q2 | 3 => q3 | _ => q4, fun k => match k with | 1 => e1 | 2 => e2 | 3 => e3 | _ => e4)) _ _ _ _ hK hP hD hS (rfl) dX1_init_104
      · refine lv_iconst (v := 1) hx hb dX1_init_67 (by decide) ?_
        refine z_eq (show (1) = nI sp from by first | (rw [← hs, if_pos (Int32.not_le.mp c3)]) | (rw [← hs, if_neg (Int32.not_lt.mpr c3), if_pos (Int32.not_le.mp c4)]) | (rw [← hs, if_neg (Int32.not_lt.mpr c3), if_neg (Int32.not_lt.mpr c4)])) ?_
        refine lv_goto (tgt := 85) hx hb dX1_init_68 (by decide) ?_
        refine lv_istore (lv' := [(4, .int (nI sp)), (3, .int (nI w)), (0, .ref h0), (1, .int w0), (2, .int s0)]) hx hb dX1_init_85 hl (by decide) rfl (fun ls hl => ?_)
        refine lv_aload_n hx hb dX1_init_87 rfl (lv_at hl 2 rfl) ?_
        refine lv_iload_n hx hb dX1_init_88 rfl (lv_at hl 1 rfl) ?_
        refine z_putF (ty := .int) C0 zt_x1 tyX1 tyX1_ok nmX1 hK hP hD hS hname 0 rfl rfl 1 (by decide) fl_X1_23 rfl rfl (by decide +kernel) rfl rfl (Nat.le_of_ble_eq_true rfl) dX1_init_89 (fun H locs hP hD hS => ?_)
        have hP : va_P D classes [(h0, .inr (1, [.int 0, .int (nI w), .int 0, .int 0, .int 0, .int 0, .int 0, .int 0, .int 0, .int 0, .int 0, .int 0, .int 0, .int 0, .int 0, .ref q1, .ref q2, .ref q3, .ref q4])), (q1, .inl (e1, 2064, .inl (fun _ => 0))), (q2, .inl (e2, 2064, .inl (fun _ => 0))), (q3, .inl (e3, 2064, .inl (fun _ => 0))), (q4, .inl (e4, 2064, .inl (fun _ => 0)))] H := hP
        have hD : va_D A [(h0, .inr (1, [.int 0, .int (nI w), .int 0, .int 0, .int 0, .int 0, .int 0, .int 0, .int 0, .int 0, .int 0, .int 0, .int 0, .int 0, .int 0, .ref q1, .ref q2, .ref q3, .ref q4])), (q1, .inl (e1, 2064, .inl (fun _ => 0))), (q2, .inl (e2, 2064, .inl (fun _ => 0))), (q3, .inl (e3, 2064, .inl (fun _ => 0))), (q4, .inl (e4, 2064, .inl (fun _ => 0)))] := hD
        refine lv_aload_n hx hb dX1_init_92 rfl (lv_at hl 2 rfl) ?_
        refine lv_iload_n hx hb dX1_init_93 rfl (lv_at hl 1 rfl) ?_
        refine lv_iload hx hb dX1_init_94 (lv_at hl 0 rfl) ?_
        refine lv_iload_n hx hb dX1_init_96 rfl (lv_at hl 1 rfl) ?_
        refine lv_idiv hx hb dX1_init_97 (nI_ne0 hw0 (by omega)) ?_
        refine z_eq (show ((nI sp) / (nI w)) = nI (sp / w) from pk_div (by omega) hw0 (by omega)) ?_
        refine lv_iconst (v := 1) hx hb dX1_init_98 (by decide) ?_
        refine lv_iadd hx hb dX1_init_99 ?_
        refine z_eq (show ((nI (sp / w)) + 1) = nI nr from by rw [hnr]; exact nI_1 _) ?_
        refine lv_imul hx hb dX1_init_100 ?_
        refine z_eq (show ((nI w) * (nI nr)) = nI n from by rw [hnn]; exact pk_mul _ _) ?_
        refine z_putF (ty := .int) C0 zt_x1 tyX1 tyX1_ok nmX1 hK hP hD hS hname 0 rfl rfl 2 (by decide) fl_X1_27 rfl rfl (by decide +kernel) rfl rfl (Nat.le_of_ble_eq_true rfl) dX1_init_101 (fun H locs hP hD hS => ?_)
        have hP : va_P D classes [(h0, .inr (1, [.int 0, .int (nI w), .int (nI n), .int 0, .int 0, .int 0, .int 0, .int 0, .int 0, .int 0, .int 0, .int 0, .int 0, .int 0, .int 0, .ref q1, .ref q2, .ref q3, .ref q4])), (q1, .inl (e1, 2064, .inl (fun _ => 0))), (q2, .inl (e2, 2064, .inl (fun _ => 0))), (q3, .inl (e3, 2064, .inl (fun _ => 0))), (q4, .inl (e4, 2064, .inl (fun _ => 0)))] H := hP
        have hD : va_D A [(h0, .inr (1, [.int 0, .int (nI w), .int (nI n), .int 0, .int 0, .int 0, .int 0, .int 0, .int 0, .int 0, .int 0, .int 0, .int 0, .int 0, .int 0, .ref q1, .ref q2, .ref q3, .ref q4])), (q1, .inl (e1, 2064, .inl (fun _ => 0))), (q2, .inl (e2, 2064, .inl (fun _ => 0))), (q3, .inl (e3, 2064, .inl (fun _ => 0))), (q4, .inl (e4, 2064, .inl (fun _ => 0)))] := hD
        exact hret ((fun k => match k with | 0 => h0 | 1 => q1 | 2 => q2 | 3 => q3 | _ => q4, fun k => match k with | 1 => e1 | 2 => e2 | 3 => e3 | _ => e4)) _ _ _ _ hK hP hD hS (rfl) dX1_init_104
    · refine lv_bipush (v := 64) hx hb dX1_init_55 (by decide) ?_
      refine z_eq (show (64) = nI w from by first | (rw [← hw, if_pos (Int32.not_le.mp c1)]) | (rw [← hw, if_neg (Int32.not_lt.mpr c1), if_pos (Int32.not_le.mp c2)]) | (rw [← hw, if_neg (Int32.not_lt.mpr c1), if_neg (Int32.not_lt.mpr c2)])) ?_
      refine lv_goto (tgt := 61) hx hb dX1_init_57 (by decide) ?_
      refine lv_istore_n (lv' := [(3, .int (nI w)), (0, .ref h0), (1, .int w0), (2, .int s0)]) hx hb dX1_init_61 rfl hl (by decide) rfl (fun ls hl => ?_)
      refine lv_iload_n hx hb dX1_init_62 rfl (lv_at hl 3 rfl) ?_
      refine lv_iconst (v := 1) hx hb dX1_init_63 (by decide) ?_
      refine lv_icmp_ge (tgt := 71) hx hb dX1_init_64 (by decide) (fun c3 => ?_) (fun c3 => ?_)
      · refine lv_iload_n hx hb dX1_init_71 rfl (lv_at hl 3 rfl) ?_
        refine lv_sipush (v := 2000) hx hb dX1_init_72 (by decide) ?_
        refine lv_icmp_le (tgt := 84) hx hb dX1_init_75 (by decide) (fun c4 => ?_) (fun c4 => ?_)
        · refine lv_iload_n hx hb dX1_init_84 rfl (lv_at hl 3 rfl) ?_
          refine z_eq (show (s0) = nI sp from by first | (rw [← hs, if_pos (Int32.not_le.mp c3)]) | (rw [← hs, if_neg (Int32.not_lt.mpr c3), if_pos (Int32.not_le.mp c4)]) | (rw [← hs, if_neg (Int32.not_lt.mpr c3), if_neg (Int32.not_lt.mpr c4)])) ?_
          refine lv_istore (lv' := [(4, .int (nI sp)), (3, .int (nI w)), (0, .ref h0), (1, .int w0), (2, .int s0)]) hx hb dX1_init_85 hl (by decide) rfl (fun ls hl => ?_)
          refine lv_aload_n hx hb dX1_init_87 rfl (lv_at hl 2 rfl) ?_
          refine lv_iload_n hx hb dX1_init_88 rfl (lv_at hl 1 rfl) ?_
          refine z_putF (ty := .int) C0 zt_x1 tyX1 tyX1_ok nmX1 hK hP hD hS hname 0 rfl rfl 1 (by decide) fl_X1_23 rfl rfl (by decide +kernel) rfl rfl (Nat.le_of_ble_eq_true rfl) dX1_init_89 (fun H locs hP hD hS => ?_)
          have hP : va_P D classes [(h0, .inr (1, [.int 0, .int (nI w), .int 0, .int 0, .int 0, .int 0, .int 0, .int 0, .int 0, .int 0, .int 0, .int 0, .int 0, .int 0, .int 0, .ref q1, .ref q2, .ref q3, .ref q4])), (q1, .inl (e1, 2064, .inl (fun _ => 0))), (q2, .inl (e2, 2064, .inl (fun _ => 0))), (q3, .inl (e3, 2064, .inl (fun _ => 0))), (q4, .inl (e4, 2064, .inl (fun _ => 0)))] H := hP
          have hD : va_D A [(h0, .inr (1, [.int 0, .int (nI w), .int 0, .int 0, .int 0, .int 0, .int 0, .int 0, .int 0, .int 0, .int 0, .int 0, .int 0, .int 0, .int 0, .ref q1, .ref q2, .ref q3, .ref q4])), (q1, .inl (e1, 2064, .inl (fun _ => 0))), (q2, .inl (e2, 2064, .inl (fun _ => 0))), (q3, .inl (e3, 2064, .inl (fun _ => 0))), (q4, .inl (e4, 2064, .inl (fun _ => 0)))] := hD
          refine lv_aload_n hx hb dX1_init_92 rfl (lv_at hl 2 rfl) ?_
          refine lv_iload_n hx hb dX1_init_93 rfl (lv_at hl 1 rfl) ?_
          refine lv_iload hx hb dX1_init_94 (lv_at hl 0 rfl) ?_
          refine lv_iload_n hx hb dX1_init_96 rfl (lv_at hl 1 rfl) ?_
          refine lv_idiv hx hb dX1_init_97 (nI_ne0 hw0 (by omega)) ?_
          refine z_eq (show ((nI sp) / (nI w)) = nI (sp / w) from pk_div (by omega) hw0 (by omega)) ?_
          refine lv_iconst (v := 1) hx hb dX1_init_98 (by decide) ?_
          refine lv_iadd hx hb dX1_init_99 ?_
          refine z_eq (show ((nI (sp / w)) + 1) = nI nr from by rw [hnr]; exact nI_1 _) ?_
          refine lv_imul hx hb dX1_init_100 ?_
          refine z_eq (show ((nI w) * (nI nr)) = nI n from by rw [hnn]; exact pk_mul _ _) ?_
          refine z_putF (ty := .int) C0 zt_x1 tyX1 tyX1_ok nmX1 hK hP hD hS hname 0 rfl rfl 2 (by decide) fl_X1_27 rfl rfl (by decide +kernel) rfl rfl (Nat.le_of_ble_eq_true rfl) dX1_init_101 (fun H locs hP hD hS => ?_)
          have hP : va_P D classes [(h0, .inr (1, [.int 0, .int (nI w), .int (nI n), .int 0, .int 0, .int 0, .int 0, .int 0, .int 0, .int 0, .int 0, .int 0, .int 0, .int 0, .int 0, .ref q1, .ref q2, .ref q3, .ref q4])), (q1, .inl (e1, 2064, .inl (fun _ => 0))), (q2, .inl (e2, 2064, .inl (fun _ => 0))), (q3, .inl (e3, 2064, .inl (fun _ => 0))), (q4, .inl (e4, 2064, .inl (fun _ => 0)))] H := hP
          have hD : va_D A [(h0, .inr (1, [.int 0, .int (nI w), .int (nI n), .int 0, .int 0, .int 0, .int 0, .int 0, .int 0, .int 0, .int 0, .int 0, .int 0, .int 0, .int 0, .ref q1, .ref q2, .ref q3, .ref q4])), (q1, .inl (e1, 2064, .inl (fun _ => 0))), (q2, .inl (e2, 2064, .inl (fun _ => 0))), (q3, .inl (e3, 2064, .inl (fun _ => 0))), (q4, .inl (e4, 2064, .inl (fun _ => 0)))] := hD
          exact hret ((fun k => match k with | 0 => h0 | 1 => q1 | 2 => q2 | 3 => q3 | _ => q4, fun k => match k with | 1 => e1 | 2 => e2 | 3 => e3 | _ => e4)) _ _ _ _ hK hP hD hS (rfl) dX1_init_104
        · refine lv_sipush (v := 2000) hx hb dX1_init_78 (by decide) ?_
          refine z_eq (show (2000) = nI sp from by first | (rw [← hs, if_pos (Int32.not_le.mp c3)]) | (rw [← hs, if_neg (Int32.not_lt.mpr c3), if_pos (Int32.not_le.mp c4)]) | (rw [← hs, if_neg (Int32.not_lt.mpr c3), if_neg (Int32.not_lt.mpr c4)])) ?_
          refine lv_goto (tgt := 85) hx hb dX1_init_81 (by decide) ?_
          refine lv_istore (lv' := [(4, .int (nI sp)), (3, .int (nI w)), (0, .ref h0), (1, .int w0), (2, .int s0)]) hx hb dX1_init_85 hl (by decide) rfl (fun ls hl => ?_)
          refine lv_aload_n hx hb dX1_init_87 rfl (lv_at hl 2 rfl) ?_
          refine lv_iload_n hx hb dX1_init_88 rfl (lv_at hl 1 rfl) ?_
          refine z_putF (ty := .int) C0 zt_x1 tyX1 tyX1_ok nmX1 hK hP hD hS hname 0 rfl rfl 1 (by decide) fl_X1_23 rfl rfl (by decide +kernel) rfl rfl (Nat.le_of_ble_eq_true rfl) dX1_init_89 (fun H locs hP hD hS => ?_)
          have hP : va_P D classes [(h0, .inr (1, [.int 0, .int (nI w), .int 0, .int 0, .int 0, .int 0, .int 0, .int 0, .int 0, .int 0, .int 0, .int 0, .int 0, .int 0, .int 0, .ref q1, .ref q2, .ref q3, .ref q4])), (q1, .inl (e1, 2064, .inl (fun _ => 0))), (q2, .inl (e2, 2064, .inl (fun _ => 0))), (q3, .inl (e3, 2064, .inl (fun _ => 0))), (q4, .inl (e4, 2064, .inl (fun _ => 0)))] H := hP
          have hD : va_D A [(h0, .inr (1, [.int 0, .int (nI w), .int 0, .int 0, .int 0, .int 0, .int 0, .int 0, .int 0, .int 0, .int 0, .int 0, .int 0, .int 0, .int 0, .ref q1, .ref q2, .ref q3, .ref q4])), (q1, .inl (e1, 2064, .inl (fun _ => 0))), (q2, .inl (e2, 2064, .inl (fun _ => 0))), (q3, .inl (e3, 2064, .inl (fun _ => 0))), (q4, .inl (e4, 2064, .inl (fun _ => 0)))] := hD
          refine lv_aload_n hx hb dX1_init_92 rfl (lv_at hl 2 rfl) ?_
          refine lv_iload_n hx hb dX1_init_93 rfl (lv_at hl 1 rfl) ?_
          refine lv_iload hx hb dX1_init_94 (lv_at hl 0 rfl) ?_
          refine lv_iload_n hx hb dX1_init_96 rfl (lv_at hl 1 rfl) ?_
          refine lv_idiv hx hb dX1_init_97 (nI_ne0 hw0 (by omega)) ?_
          refine z_eq (show ((nI sp) / (nI w)) = nI (sp / w) from pk_div (by omega) hw0 (by omega)) ?_
          refine lv_iconst (v := 1) hx hb dX1_init_98 (by decide) ?_
          refine lv_iadd hx hb dX1_init_99 ?_
          refine z_eq (show ((nI (sp / w)) + 1) = nI nr from by rw [hnr]; exact nI_1 _) ?_
          refine lv_imul hx hb dX1_init_100 ?_
          refine z_eq (show ((nI w) * (nI nr)) = nI n from by rw [hnn]; exact pk_mul _ _) ?_
          refine z_putF (ty := .int) C0 zt_x1 tyX1 tyX1_ok nmX1 hK hP hD hS hname 0 rfl rfl 2 (by decide) fl_X1_27 rfl rfl (by decide +kernel) rfl rfl (Nat.le_of_ble_eq_true rfl) dX1_init_101 (fun H locs hP hD hS => ?_)
          have hP : va_P D classes [(h0, .inr (1, [.int 0, .int (nI w), .int (nI n), .int 0, .int 0, .int 0, .int 0, .int 0, .int 0, .int 0, .int 0, .int 0, .int 0, .int 0, .int 0, .ref q1, .ref q2, .ref q3, .ref q4])), (q1, .inl (e1, 2064, .inl (fun _ => 0))), (q2, .inl (e2, 2064, .inl (fun _ => 0))), (q3, .inl (e3, 2064, .inl (fun _ => 0))), (q4, .inl (e4, 2064, .inl (fun _ => 0)))] H := hP
          have hD : va_D A [(h0, .inr (1, [.int 0, .int (nI w), .int (nI n), .int 0, .int 0, .int 0, .int 0, .int 0, .int 0, .int 0, .int 0, .int 0, .int 0, .int 0, .int 0, .ref q1, .ref q2, .ref q3, .ref q4])), (q1, .inl (e1, 2064, .inl (fun _ => 0))), (q2, .inl (e2, 2064, .inl (fun _ => 0))), (q3, .inl (e3, 2064, .inl (fun _ => 0))), (q4, .inl (e4, 2064, .inl (fun _ => 0)))] := hD
          exact hret ((fun k => match k with | 0 => h0 | 1 => q1 | 2 => q2 | 3 => q3 | _ => q4, fun k => match k with | 1 => e1 | 2 => e2 | 3 => e3 | _ => e4)) _ _ _ _ hK hP hD hS (rfl) dX1_init_104
      · refine lv_iconst (v := 1) hx hb dX1_init_67 (by decide) ?_
        refine z_eq (show (1) = nI sp from by first | (rw [← hs, if_pos (Int32.not_le.mp c3)]) | (rw [← hs, if_neg (Int32.not_lt.mpr c3), if_pos (Int32.not_le.mp c4)]) | (rw [← hs, if_neg (Int32.not_lt.mpr c3), if_neg (Int32.not_lt.mpr c4)])) ?_
        refine lv_goto (tgt := 85) hx hb dX1_init_68 (by decide) ?_
        refine lv_istore (lv' := [(4, .int (nI sp)), (3, .int (nI w)), (0, .ref h0), (1, .int w0), (2, .int s0)]) hx hb dX1_init_85 hl (by decide) rfl (fun ls hl => ?_)
        refine lv_aload_n hx hb dX1_init_87 rfl (lv_at hl 2 rfl) ?_
        refine lv_iload_n hx hb dX1_init_88 rfl (lv_at hl 1 rfl) ?_
        refine z_putF (ty := .int) C0 zt_x1 tyX1 tyX1_ok nmX1 hK hP hD hS hname 0 rfl rfl 1 (by decide) fl_X1_23 rfl rfl (by decide +kernel) rfl rfl (Nat.le_of_ble_eq_true rfl) dX1_init_89 (fun H locs hP hD hS => ?_)
        have hP : va_P D classes [(h0, .inr (1, [.int 0, .int (nI w), .int 0, .int 0, .int 0, .int 0, .int 0, .int 0, .int 0, .int 0, .int 0, .int 0, .int 0, .int 0, .int 0, .ref q1, .ref q2, .ref q3, .ref q4])), (q1, .inl (e1, 2064, .inl (fun _ => 0))), (q2, .inl (e2, 2064, .inl (fun _ => 0))), (q3, .inl (e3, 2064, .inl (fun _ => 0))), (q4, .inl (e4, 2064, .inl (fun _ => 0)))] H := hP
        have hD : va_D A [(h0, .inr (1, [.int 0, .int (nI w), .int 0, .int 0, .int 0, .int 0, .int 0, .int 0, .int 0, .int 0, .int 0, .int 0, .int 0, .int 0, .int 0, .ref q1, .ref q2, .ref q3, .ref q4])), (q1, .inl (e1, 2064, .inl (fun _ => 0))), (q2, .inl (e2, 2064, .inl (fun _ => 0))), (q3, .inl (e3, 2064, .inl (fun _ => 0))), (q4, .inl (e4, 2064, .inl (fun _ => 0)))] := hD
        refine lv_aload_n hx hb dX1_init_92 rfl (lv_at hl 2 rfl) ?_
        refine lv_iload_n hx hb dX1_init_93 rfl (lv_at hl 1 rfl) ?_
        refine lv_iload hx hb dX1_init_94 (lv_at hl 0 rfl) ?_
        refine lv_iload_n hx hb dX1_init_96 rfl (lv_at hl 1 rfl) ?_
        refine lv_idiv hx hb dX1_init_97 (nI_ne0 hw0 (by omega)) ?_
        refine z_eq (show ((nI sp) / (nI w)) = nI (sp / w) from pk_div (by omega) hw0 (by omega)) ?_
        refine lv_iconst (v := 1) hx hb dX1_init_98 (by decide) ?_
        refine lv_iadd hx hb dX1_init_99 ?_
        refine z_eq (show ((nI (sp / w)) + 1) = nI nr from by rw [hnr]; exact nI_1 _) ?_
        refine lv_imul hx hb dX1_init_100 ?_
        refine z_eq (show ((nI w) * (nI nr)) = nI n from by rw [hnn]; exact pk_mul _ _) ?_
        refine z_putF (ty := .int) C0 zt_x1 tyX1 tyX1_ok nmX1 hK hP hD hS hname 0 rfl rfl 2 (by decide) fl_X1_27 rfl rfl (by decide +kernel) rfl rfl (Nat.le_of_ble_eq_true rfl) dX1_init_101 (fun H locs hP hD hS => ?_)
        have hP : va_P D classes [(h0, .inr (1, [.int 0, .int (nI w), .int (nI n), .int 0, .int 0, .int 0, .int 0, .int 0, .int 0, .int 0, .int 0, .int 0, .int 0, .int 0, .int 0, .ref q1, .ref q2, .ref q3, .ref q4])), (q1, .inl (e1, 2064, .inl (fun _ => 0))), (q2, .inl (e2, 2064, .inl (fun _ => 0))), (q3, .inl (e3, 2064, .inl (fun _ => 0))), (q4, .inl (e4, 2064, .inl (fun _ => 0)))] H := hP
        have hD : va_D A [(h0, .inr (1, [.int 0, .int (nI w), .int (nI n), .int 0, .int 0, .int 0, .int 0, .int 0, .int 0, .int 0, .int 0, .int 0, .int 0, .int 0, .int 0, .ref q1, .ref q2, .ref q3, .ref q4])), (q1, .inl (e1, 2064, .inl (fun _ => 0))), (q2, .inl (e2, 2064, .inl (fun _ => 0))), (q3, .inl (e3, 2064, .inl (fun _ => 0))), (q4, .inl (e4, 2064, .inl (fun _ => 0)))] := hD
        exact hret ((fun k => match k with | 0 => h0 | 1 => q1 | 2 => q2 | 3 => q3 | _ => q4, fun k => match k with | 1 => e1 | 2 => e2 | 3 => e3 | _ => e4)) _ _ _ _ hK hP hD hS (rfl) dX1_init_104
  · refine lv_iconst (v := 1) hx hb dX1_init_45 (by decide) ?_
    refine z_eq (show (1) = nI w from by first | (rw [← hw, if_pos (Int32.not_le.mp c1)]) | (rw [← hw, if_neg (Int32.not_lt.mpr c1), if_pos (Int32.not_le.mp c2)]) | (rw [← hw, if_neg (Int32.not_lt.mpr c1), if_neg (Int32.not_lt.mpr c2)])) ?_
    refine lv_goto (tgt := 61) hx hb dX1_init_46 (by decide) ?_
    refine lv_istore_n (lv' := [(3, .int (nI w)), (0, .ref h0), (1, .int w0), (2, .int s0)]) hx hb dX1_init_61 rfl hl (by decide) rfl (fun ls hl => ?_)
    refine lv_iload_n hx hb dX1_init_62 rfl (lv_at hl 3 rfl) ?_
    refine lv_iconst (v := 1) hx hb dX1_init_63 (by decide) ?_
    refine lv_icmp_ge (tgt := 71) hx hb dX1_init_64 (by decide) (fun c3 => ?_) (fun c3 => ?_)
    · refine lv_iload_n hx hb dX1_init_71 rfl (lv_at hl 3 rfl) ?_
      refine lv_sipush (v := 2000) hx hb dX1_init_72 (by decide) ?_
      refine lv_icmp_le (tgt := 84) hx hb dX1_init_75 (by decide) (fun c4 => ?_) (fun c4 => ?_)
      · refine lv_iload_n hx hb dX1_init_84 rfl (lv_at hl 3 rfl) ?_
        refine z_eq (show (s0) = nI sp from by first | (rw [← hs, if_pos (Int32.not_le.mp c3)]) | (rw [← hs, if_neg (Int32.not_lt.mpr c3), if_pos (Int32.not_le.mp c4)]) | (rw [← hs, if_neg (Int32.not_lt.mpr c3), if_neg (Int32.not_lt.mpr c4)])) ?_
        refine lv_istore (lv' := [(4, .int (nI sp)), (3, .int (nI w)), (0, .ref h0), (1, .int w0), (2, .int s0)]) hx hb dX1_init_85 hl (by decide) rfl (fun ls hl => ?_)
        refine lv_aload_n hx hb dX1_init_87 rfl (lv_at hl 2 rfl) ?_
        refine lv_iload_n hx hb dX1_init_88 rfl (lv_at hl 1 rfl) ?_
        refine z_putF (ty := .int) C0 zt_x1 tyX1 tyX1_ok nmX1 hK hP hD hS hname 0 rfl rfl 1 (by decide) fl_X1_23 rfl rfl (by decide +kernel) rfl rfl (Nat.le_of_ble_eq_true rfl) dX1_init_89 (fun H locs hP hD hS => ?_)
        have hP : va_P D classes [(h0, .inr (1, [.int 0, .int (nI w), .int 0, .int 0, .int 0, .int 0, .int 0, .int 0, .int 0, .int 0, .int 0, .int 0, .int 0, .int 0, .int 0, .ref q1, .ref q2, .ref q3, .ref q4])), (q1, .inl (e1, 2064, .inl (fun _ => 0))), (q2, .inl (e2, 2064, .inl (fun _ => 0))), (q3, .inl (e3, 2064, .inl (fun _ => 0))), (q4, .inl (e4, 2064, .inl (fun _ => 0)))] H := hP
        have hD : va_D A [(h0, .inr (1, [.int 0, .int (nI w), .int 0, .int 0, .int 0, .int 0, .int 0, .int 0, .int 0, .int 0, .int 0, .int 0, .int 0, .int 0, .int 0, .ref q1, .ref q2, .ref q3, .ref q4])), (q1, .inl (e1, 2064, .inl (fun _ => 0))), (q2, .inl (e2, 2064, .inl (fun _ => 0))), (q3, .inl (e3, 2064, .inl (fun _ => 0))), (q4, .inl (e4, 2064, .inl (fun _ => 0)))] := hD
        refine lv_aload_n hx hb dX1_init_92 rfl (lv_at hl 2 rfl) ?_
        refine lv_iload_n hx hb dX1_init_93 rfl (lv_at hl 1 rfl) ?_
        refine lv_iload hx hb dX1_init_94 (lv_at hl 0 rfl) ?_
        refine lv_iload_n hx hb dX1_init_96 rfl (lv_at hl 1 rfl) ?_
        refine lv_idiv hx hb dX1_init_97 (nI_ne0 hw0 (by omega)) ?_
        refine z_eq (show ((nI sp) / (nI w)) = nI (sp / w) from pk_div (by omega) hw0 (by omega)) ?_
        refine lv_iconst (v := 1) hx hb dX1_init_98 (by decide) ?_
        refine lv_iadd hx hb dX1_init_99 ?_
        refine z_eq (show ((nI (sp / w)) + 1) = nI nr from by rw [hnr]; exact nI_1 _) ?_
        refine lv_imul hx hb dX1_init_100 ?_
        refine z_eq (show ((nI w) * (nI nr)) = nI n from by rw [hnn]; exact pk_mul _ _) ?_
        refine z_putF (ty := .int) C0 zt_x1 tyX1 tyX1_ok nmX1 hK hP hD hS hname 0 rfl rfl 2 (by decide) fl_X1_27 rfl rfl (by decide +kernel) rfl rfl (Nat.le_of_ble_eq_true rfl) dX1_init_101 (fun H locs hP hD hS => ?_)
        have hP : va_P D classes [(h0, .inr (1, [.int 0, .int (nI w), .int (nI n), .int 0, .int 0, .int 0, .int 0, .int 0, .int 0, .int 0, .int 0, .int 0, .int 0, .int 0, .int 0, .ref q1, .ref q2, .ref q3, .ref q4])), (q1, .inl (e1, 2064, .inl (fun _ => 0))), (q2, .inl (e2, 2064, .inl (fun _ => 0))), (q3, .inl (e3, 2064, .inl (fun _ => 0))), (q4, .inl (e4, 2064, .inl (fun _ => 0)))] H := hP
        have hD : va_D A [(h0, .inr (1, [.int 0, .int (nI w), .int (nI n), .int 0, .int 0, .int 0, .int 0, .int 0, .int 0, .int 0, .int 0, .int 0, .int 0, .int 0, .int 0, .ref q1, .ref q2, .ref q3, .ref q4])), (q1, .inl (e1, 2064, .inl (fun _ => 0))), (q2, .inl (e2, 2064, .inl (fun _ => 0))), (q3, .inl (e3, 2064, .inl (fun _ => 0))), (q4, .inl (e4, 2064, .inl (fun _ => 0)))] := hD
        exact hret ((fun k => match k with | 0 => h0 | 1 => q1 | 2 => q2 | 3 => q3 | _ => q4, fun k => match k with | 1 => e1 | 2 => e2 | 3 => e3 | _ => e4)) _ _ _ _ hK hP hD hS (rfl) dX1_init_104
      · refine lv_sipush (v := 2000) hx hb dX1_init_78 (by decide) ?_
        refine z_eq (show (2000) = nI sp from by first | (rw [← hs, if_pos (Int32.not_le.mp c3)]) | (rw [← hs, if_neg (Int32.not_lt.mpr c3), if_pos (Int32.not_le.mp c4)]) | (rw [← hs, if_neg (Int32.not_lt.mpr c3), if_neg (Int32.not_lt.mpr c4)])) ?_
        refine lv_goto (tgt := 85) hx hb dX1_init_81 (by decide) ?_
        refine lv_istore (lv' := [(4, .int (nI sp)), (3, .int (nI w)), (0, .ref h0), (1, .int w0), (2, .int s0)]) hx hb dX1_init_85 hl (by decide) rfl (fun ls hl => ?_)
        refine lv_aload_n hx hb dX1_init_87 rfl (lv_at hl 2 rfl) ?_
        refine lv_iload_n hx hb dX1_init_88 rfl (lv_at hl 1 rfl) ?_
        refine z_putF (ty := .int) C0 zt_x1 tyX1 tyX1_ok nmX1 hK hP hD hS hname 0 rfl rfl 1 (by decide) fl_X1_23 rfl rfl (by decide +kernel) rfl rfl (Nat.le_of_ble_eq_true rfl) dX1_init_89 (fun H locs hP hD hS => ?_)
        have hP : va_P D classes [(h0, .inr (1, [.int 0, .int (nI w), .int 0, .int 0, .int 0, .int 0, .int 0, .int 0, .int 0, .int 0, .int 0, .int 0, .int 0, .int 0, .int 0, .ref q1, .ref q2, .ref q3, .ref q4])), (q1, .inl (e1, 2064, .inl (fun _ => 0))), (q2, .inl (e2, 2064, .inl (fun _ => 0))), (q3, .inl (e3, 2064, .inl (fun _ => 0))), (q4, .inl (e4, 2064, .inl (fun _ => 0)))] H := hP
        have hD : va_D A [(h0, .inr (1, [.int 0, .int (nI w), .int 0, .int 0, .int 0, .int 0, .int 0, .int 0, .int 0, .int 0, .int 0, .int 0, .int 0, .int 0, .int 0, .ref q1, .ref q2, .ref q3, .ref q4])), (q1, .inl (e1, 2064, .inl (fun _ => 0))), (q2, .inl (e2, 2064, .inl (fun _ => 0))), (q3, .inl (e3, 2064, .inl (fun _ => 0))), (q4, .inl (e4, 2064, .inl (fun _ => 0)))] := hD
        refine lv_aload_n hx hb dX1_init_92 rfl (lv_at hl 2 rfl) ?_
        refine lv_iload_n hx hb dX1_init_93 rfl (lv_at hl 1 rfl) ?_
        refine lv_iload hx hb dX1_init_94 (lv_at hl 0 rfl) ?_
        refine lv_iload_n hx hb dX1_init_96 rfl (lv_at hl 1 rfl) ?_
        refine lv_idiv hx hb dX1_init_97 (nI_ne0 hw0 (by omega)) ?_
        refine z_eq (show ((nI sp) / (nI w)) = nI (sp / w) from pk_div (by omega) hw0 (by omega)) ?_
        refine lv_iconst (v := 1) hx hb dX1_init_98 (by decide) ?_
        refine lv_iadd hx hb dX1_init_99 ?_
        refine z_eq (show ((nI (sp / w)) + 1) = nI nr from by rw [hnr]; exact nI_1 _) ?_
        refine lv_imul hx hb dX1_init_100 ?_
        refine z_eq (show ((nI w) * (nI nr)) = nI n from by rw [hnn]; exact pk_mul _ _) ?_
        refine z_putF (ty := .int) C0 zt_x1 tyX1 tyX1_ok nmX1 hK hP hD hS hname 0 rfl rfl 2 (by decide) fl_X1_27 rfl rfl (by decide +kernel) rfl rfl (Nat.le_of_ble_eq_true rfl) dX1_init_101 (fun H locs hP hD hS => ?_)
        have hP : va_P D classes [(h0, .inr (1, [.int 0, .int (nI w), .int (nI n), .int 0, .int 0, .int 0, .int 0, .int 0, .int 0, .int 0, .int 0, .int 0, .int 0, .int 0, .int 0, .ref q1, .ref q2, .ref q3, .ref q4])), (q1, .inl (e1, 2064, .inl (fun _ => 0))), (q2, .inl (e2, 2064, .inl (fun _ => 0))), (q3, .inl (e3, 2064, .inl (fun _ => 0))), (q4, .inl (e4, 2064, .inl (fun _ => 0)))] H := hP
        have hD : va_D A [(h0, .inr (1, [.int 0, .int (nI w), .int (nI n), .int 0, .int 0, .int 0, .int 0, .int 0, .int 0, .int 0, .int 0, .int 0, .int 0, .int 0, .int 0, .ref q1, .ref q2, .ref q3, .ref q4])), (q1, .inl (e1, 2064, .inl (fun _ => 0))), (q2, .inl (e2, 2064, .inl (fun _ => 0))), (q3, .inl (e3, 2064, .inl (fun _ => 0))), (q4, .inl (e4, 2064, .inl (fun _ => 0)))] := hD
        exact hret ((fun k => match k with | 0 => h0 | 1 => q1 | 2 => q2 | 3 => q3 | _ => q4, fun k => match k with | 1 => e1 | 2 => e2 | 3 => e3 | _ => e4)) _ _ _ _ hK hP hD hS (rfl) dX1_init_104
    · refine lv_iconst (v := 1) hx hb dX1_init_67 (by decide) ?_
      refine z_eq (show (1) = nI sp from by first | (rw [← hs, if_pos (Int32.not_le.mp c3)]) | (rw [← hs, if_neg (Int32.not_lt.mpr c3), if_pos (Int32.not_le.mp c4)]) | (rw [← hs, if_neg (Int32.not_lt.mpr c3), if_neg (Int32.not_lt.mpr c4)])) ?_
      refine lv_goto (tgt := 85) hx hb dX1_init_68 (by decide) ?_
      refine lv_istore (lv' := [(4, .int (nI sp)), (3, .int (nI w)), (0, .ref h0), (1, .int w0), (2, .int s0)]) hx hb dX1_init_85 hl (by decide) rfl (fun ls hl => ?_)
      refine lv_aload_n hx hb dX1_init_87 rfl (lv_at hl 2 rfl) ?_
      refine lv_iload_n hx hb dX1_init_88 rfl (lv_at hl 1 rfl) ?_
      refine z_putF (ty := .int) C0 zt_x1 tyX1 tyX1_ok nmX1 hK hP hD hS hname 0 rfl rfl 1 (by decide) fl_X1_23 rfl rfl (by decide +kernel) rfl rfl (Nat.le_of_ble_eq_true rfl) dX1_init_89 (fun H locs hP hD hS => ?_)
      have hP : va_P D classes [(h0, .inr (1, [.int 0, .int (nI w), .int 0, .int 0, .int 0, .int 0, .int 0, .int 0, .int 0, .int 0, .int 0, .int 0, .int 0, .int 0, .int 0, .ref q1, .ref q2, .ref q3, .ref q4])), (q1, .inl (e1, 2064, .inl (fun _ => 0))), (q2, .inl (e2, 2064, .inl (fun _ => 0))), (q3, .inl (e3, 2064, .inl (fun _ => 0))), (q4, .inl (e4, 2064, .inl (fun _ => 0)))] H := hP
      have hD : va_D A [(h0, .inr (1, [.int 0, .int (nI w), .int 0, .int 0, .int 0, .int 0, .int 0, .int 0, .int 0, .int 0, .int 0, .int 0, .int 0, .int 0, .int 0, .ref q1, .ref q2, .ref q3, .ref q4])), (q1, .inl (e1, 2064, .inl (fun _ => 0))), (q2, .inl (e2, 2064, .inl (fun _ => 0))), (q3, .inl (e3, 2064, .inl (fun _ => 0))), (q4, .inl (e4, 2064, .inl (fun _ => 0)))] := hD
      refine lv_aload_n hx hb dX1_init_92 rfl (lv_at hl 2 rfl) ?_
      refine lv_iload_n hx hb dX1_init_93 rfl (lv_at hl 1 rfl) ?_
      refine lv_iload hx hb dX1_init_94 (lv_at hl 0 rfl) ?_
      refine lv_iload_n hx hb dX1_init_96 rfl (lv_at hl 1 rfl) ?_
      refine lv_idiv hx hb dX1_init_97 (nI_ne0 hw0 (by omega)) ?_
      refine z_eq (show ((nI sp) / (nI w)) = nI (sp / w) from pk_div (by omega) hw0 (by omega)) ?_
      refine lv_iconst (v := 1) hx hb dX1_init_98 (by decide) ?_
      refine lv_iadd hx hb dX1_init_99 ?_
      refine z_eq (show ((nI (sp / w)) + 1) = nI nr from by rw [hnr]; exact nI_1 _) ?_
      refine lv_imul hx hb dX1_init_100 ?_
      refine z_eq (show ((nI w) * (nI nr)) = nI n from by rw [hnn]; exact pk_mul _ _) ?_
      refine z_putF (ty := .int) C0 zt_x1 tyX1 tyX1_ok nmX1 hK hP hD hS hname 0 rfl rfl 2 (by decide) fl_X1_27 rfl rfl (by decide +kernel) rfl rfl (Nat.le_of_ble_eq_true rfl) dX1_init_101 (fun H locs hP hD hS => ?_)
      have hP : va_P D classes [(h0, .inr (1, [.int 0, .int (nI w), .int (nI n), .int 0, .int 0, .int 0, .int 0, .int 0, .int 0, .int 0, .int 0, .int 0, .int 0, .int 0, .int 0, .ref q1, .ref q2, .ref q3, .ref q4])), (q1, .inl (e1, 2064, .inl (fun _ => 0))), (q2, .inl (e2, 2064, .inl (fun _ => 0))), (q3, .inl (e3, 2064, .inl (fun _ => 0))), (q4, .inl (e4, 2064, .inl (fun _ => 0)))] H := hP
      have hD : va_D A [(h0, .inr (1, [.int 0, .int (nI w), .int (nI n), .int 0, .int 0, .int 0, .int 0, .int 0, .int 0, .int 0, .int 0, .int 0, .int 0, .int 0, .int 0, .ref q1, .ref q2, .ref q3, .ref q4])), (q1, .inl (e1, 2064, .inl (fun _ => 0))), (q2, .inl (e2, 2064, .inl (fun _ => 0))), (q3, .inl (e3, 2064, .inl (fun _ => 0))), (q4, .inl (e4, 2064, .inl (fun _ => 0)))] := hD
      exact hret ((fun k => match k with | 0 => h0 | 1 => q1 | 2 => q2 | 3 => q3 | _ => q4, fun k => match k with | 1 => e1 | 2 => e2 | 3 => e3 | _ => e4)) _ _ _ _ hK hP hD hS (rfl) dX1_init_104
