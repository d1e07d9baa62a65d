theorem zmin_n {a b c : Nat} (h : a = c) (ha : a < 2 ^ 31) (hb : b < 2 ^ 31) : (if nI b < nI a then nI b else nI a) = nI (min c b) := by
  subst h
  by_cases q : nI b < nI a
  · have := zlt q hb ha
    rw [if_pos q, show min a b = b by omega]
  · have := znlt q hb ha
    rw [if_neg q, show min a b = a by omega]
abbrev rX_mergeStretches : Room := { frames := 2, cells := 0, slots := 0, locals := 42 }
set_option maxHeartbeats 4000000 in
set_option maxRecDepth 100000 in
theorem c_mergeStretches (l : Launch) (D : va_G) (ad : Nat → Nat) (cs : Nat → ClassId) (w n nr : Nat) (hn : n < 2 ^ 31) (hnr : nr < 2 ^ 31) (K V O M RL G : Nat → Int32) (fed sp se co op ck cv : Int32) (low mid high : Nat) (o : Nat → Nat) (hlm : low ≤ mid) (hmh : mid ≤ high) (hhn : high ≤ n) (hO : ∀ a, low ≤ a → a < high → O a = nI (o a) ∧ o a < n) (hs1 : px_srt (kz K) o low mid) (hs2 : px_srt (kz K) o mid high) (hlr : ∀ a b, low ≤ a → a < mid → mid ≤ b → b < high → o a < o b) : ZV (S := ((Nat → Int32) × (Nat → Int32))) l yX0_mergeStretches cX0_mergeStretches 7 rX_mergeStretches D classes (xt cs) [.ref (ad 0), .int (nI low), .int (nI mid), .int (nI high)] (xw ad cs w n nr K V O M RL G fed sp se co op ck cv) (fun u => ∃ (mm : Nat → Nat) (L R : Nat), (∀ a, low ≤ a → a < high → u.1 a = nI (mm a)) ∧ (∀ a, (a < low ∨ high ≤ a) → u.1 a = O a) ∧ px_mg (kz K) o mm low mid high L R high) (fun u => xw ad cs w n nr K V u.1 u.2 RL G fed sp se co op ck cv) := by
  refine ZV.of (by decide +kernel) (Nat.le_of_ble_eq_true rfl) ?_
  intro p e s m args below meth c A Q ls C0 hname hK hP hD hS hA hl hret
  have hx := C0.1
  have hb := C0.2.1
  have hl : lv_has ls 7 [(0, .ref (ad 0)), (1, .int (nI low)), (2, .int (nI mid)), (3, .int (nI high))] := hl
  refine lv_iload_n hx hb dX0_mergeStretches_0 rfl (lv_at hl 1 rfl) ?_
  refine lv_istore (lv' := [(4, .int (nI low)), (0, .ref (ad 0)), (1, .int (nI low)), (2, .int (nI mid)), (3, .int (nI high))]) hx hb dX0_mergeStretches_1 hl (by decide) rfl (fun ls hl => ?_)
  refine lv_iload_n hx hb dX0_mergeStretches_3 rfl (lv_at hl 3 rfl) ?_
  refine lv_istore (lv' := [(5, .int (nI mid)), (4, .int (nI low)), (0, .ref (ad 0)), (1, .int (nI low)), (2, .int (nI mid)), (3, .int (nI high))]) hx hb dX0_mergeStretches_4 hl (by decide) rfl (fun ls hl => ?_)
  refine lv_iload_n hx hb dX0_mergeStretches_6 rfl (lv_at hl 3 rfl) ?_
  refine lv_istore (lv' := [(6, .int (nI low)), (5, .int (nI mid)), (4, .int (nI low)), (0, .ref (ad 0)), (1, .int (nI low)), (2, .int (nI mid)), (3, .int (nI high))]) hx hb dX0_mergeStretches_7 hl (by decide) rfl (fun ls hl => ?_)
  have loop : ∀ (NN : Nat) (L R T : Nat) (mm : Nat → Nat) (M1 : Nat → Int32) (H : Heap) (locs : List Loc) (ls : Array Slot), (px_mg (kz K) o mm low mid high L R T ∧ T ≤ high ∧ ∀ a, low ≤ a → a < T → M1 a = nI (mm a)) → high - T < NN → va_P D classes (xw ad cs w n nr K V O M1 RL G fed sp se co op ck cv) H → va_D A (xw ad cs w n nr K V O M1 RL G fed sp se co op ck cv) → va_S A s.heap H locs → lv_has ls 7 [(6, .int (nI T)), (5, .int (nI R)), (4, .int (nI L)), (0, .ref (ad 0)), (1, .int (nI low)), (2, .int (nI mid)), (3, .int (nI high))] → W p l e rX_mergeStretches s m args below meth c H locs 0 0 Q (F0 m 9 ls []) := by
    intro N9
    induction N9 with
    | zero => intro L R T mm M1 H locs ls hI hN; exact absurd hN (Nat.not_lt_zero _)
    | succ N9 ih9 =>
      intro L R T mm M1 H locs ls hI hN9 hP hD hS hl
      obtain ⟨hg, hT, hM⟩ := hI
      obtain ⟨g1, g2, g3, g4, g5⟩ := hg.1
      refine lv_iload hx hb dX0_mergeStretches_9 (lv_at hl 0 rfl) ?_
      refine lv_iload_n hx hb dX0_mergeStretches_11 rfl (lv_at hl 6 rfl) ?_
      refine lv_icmp_ge (tgt := 93) hx hb dX0_mergeStretches_12 (by decide) (fun c1 => ?_) (fun c1 => ?_)
      · have c1 := zle c1 (by omega) (by omega)
        have eT : T = high := by omega
        rw [eT] at hg hM
        refine lv_iload_n hx hb dX0_mergeStretches_93 rfl (lv_at hl 4 rfl) ?_
        refine lv_istore (lv' := [(6, .int (nI low)), (5, .int (nI R)), (4, .int (nI L)), (0, .ref (ad 0)), (1, .int (nI low)), (2, .int (nI mid)), (3, .int (nI high))]) hx hb dX0_mergeStretches_94 hl (by decide) rfl (fun ls hl => ?_)
        have loop : ∀ (NN : Nat) (i : Nat) (O1 : Nat → Int32) (H : Heap) (locs : List Loc) (ls : Array Slot), (low ≤ i ∧ i ≤ high ∧ (∀ a, low ≤ a → a < i → O1 a = nI (mm a)) ∧ ∀ a, (a < low ∨ i ≤ a) → O1 a = O a) → high - i < NN → va_P D classes (xw ad cs w n nr K V O1 M1 RL G fed sp se co op ck cv) H → va_D A (xw ad cs w n nr K V O1 M1 RL G fed sp se co op ck cv) → va_S A s.heap H locs → lv_has ls 7 [(6, .int (nI i)), (0, .ref (ad 0)), (1, .int (nI low)), (2, .int (nI mid)), (3, .int (nI high))] → W p l e rX_mergeStretches s m args below meth c H locs 0 0 Q (F0 m 96 ls []) := by
          intro N96
          induction N96 with
          | zero => intro i O1 H locs ls hI hN; exact absurd hN (Nat.not_lt_zero _)
          | succ N96 ih96 =>
            intro i O1 H locs ls hI hN96 hP hD hS hl
            obtain ⟨k1, k2, k3, k4⟩ := hI
            refine lv_iload hx hb dX0_mergeStretches_96 (lv_at hl 0 rfl) ?_
            refine lv_iload_n hx hb dX0_mergeStretches_98 rfl (lv_at hl 4 rfl) ?_
            refine lv_icmp_ge (tgt := 126) hx hb dX0_mergeStretches_99 (by decide) (fun c5 => ?_) (fun c5 => ?_)
            · have c5 := zle c5 (by omega) (by omega)
              have ei : i = high := by omega
              rw [ei] at k3 k4
              exact hret ((O1, M1)) _ _ _ _ hP hD hS (⟨mm, L, R, k3, k4, hg⟩) dX0_mergeStretches_126
            · have c5 := znle c5 (by omega) (by omega)
              refine lv_aload_n hx hb dX0_mergeStretches_102 rfl (lv_at hl 1 rfl) ?_
              refine z_get C0 zt_x0 hK hP 0 rfl rfl 4 (by decide) fl_X0_32 rfl dX0_mergeStretches_103 ?_
              refine lv_iload hx hb dX0_mergeStretches_106 (lv_at hl 0 rfl) ?_
              refine lv_aload_n hx hb dX0_mergeStretches_108 rfl (lv_at hl 1 rfl) ?_
              refine z_get C0 zt_x0 hK hP 0 rfl rfl 5 (by decide) fl_X0_35 rfl dX0_mergeStretches_109 ?_
              refine lv_iload hx hb dX0_mergeStretches_112 (lv_at hl 0 rfl) ?_
              refine zx_at C0 hn hK hP hD 4 3 rfl rfl hl.1 (Nat.le_of_ble_eq_true rfl) ⟨by decide, by decide⟩ ⟨Nat.zero_le _, Nat.zero_le _⟩ dX0_mergeStretches_114 ?_
              refine z_eq (show (za n M1 (nI i)) = nI (mm i) from by rw [za_at (by omega) hn, hM i k1 c5]) ?_
              refine zx_put C0 hn hK hP hD hS hA 3 2 rfl rfl hl.1 (Nat.le_of_ble_eq_true rfl) ⟨by decide, by decide⟩ ⟨Nat.zero_le _, Nat.zero_le _⟩ dX0_mergeStretches_117 (fun H locs hP hD hS => ?_)
              have hP : va_P D classes (xw ad cs w n nr K V (zp n O1 (nI i) (nI (mm i))) M1 RL G fed sp se co op ck cv) H := hP
              have hD : va_D A (xw ad cs w n nr K V (zp n O1 (nI i) (nI (mm i))) M1 RL G fed sp se co op ck cv) := hD
              rw [show (zp n O1 (nI i) (nI (mm i))) = upd O1 i (nI (mm i)) from zp_at (by omega) hn] at hP hD
              have hP : va_P D classes (xw ad cs w n nr K V (upd O1 i (nI (mm i))) M1 RL G fed sp se co op ck cv) H := hP
              have hD : va_D A (xw ad cs w n nr K V (upd O1 i (nI (mm i))) M1 RL G fed sp se co op ck cv) := hD
              refine lv_iinc (v := nI (i + 1)) (lv' := [(6, .int (nI (i + 1))), (0, .ref (ad 0)), (1, .int (nI low)), (2, .int (nI mid)), (3, .int (nI high))]) hx hb dX0_mergeStretches_120 hl (k := 0) rfl (show (nI i) + Int32.ofInt (1) = nI (i + 1) from (congrArg ((nI i) + ·) (by decide : Int32.ofInt (1) = 1)).trans (nI_1 i)) (by decide) rfl (fun ls hl => ?_)
              refine lv_goto (tgt := 96) hx hb dX0_mergeStretches_123 (by decide) ?_
              exact ih96 (i + 1) (upd O1 i (nI (mm i))) _ _ _ (⟨by omega, by omega, fun a h1 h2 => by rcases Nat.lt_or_ge a i with q | q; (rw [upd_ne (by omega)]; exact k3 a h1 q); (rw [show a = i by omega, upd_eq]), fun a h => by rw [upd_ne (by omega)]; exact k4 a (by omega)⟩) (by omega) hP hD hS (lv_sub hl [0, 1, 2, 3, 4] rfl)
        exact loop _ low O _ _ _ (⟨Nat.le_refl _, by omega, fun a h1 h2 => by omega, fun a _ => rfl⟩) (Nat.lt_succ_self _) hP hD hS (lv_sub hl [0, 3, 4, 5, 6] (rfl))
      · have c1 := znle c1 (by omega) (by omega)
        refine lv_iload hx hb dX0_mergeStretches_15 (lv_at hl 1 rfl) ?_
        refine lv_iload_n hx hb dX0_mergeStretches_17 rfl (lv_at hl 6 rfl) ?_
        refine lv_icmp_ge (tgt := 42) hx hb dX0_mergeStretches_18 (by decide) (fun c2 => ?_) (fun c2 => ?_)
        · have c2 := zle c2 (by omega) (by omega)
          have hL : L < mid := by omega
          have hc : R = high ∨ (R < high ∧ px_lt (kz K) (o L) (o R)) := Or.inl (by omega)
          refine lv_aload_n hx hb dX0_mergeStretches_42 rfl (lv_at hl 3 rfl) ?_
          refine z_get C0 zt_x0 hK hP 0 rfl rfl 5 (by decide) fl_X0_35 rfl dX0_mergeStretches_43 ?_
          refine lv_iload hx hb dX0_mergeStretches_46 (lv_at hl 0 rfl) ?_
          refine lv_aload_n hx hb dX0_mergeStretches_48 rfl (lv_at hl 3 rfl) ?_
          refine z_get C0 zt_x0 hK hP 0 rfl rfl 4 (by decide) fl_X0_32 rfl dX0_mergeStretches_49 ?_
          refine lv_iload hx hb dX0_mergeStretches_52 (lv_at hl 2 rfl) ?_
          refine zx_at C0 hn hK hP hD 3 2 rfl rfl hl.1 (Nat.le_of_ble_eq_true rfl) ⟨by decide, by decide⟩ ⟨Nat.zero_le _, Nat.zero_le _⟩ dX0_mergeStretches_54 ?_
          refine z_eq (show (za n O (nI L)) = nI (o L) from by rw [za_at (by omega) hn, (hO L (by omega) (by omega)).1]) ?_
          refine zx_put C0 hn hK hP hD hS hA 4 3 rfl rfl hl.1 (Nat.le_of_ble_eq_true rfl) ⟨by decide, by decide⟩ ⟨Nat.zero_le _, Nat.zero_le _⟩ dX0_mergeStretches_57 (fun H locs hP hD hS => ?_)
          have hP : va_P D classes (xw ad cs w n nr K V O (zp n M1 (nI T) (nI (o L))) RL G fed sp se co op ck cv) H := hP
          have hD : va_D A (xw ad cs w n nr K V O (zp n M1 (nI T) (nI (o L))) RL G fed sp se co op ck cv) := hD
          rw [show (zp n M1 (nI T) (nI (o L))) = upd M1 T (nI (o L)) from zp_at (by omega) hn] at hP hD
          have hP : va_P D classes (xw ad cs w n nr K V O (upd M1 T (nI (o L))) RL G fed sp se co op ck cv) H := hP
          have hD : va_D A (xw ad cs w n nr K V O (upd M1 T (nI (o L))) RL G fed sp se co op ck cv) := hD
          refine lv_iinc (v := nI (L + 1)) (lv' := [(4, .int (nI (L + 1))), (6, .int (nI T)), (5, .int (nI R)), (0, .ref (ad 0)), (1, .int (nI low)), (2, .int (nI mid)), (3, .int (nI high))]) hx hb dX0_mergeStretches_60 hl (k := 2) rfl (show (nI L) + Int32.ofInt (1) = nI (L + 1) from (congrArg ((nI L) + ·) (by decide : Int32.ofInt (1) = 1)).trans (nI_1 L)) (by decide) rfl (fun ls hl => ?_)
          refine lv_goto (tgt := 87) hx hb dX0_mergeStretches_63 (by decide) ?_
          refine lv_iinc (v := nI (T + 1)) (lv' := [(6, .int (nI (T + 1))), (4, .int (nI (L + 1))), (5, .int (nI R)), (0, .ref (ad 0)), (1, .int (nI low)), (2, .int (nI mid)), (3, .int (nI high))]) hx hb dX0_mergeStretches_87 hl (k := 1) rfl (show (nI T) + Int32.ofInt (1) = nI (T + 1) from (congrArg ((nI T) + ·) (by decide : Int32.ofInt (1) = 1)).trans (nI_1 T)) (by decide) rfl (fun ls hl => ?_)
          refine lv_goto (tgt := 9) hx hb dX0_mergeStretches_90 (by decide) ?_
          exact ih9 (L + 1) R (T + 1) (px_up mm T (o L)) (upd M1 T (nI (o L))) _ _ _ (⟨px_mg_l hg hs1 hs2 hL hc, by omega, fun a h1 h2 => by rcases Nat.lt_or_ge a T with q | q; (rw [upd_ne (by omega), px_up_ne (by omega)]; exact hM a h1 q); (rw [show a = T by omega, upd_eq, px_up_eq])⟩) (by omega) hP hD hS (lv_sub hl [0, 2, 1, 3, 4, 5, 6] rfl)
        · have c2 := znle c2 (by omega) (by omega)
          have hR : R < high := c2
          refine lv_iload hx hb dX0_mergeStretches_21 (lv_at hl 2 rfl) ?_
          refine lv_iload_n hx hb dX0_mergeStretches_23 rfl (lv_at hl 5 rfl) ?_
          refine lv_icmp_ge (tgt := 66) hx hb dX0_mergeStretches_24 (by decide) (fun c3 => ?_) (fun c3 => ?_)
          · have c3 := zle c3 (by omega) (by omega)
            have hc : L = mid ∨ (L < mid ∧ px_lt (kz K) (o R) (o L)) := Or.inl (by omega)
            refine lv_aload_n hx hb dX0_mergeStretches_66 rfl (lv_at hl 3 rfl) ?_
            refine z_get C0 zt_x0 hK hP 0 rfl rfl 5 (by decide) fl_X0_35 rfl dX0_mergeStretches_67 ?_
            refine lv_iload hx hb dX0_mergeStretches_70 (lv_at hl 0 rfl) ?_
            refine lv_aload_n hx hb dX0_mergeStretches_72 rfl (lv_at hl 3 rfl) ?_
            refine z_get C0 zt_x0 hK hP 0 rfl rfl 4 (by decide) fl_X0_32 rfl dX0_mergeStretches_73 ?_
            refine lv_iload hx hb dX0_mergeStretches_76 (lv_at hl 1 rfl) ?_
            refine zx_at C0 hn hK hP hD 3 2 rfl rfl hl.1 (Nat.le_of_ble_eq_true rfl) ⟨by decide, by decide⟩ ⟨Nat.zero_le _, Nat.zero_le _⟩ dX0_mergeStretches_78 ?_
            refine z_eq (show (za n O (nI R)) = nI (o R) from by rw [za_at (by omega) hn, (hO R (by omega) (by omega)).1]) ?_
            refine zx_put C0 hn hK hP hD hS hA 4 3 rfl rfl hl.1 (Nat.le_of_ble_eq_true rfl) ⟨by decide, by decide⟩ ⟨Nat.zero_le _, Nat.zero_le _⟩ dX0_mergeStretches_81 (fun H locs hP hD hS => ?_)
            have hP : va_P D classes (xw ad cs w n nr K V O (zp n M1 (nI T) (nI (o R))) RL G fed sp se co op ck cv) H := hP
            have hD : va_D A (xw ad cs w n nr K V O (zp n M1 (nI T) (nI (o R))) RL G fed sp se co op ck cv) := hD
            rw [show (zp n M1 (nI T) (nI (o R))) = upd M1 T (nI (o R)) from zp_at (by omega) hn] at hP hD
            have hP : va_P D classes (xw ad cs w n nr K V O (upd M1 T (nI (o R))) RL G fed sp se co op ck cv) H := hP
            have hD : va_D A (xw ad cs w n nr K V O (upd M1 T (nI (o R))) RL G fed sp se co op ck cv) := hD
            refine lv_iinc (v := nI (R + 1)) (lv' := [(5, .int (nI (R + 1))), (6, .int (nI T)), (4, .int (nI L)), (0, .ref (ad 0)), (1, .int (nI low)), (2, .int (nI mid)), (3, .int (nI high))]) hx hb dX0_mergeStretches_84 hl (k := 1) rfl (show (nI R) + Int32.ofInt (1) = nI (R + 1) from (congrArg ((nI R) + ·) (by decide : Int32.ofInt (1) = 1)).trans (nI_1 R)) (by decide) rfl (fun ls hl => ?_)
            refine lv_iinc (v := nI (T + 1)) (lv' := [(6, .int (nI (T + 1))), (5, .int (nI (R + 1))), (4, .int (nI L)), (0, .ref (ad 0)), (1, .int (nI low)), (2, .int (nI mid)), (3, .int (nI high))]) hx hb dX0_mergeStretches_87 hl (k := 1) rfl (show (nI T) + Int32.ofInt (1) = nI (T + 1) from (congrArg ((nI T) + ·) (by decide : Int32.ofInt (1) = 1)).trans (nI_1 T)) (by decide) rfl (fun ls hl => ?_)
            refine lv_goto (tgt := 9) hx hb dX0_mergeStretches_90 (by decide) ?_
            exact ih9 L (R + 1) (T + 1) (px_up mm T (o R)) (upd M1 T (nI (o R))) _ _ _ (⟨px_mg_r hg hs1 hs2 hR hc, by omega, fun a h1 h2 => by rcases Nat.lt_or_ge a T with q | q; (rw [upd_ne (by omega), px_up_ne (by omega)]; exact hM a h1 q); (rw [show a = T by omega, upd_eq, px_up_eq])⟩) (by omega) hP hD hS (lv_sub hl [0, 1, 2, 3, 4, 5, 6] rfl)
          · have c3 := znle c3 (by omega) (by omega)
            have hL : L < mid := c3
            refine lv_aload_n hx hb dX0_mergeStretches_27 rfl (lv_at hl 3 rfl) ?_
            refine lv_iload hx hb dX0_mergeStretches_28 (lv_at hl 2 rfl) ?_
            refine zr_callV (As := [.int (nI L)]) (rest := []) (q0 := 0) (ci := 0) C0 (c_keyOfRow l D ad cs w n nr hn hnr K V O M1 RL G fed sp se co op ck cv (nI L)) zv_X0_X0_keyOfRow ⟨by decide, by decide⟩ ⟨rfl, rfl⟩ rfl hK hP hD rfl rfl rfl hl.1 rfl (Nat.le_of_ble_eq_true rfl) dX0_mergeStretches_30 ⟨Nat.zero_le _, Nat.zero_le _⟩ (fun r1 er1 => ?_)
            subst er1
            refine z_eq (show (za n K (za n O (nI L))) = K (o L) from by rw [za_at (by omega) hn, (hO L (by omega) (by omega)).1, za_at (hO L (by omega) (by omega)).2 hn]) ?_
            refine lv_aload_n hx hb dX0_mergeStretches_33 rfl (lv_at hl 3 rfl) ?_
            refine lv_iload hx hb dX0_mergeStretches_34 (lv_at hl 1 rfl) ?_
            refine zr_callV (As := [.int (nI R)]) (rest := [.int (K (o L))]) (q0 := 0) (ci := 0) C0 (c_keyOfRow l D ad cs w n nr hn hnr K V O M1 RL G fed sp se co op ck cv (nI R)) zv_X0_X0_keyOfRow ⟨by decide, by decide⟩ ⟨rfl, rfl⟩ rfl hK hP hD rfl rfl rfl hl.1 rfl (Nat.le_of_ble_eq_true rfl) dX0_mergeStretches_36 ⟨Nat.zero_le _, Nat.zero_le _⟩ (fun r2 er2 => ?_)
            subst er2
            refine z_eq (show (za n K (za n O (nI R))) = K (o R) from by rw [za_at (by omega) hn, (hO R (by omega) (by omega)).1, za_at (hO R (by omega) (by omega)).2 hn]) ?_
            refine lv_icmp_gt (tgt := 66) hx hb dX0_mergeStretches_39 (by decide) (fun c4 => ?_) (fun c4 => ?_)
            · have hc : L = mid ∨ (L < mid ∧ px_lt (kz K) (o R) (o L)) := Or.inr ⟨hL, Or.inl (kz_lt c4)⟩
              refine lv_aload_n hx hb dX0_mergeStretches_66 rfl (lv_at hl 3 rfl) ?_
              refine z_get C0 zt_x0 hK hP 0 rfl rfl 5 (by decide) fl_X0_35 rfl dX0_mergeStretches_67 ?_
              refine lv_iload hx hb dX0_mergeStretches_70 (lv_at hl 0 rfl) ?_
              refine lv_aload_n hx hb dX0_mergeStretches_72 rfl (lv_at hl 3 rfl) ?_
              refine z_get C0 zt_x0 hK hP 0 rfl rfl 4 (by decide) fl_X0_32 rfl dX0_mergeStretches_73 ?_
              refine lv_iload hx hb dX0_mergeStretches_76 (lv_at hl 1 rfl) ?_
              refine zx_at C0 hn hK hP hD 3 2 rfl rfl hl.1 (Nat.le_of_ble_eq_true rfl) ⟨by decide, by decide⟩ ⟨Nat.zero_le _, Nat.zero_le _⟩ dX0_mergeStretches_78 ?_
              refine z_eq (show (za n O (nI R)) = nI (o R) from by rw [za_at (by omega) hn, (hO R (by omega) (by omega)).1]) ?_
              refine zx_put C0 hn hK hP hD hS hA 4 3 rfl rfl hl.1 (Nat.le_of_ble_eq_true rfl) ⟨by decide, by decide⟩ ⟨Nat.zero_le _, Nat.zero_le _⟩ dX0_mergeStretches_81 (fun H locs hP hD hS => ?_)
              have hP : va_P D classes (xw ad cs w n nr K V O (zp n M1 (nI T) (nI (o R))) RL G fed sp se co op ck cv) H := hP
              have hD : va_D A (xw ad cs w n nr K V O (zp n M1 (nI T) (nI (o R))) RL G fed sp se co op ck cv) := hD
              rw [show (zp n M1 (nI T) (nI (o R))) = upd M1 T (nI (o R)) from zp_at (by omega) hn] at hP hD
              have hP : va_P D classes (xw ad cs w n nr K V O (upd M1 T (nI (o R))) RL G fed sp se co op ck cv) H := hP
              have hD : va_D A (xw ad cs w n nr K V O (upd M1 T (nI (o R))) RL G fed sp se co op ck cv) := hD
              refine lv_iinc (v := nI (R + 1)) (lv' := [(5, .int (nI (R + 1))), (6, .int (nI T)), (4, .int (nI L)), (0, .ref (ad 0)), (1, .int (nI low)), (2, .int (nI mid)), (3, .int (nI high))]) hx hb dX0_mergeStretches_84 hl (k := 1) rfl (show (nI R) + Int32.ofInt (1) = nI (R + 1) from (congrArg ((nI R) + ·) (by decide : Int32.ofInt (1) = 1)).trans (nI_1 R)) (by decide) rfl (fun ls hl => ?_)
              refine lv_iinc (v := nI (T + 1)) (lv' := [(6, .int (nI (T + 1))), (5, .int (nI (R + 1))), (4, .int (nI L)), (0, .ref (ad 0)), (1, .int (nI low)), (2, .int (nI mid)), (3, .int (nI high))]) hx hb dX0_mergeStretches_87 hl (k := 1) rfl (show (nI T) + Int32.ofInt (1) = nI (T + 1) from (congrArg ((nI T) + ·) (by decide : Int32.ofInt (1) = 1)).trans (nI_1 T)) (by decide) rfl (fun ls hl => ?_)
              refine lv_goto (tgt := 9) hx hb dX0_mergeStretches_90 (by decide) ?_
              exact ih9 L (R + 1) (T + 1) (px_up mm T (o R)) (upd M1 T (nI (o R))) _ _ _ (⟨px_mg_r hg hs1 hs2 hR hc, by omega, fun a h1 h2 => by rcases Nat.lt_or_ge a T with q | q; (rw [upd_ne (by omega), px_up_ne (by omega)]; exact hM a h1 q); (rw [show a = T by omega, upd_eq, px_up_eq])⟩) (by omega) hP hD hS (lv_sub hl [0, 1, 2, 3, 4, 5, 6] rfl)
            · have hc : R = high ∨ (R < high ∧ px_lt (kz K) (o L) (o R)) := by
                have z1 := kz_nlt c4
                have z2 := hlr L R g1 hL g3 hR
                exact Or.inr ⟨hR, by unfold px_lt; omega⟩
              refine lv_aload_n hx hb dX0_mergeStretches_42 rfl (lv_at hl 3 rfl) ?_
              refine z_get C0 zt_x0 hK hP 0 rfl rfl 5 (by decide) fl_X0_35 rfl dX0_mergeStretches_43 ?_
              refine lv_iload hx hb dX0_mergeStretches_46 (lv_at hl 0 rfl) ?_
              refine lv_aload_n hx hb dX0_mergeStretches_48 rfl (lv_at hl 3 rfl) ?_
              refine z_get C0 zt_x0 hK hP 0 rfl rfl 4 (by decide) fl_X0_32 rfl dX0_mergeStretches_49 ?_
              refine lv_iload hx hb dX0_mergeStretches_52 (lv_at hl 2 rfl) ?_
              refine zx_at C0 hn hK hP hD 3 2 rfl rfl hl.1 (Nat.le_of_ble_eq_true rfl) ⟨by decide, by decide⟩ ⟨Nat.zero_le _, Nat.zero_le _⟩ dX0_mergeStretches_54 ?_
              refine z_eq (show (za n O (nI L)) = nI (o L) from by rw [za_at (by omega) hn, (hO L (by omega) (by omega)).1]) ?_
              refine zx_put C0 hn hK hP hD hS hA 4 3 rfl rfl hl.1 (Nat.le_of_ble_eq_true rfl) ⟨by decide, by decide⟩ ⟨Nat.zero_le _, Nat.zero_le _⟩ dX0_mergeStretches_57 (fun H locs hP hD hS => ?_)
              have hP : va_P D classes (xw ad cs w n nr K V O (zp n M1 (nI T) (nI (o L))) RL G fed sp se co op ck cv) H := hP
              have hD : va_D A (xw ad cs w n nr K V O (zp n M1 (nI T) (nI (o L))) RL G fed sp se co op ck cv) := hD
              rw [show (zp n M1 (nI T) (nI (o L))) = upd M1 T (nI (o L)) from zp_at (by omega) hn] at hP hD
              have hP : va_P D classes (xw ad cs w n nr K V O (upd M1 T (nI (o L))) RL G fed sp se co op ck cv) H := hP
              have hD : va_D A (xw ad cs w n nr K V O (upd M1 T (nI (o L))) RL G fed sp se co op ck cv) := hD
              refine lv_iinc (v := nI (L + 1)) (lv' := [(4, .int (nI (L + 1))), (6, .int (nI T)), (5, .int (nI R)), (0, .ref (ad 0)), (1, .int (nI low)), (2, .int (nI mid)), (3, .int (nI high))]) hx hb dX0_mergeStretches_60 hl (k := 2) rfl (show (nI L) + Int32.ofInt (1) = nI (L + 1) from (congrArg ((nI L) + ·) (by decide : Int32.ofInt (1) = 1)).trans (nI_1 L)) (by decide) rfl (fun ls hl => ?_)
              refine lv_goto (tgt := 87) hx hb dX0_mergeStretches_63 (by decide) ?_
              refine lv_iinc (v := nI (T + 1)) (lv' := [(6, .int (nI (T + 1))), (4, .int (nI (L + 1))), (5, .int (nI R)), (0, .ref (ad 0)), (1, .int (nI low)), (2, .int (nI mid)), (3, .int (nI high))]) hx hb dX0_mergeStretches_87 hl (k := 1) rfl (show (nI T) + Int32.ofInt (1) = nI (T + 1) from (congrArg ((nI T) + ·) (by decide : Int32.ofInt (1) = 1)).trans (nI_1 T)) (by decide) rfl (fun ls hl => ?_)
              refine lv_goto (tgt := 9) hx hb dX0_mergeStretches_90 (by decide) ?_
              exact ih9 (L + 1) R (T + 1) (px_up mm T (o L)) (upd M1 T (nI (o L))) _ _ _ (⟨px_mg_l hg hs1 hs2 hL hc, by omega, fun a h1 h2 => by rcases Nat.lt_or_ge a T with q | q; (rw [upd_ne (by omega), px_up_ne (by omega)]; exact hM a h1 q); (rw [show a = T by omega, upd_eq, px_up_eq])⟩) (by omega) hP hD hS (lv_sub hl [0, 2, 1, 3, 4, 5, 6] rfl)
  exact loop _ low mid low (fun a => a) M _ _ _ (⟨px_mg_0 hlm hmh, by omega, fun a h1 h2 => by omega⟩) (Nat.lt_succ_self _) hP hD hS (lv_sub hl [0, 1, 2, 3, 4, 5, 6] (rfl))
abbrev rX_mergeNeighbours : Room := { frames := 3, cells := 0, slots := 0, locals := 68 }
set_option maxHeartbeats 4000000 in
set_option maxRecDepth 100000 in
theorem c_mergeNeighbours (l : Launch) (D : va_G) (ad : Nat → Nat) (cs : Nat → ClassId) (w n nr : Nat) (hn : n < 2 ^ 31) (hnr : nr < 2 ^ 31) (K V O M RL G : Nat → Int32) (sp se co op ck cv : Int32) (wd f : Nat) (hf : f ≤ n) (hn2 : n < 2 ^ 29) (hwd : 0 < wd) (hwf : wd < f) (hX : xM K O wd f) : ZV (S := ((Nat → Int32) × (Nat → Int32))) l yX0_mergeNeighbours cX0_mergeNeighbours 3 rX_mergeNeighbours D classes (xt cs) [.ref (ad 0), .int (nI wd)] (xw ad cs w n nr K V O M RL G (nI f) sp se co op ck cv) (fun u => xM K u.1 (2 * wd) f) (fun u => xw ad cs w n nr K V u.1 u.2 RL G (nI f) sp se co op ck cv) := by
  refine ZV.of (by decide +kernel) (Nat.le_of_ble_eq_true rfl) ?_
  intro p e s m args below meth c A Q ls C0 hname hK hP hD hS hA hl hret
  have hx := C0.1
  have hb := C0.2.1
  have hl : lv_has ls 3 [(0, .ref (ad 0)), (1, .int (nI wd))] := hl
  refine lv_iconst (v := 0) hx hb dX0_mergeNeighbours_0 (by decide) ?_
  refine lv_istore_n (lv' := [(2, .int 0), (0, .ref (ad 0)), (1, .int (nI wd))]) hx hb dX0_mergeNeighbours_1 rfl hl (by decide) rfl (fun ls hl => ?_)
  have loop : ∀ (NN : Nat) (i : Nat) (O1 M1 : Nat → Int32) (H : Heap) (locs : List Loc) (ls : Array Slot), (i * (2 * wd) ≤ f + wd ∧ ∃ o : Nat → Nat, (∀ a, a < f → O1 a = nI (o a)) ∧ px_blk (kz K) o (2 * wd) f 0 (i * (2 * wd)) ∧ px_blk (kz K) o wd f (i * (2 * wd)) f) → f + 1 - i < NN → va_P D classes (xw ad cs w n nr K V O1 M1 RL G (nI f) sp se co op ck cv) H → va_D A (xw ad cs w n nr K V O1 M1 RL G (nI f) sp se co op ck cv) → va_S A s.heap H locs → lv_has ls 3 [(2, .int (nI (i * (2 * wd)))), (0, .ref (ad 0)), (1, .int (nI wd))] → W p l e rX_mergeNeighbours s m args below meth c H locs 0 0 Q (F0 m 2 ls []) := by
    intro N2
    induction N2 with
    | zero => intro i O1 M1 H locs ls hI hN; exact absurd hN (Nat.not_lt_zero _)
    | succ N2 ih2 =>
      intro i O1 M1 H locs ls hI hN2 hP hD hS hl
      obtain ⟨hi, o, i1, i2, i3⟩ := hI
      refine lv_iload_n hx hb dX0_mergeNeighbours_2 rfl (lv_at hl 2 rfl) ?_
      refine lv_if_le (tgt := 45) hx hb dX0_mergeNeighbours_3 (by decide) (fun c0 => False.elim (by have := zle (b := 0) c0 (by omega) (by omega); omega)) (fun c0 => ?_)
      refine lv_iload_n hx hb dX0_mergeNeighbours_6 rfl (lv_at hl 0 rfl) ?_
      refine lv_iload_n hx hb dX0_mergeNeighbours_7 rfl (lv_at hl 2 rfl) ?_
      refine lv_iadd hx hb dX0_mergeNeighbours_8 ?_
      refine z_eq (show ((nI (i * (2 * wd))) + (nI wd)) = nI (i * (2 * wd) + wd) from nI_add _ _) ?_
      refine lv_aload_n hx hb dX0_mergeNeighbours_9 rfl (lv_at hl 1 rfl) ?_
      refine z_get C0 zt_x0 hK hP 0 rfl rfl 7 (by decide) fl_X0_44 rfl dX0_mergeNeighbours_10 ?_
      refine lv_icmp_ge (tgt := 45) hx hb dX0_mergeNeighbours_13 (by decide) (fun c1 => ?_) (fun c1 => ?_)
      · have c1 := zle c1 (by omega) (by omega)
        exact hret ((O1, M1)) _ _ _ _ hP hD hS (⟨o, i1, px_blk_end c1 i2 i3⟩) dX0_mergeNeighbours_45
      · have c1 := znle c1 (by omega) (by omega)
        refine lv_aload_n hx hb dX0_mergeNeighbours_16 rfl (lv_at hl 1 rfl) ?_
        refine lv_iload_n hx hb dX0_mergeNeighbours_17 rfl (lv_at hl 0 rfl) ?_
        refine lv_iload_n hx hb dX0_mergeNeighbours_18 rfl (lv_at hl 0 rfl) ?_
        refine lv_iload_n hx hb dX0_mergeNeighbours_19 rfl (lv_at hl 2 rfl) ?_
        refine lv_iadd hx hb dX0_mergeNeighbours_20 ?_
        refine z_eq (show ((nI (i * (2 * wd))) + (nI wd)) = nI (i * (2 * wd) + wd) from nI_add _ _) ?_
        refine lv_iload_n hx hb dX0_mergeNeighbours_21 rfl (lv_at hl 0 rfl) ?_
        refine lv_iload_n hx hb dX0_mergeNeighbours_22 rfl (lv_at hl 2 rfl) ?_
        refine lv_iadd hx hb dX0_mergeNeighbours_23 ?_
        refine z_eq (show ((nI (i * (2 * wd))) + (nI wd)) = nI (i * (2 * wd) + wd) from nI_add _ _) ?_
        refine lv_iload_n hx hb dX0_mergeNeighbours_24 rfl (lv_at hl 2 rfl) ?_
        refine lv_iadd hx hb dX0_mergeNeighbours_25 ?_
        refine z_eq (show ((nI (i * (2 * wd) + wd)) + (nI wd)) = nI (i * (2 * wd) + wd + wd) from nI_add _ _) ?_
        refine lv_aload_n hx hb dX0_mergeNeighbours_26 rfl (lv_at hl 1 rfl) ?_
        refine z_get C0 zt_x0 hK hP 0 rfl rfl 7 (by decide) fl_X0_44 rfl dX0_mergeNeighbours_27 ?_
        refine z_min C0 zm_min hl.1 ⟨by decide, Nat.le_of_ble_eq_true rfl⟩ ⟨Nat.zero_le _, Nat.zero_le _⟩ dX0_mergeNeighbours_30 ?_
        refine z_eq (show (if (nI f) < (nI (i * (2 * wd) + wd + wd)) then (nI f) else (nI (i * (2 * wd) + wd + wd))) = nI (min (i * (2 * wd) + 2 * wd) f) from zmin_n (by omega) (by omega) (by omega)) ?_
        have e1 : 2 * i * wd = i * (2 * wd) := by rw [Nat.mul_comm 2 i, Nat.mul_assoc]
        have e2 : (2 * i + 1) * wd = i * (2 * wd) + wd := by rw [Nat.succ_mul, e1]
        obtain ⟨b1, b2⟩ := i3 (2 * i) (by rw [e1]; omega) (by rw [e1]; omega)
        obtain ⟨b3, b4⟩ := i3 (2 * i + 1) (by rw [e2]; omega) (by rw [e2]; omega)
        rw [e1] at b1 b2
        rw [e2] at b3 b4
        have m1 : min (i * (2 * wd) + wd) f = i * (2 * wd) + wd := by omega
        have m2 : min (i * (2 * wd) + wd + wd) f = min (i * (2 * wd) + 2 * wd) f := by omega
        rw [m1] at b1 b2
        rw [m2] at b3 b4
        refine zv_callV0 (As := [.int (nI (i * (2 * wd))), .int (nI (i * (2 * wd) + wd)), .int (nI (min (i * (2 * wd) + 2 * wd) f))]) (rest := []) (q0 := 0) (ci := 0) C0 (c_mergeStretches l D ad cs w n nr hn hnr K V O1 M1 RL G (nI f) sp se co op ck cv (i * (2 * wd)) (i * (2 * wd) + wd) (min (i * (2 * wd) + 2 * wd) f) o (by omega) (by omega) (by omega) (fun a h1 h2 => ⟨i1 a (by omega), by rcases Nat.lt_or_ge a (i * (2 * wd) + wd) with q | q; (have := (b2.rng h1 (by omega)).2; omega); (have := (b4.rng q (by omega)).2; omega)⟩) b1 b3 (fun a b h1 h2 h3 h4 => by have z1 := (b2.rng h1 (by omega)).2; have z2 := (b4.rng h3 (by omega)).1; omega)) zv_X0_X0_mergeStretches ⟨by decide, by decide⟩ ⟨rfl, rfl⟩ rfl hK hP hD hS hA rfl rfl rfl hl.1 rfl (Nat.le_of_ble_eq_true rfl) dX0_mergeNeighbours_33 ⟨Nat.zero_le _, Nat.zero_le _⟩ (fun u1 H locs hj hP hD hS => ?_)
        obtain ⟨mm, L, R, j1, j2, j3⟩ := hj
        obtain ⟨s1, s2⟩ := px_mg_end j3 b2 b4
        have hbk := px_blk_step (o' := fun a => if a < i * (2 * wd) ∨ min (i * (2 * wd) + 2 * wd) f ≤ a then o a else mm a) c1 i2 i3 (fun a h => if_pos h) (s1.cg (fun a q1 q2 => if_neg (by omega)) (fun _ _ _ => rfl)) (s2.cg (fun a q1 q2 => if_neg (by omega)))
        have hP : va_P D classes (xw ad cs w n nr K V u1.1 u1.2 RL G (nI f) sp se co op ck cv) H := hP
        have hD : va_D A (xw ad cs w n nr K V u1.1 u1.2 RL G (nI f) sp se co op ck cv) := hD
        refine lv_iload_n hx hb dX0_mergeNeighbours_36 rfl (lv_at hl 0 rfl) ?_
        refine lv_iload_n hx hb dX0_mergeNeighbours_37 rfl (lv_at hl 2 rfl) ?_
        refine lv_iload_n hx hb dX0_mergeNeighbours_38 rfl (lv_at hl 2 rfl) ?_
        refine lv_iadd hx hb dX0_mergeNeighbours_39 ?_
        refine z_eq (show ((nI wd) + (nI wd)) = nI (wd + wd) from nI_add _ _) ?_
        refine lv_iadd hx hb dX0_mergeNeighbours_40 ?_
        refine z_eq (show ((nI (i * (2 * wd))) + (nI (wd + wd))) = nI ((i + 1) * (2 * wd)) from by rw [nI_add, Nat.succ_mul i (2 * wd), show wd + wd = 2 * wd by omega]) ?_
        refine lv_istore_n (lv' := [(2, .int (nI ((i + 1) * (2 * wd)))), (0, .ref (ad 0)), (1, .int (nI wd))]) hx hb dX0_mergeNeighbours_41 rfl hl (by decide) rfl (fun ls hl => ?_)
        refine lv_goto (tgt := 2) hx hb dX0_mergeNeighbours_42 (by decide) ?_
        exact ih2 (i + 1) u1.1 u1.2 _ _ _ (⟨by rw [Nat.succ_mul]; omega, fun a => if a < i * (2 * wd) ∨ min (i * (2 * wd) + 2 * wd) f ≤ a then o a else mm a, fun a ha => by by_cases q : a < i * (2 * wd) ∨ min (i * (2 * wd) + 2 * wd) f ≤ a; (simp only [if_pos q]; rw [j2 a (by omega)]; exact i1 a ha); (simp only [if_neg q]; exact j1 a (by omega) (by omega)), hbk.1, hbk.2⟩) (by have : i ≤ i * (2 * wd) := Nat.le_mul_of_pos_right i (by omega); omega) hP hD hS (lv_sub hl [0, 1, 2] rfl)
  exact loop _ 0 O M _ _ _ (by obtain ⟨o, q1, q2⟩ := hX; rw [Nat.zero_mul]; exact ⟨by omega, o, q1, fun j _ h => by omega, fun j _ h => q2 j (Nat.zero_le _) h⟩) (Nat.lt_succ_self _) hP hD hS (lv_sub hl [0, 1, 2] (by rw [Nat.zero_mul]; rfl))
abbrev rX_mergeRuns : Room := { frames := 4, cells := 0, slots := 0, locals := 90 }
set_option maxHeartbeats 4000000 in
set_option maxRecDepth 100000 in
theorem c_mergeRuns (l : Launch) (D : va_G) (ad : Nat → Nat) (cs : Nat → ClassId) (w n nr : Nat) (hn : n < 2 ^ 31) (hnr : nr < 2 ^ 31) (K V O M RL G : Nat → Int32) (sp se co op ck cv : Int32) (f : Nat) (hf : f ≤ n) (hn2 : n < 2 ^ 29) (hw0 : 0 < w) (hw1 : w < 2 ^ 29) (hcap : f ≤ w * 2048) (hX : xM K O w f) : ZV (S := ((Nat → Int32) × (Nat → Int32))) l yX0_mergeRuns cX0_mergeRuns 3 rX_mergeRuns D classes (xt cs) [.ref (ad 0)] (xw ad cs w n nr K V O M RL G (nI f) sp se co op ck cv) (fun u => ∃ o, xF K u.1 f o) (fun u => xw ad cs w n nr K V u.1 u.2 RL G (nI f) sp se co op ck cv) := by
  refine ZV.of (by decide +kernel) (Nat.le_of_ble_eq_true rfl) ?_
  intro p e s m args below meth c A Q ls C0 hname hK hP hD hS hA hl hret
  have hx := C0.1
  have hb := C0.2.1
  have hl : lv_has ls 3 [(0, .ref (ad 0))] := hl
  refine lv_aload_n hx hb dX0_mergeRuns_0 rfl (lv_at hl 0 rfl) ?_
  refine z_get C0 zt_x0 hK hP 0 rfl rfl 0 (by decide) fl_X0_18 rfl dX0_mergeRuns_1 ?_
  refine lv_istore_n (lv' := [(1, .int (nI w)), (0, .ref (ad 0))]) hx hb dX0_mergeRuns_4 rfl hl (by decide) rfl (fun ls hl => ?_)
  refine lv_iconst (v := 0) hx hb dX0_mergeRuns_5 (by decide) ?_
  refine lv_istore_n (lv' := [(2, .int 0), (1, .int (nI w)), (0, .ref (ad 0))]) hx hb dX0_mergeRuns_6 rfl hl (by decide) rfl (fun ls hl => ?_)
  have loop : ∀ (NN : Nat) (pass wd : Nat) (O1 M1 : Nat → Int32) (H : Heap) (locs : List Loc) (ls : Array Slot), (wd = w * 2 ^ pass ∧ pass ≤ 11 ∧ wd < 2 ^ 30 ∧ xM K O1 wd f) → 11 - pass < NN → va_P D classes (xw ad cs w n nr K V O1 M1 RL G (nI f) sp se co op ck cv) H → va_D A (xw ad cs w n nr K V O1 M1 RL G (nI f) sp se co op ck cv) → va_S A s.heap H locs → lv_has ls 3 [(2, .int (nI pass)), (1, .int (nI wd)), (0, .ref (ad 0))] → W p l e rX_mergeRuns s m args below meth c H locs 0 0 Q (F0 m 7 ls []) := by
    intro N7
    induction N7 with
    | zero => intro pass wd O1 M1 H locs ls hI hN; exact absurd hN (Nat.not_lt_zero _)
    | succ N7 ih7 =>
      intro pass wd O1 M1 H locs ls hI hN7 hP hD hS hl
      obtain ⟨i1, i2, i3, i4⟩ := hI
      have hwd : 0 < wd := by rw [i1]; exact Nat.mul_pos hw0 (Nat.pow_pos (by decide))
      refine lv_iload_n hx hb dX0_mergeRuns_7 rfl (lv_at hl 0 rfl) ?_
      refine lv_bipush (v := 11) hx hb dX0_mergeRuns_8 (by decide) ?_
      refine lv_icmp_ge (tgt := 36) hx hb dX0_mergeRuns_10 (by decide) (fun c1 => ?_) (fun c1 => ?_)
      · have c1 := zle (a := 11) c1 (by omega) (by omega)
        have ep : pass = 11 := by omega
        have hfw : f ≤ wd := by rw [i1, ep]; exact hcap
        exact hret ((O1, M1)) _ _ _ _ hP hD hS (by obtain ⟨o, q1, q2⟩ := i4; obtain ⟨q3, q4⟩ := px_blk_all q2 hfw; exact ⟨o, q1, q3, q4⟩) dX0_mergeRuns_36
      · have c1 := znle (a := 11) c1 (by omega) (by omega)
        refine lv_iload_n hx hb dX0_mergeRuns_13 rfl (lv_at hl 1 rfl) ?_
        refine lv_aload_n hx hb dX0_mergeRuns_14 rfl (lv_at hl 2 rfl) ?_
        refine z_get C0 zt_x0 hK hP 0 rfl rfl 7 (by decide) fl_X0_44 rfl dX0_mergeRuns_15 ?_
        refine lv_icmp_ge (tgt := 36) hx hb dX0_mergeRuns_18 (by decide) (fun c2 => ?_) (fun c2 => ?_)
        · have c2 := zle c2 (by omega) (by omega)
          have hfw : f ≤ wd := c2
          exact hret ((O1, M1)) _ _ _ _ hP hD hS (by obtain ⟨o, q1, q2⟩ := i4; obtain ⟨q3, q4⟩ := px_blk_all q2 hfw; exact ⟨o, q1, q3, q4⟩) dX0_mergeRuns_36
        · have c2 := znle c2 (by omega) (by omega)
          refine lv_aload_n hx hb dX0_mergeRuns_21 rfl (lv_at hl 2 rfl) ?_
          refine lv_iload_n hx hb dX0_mergeRuns_22 rfl (lv_at hl 1 rfl) ?_
          refine zv_callV0 (As := [.int (nI wd)]) (rest := []) (q0 := 0) (ci := 0) C0 (c_mergeNeighbours l D ad cs w n nr hn hnr K V O1 M1 RL G sp se co op ck cv wd f hf hn2 hwd c2 i4) zv_X0_X0_mergeNeighbours ⟨by decide, by decide⟩ ⟨rfl, rfl⟩ rfl hK hP hD hS hA rfl rfl rfl hl.1 rfl (Nat.le_of_ble_eq_true rfl) dX0_mergeRuns_23 ⟨Nat.zero_le _, Nat.zero_le _⟩ (fun u1 H locs hj hP hD hS => ?_)
          have hP : va_P D classes (xw ad cs w n nr K V u1.1 u1.2 RL G (nI f) sp se co op ck cv) H := hP
          have hD : va_D A (xw ad cs w n nr K V u1.1 u1.2 RL G (nI f) sp se co op ck cv) := hD
          refine lv_iload_n hx hb dX0_mergeRuns_26 rfl (lv_at hl 1 rfl) ?_
          refine lv_iload_n hx hb dX0_mergeRuns_27 rfl (lv_at hl 1 rfl) ?_
          refine lv_iadd hx hb dX0_mergeRuns_28 ?_
          refine z_eq (show ((nI wd) + (nI wd)) = nI (wd + wd) from nI_add _ _) ?_
          refine lv_istore_n (lv' := [(1, .int (nI (wd + wd))), (2, .int (nI pass)), (0, .ref (ad 0))]) hx hb dX0_mergeRuns_29 rfl hl (by decide) rfl (fun ls hl => ?_)
          refine lv_iinc (v := nI (pass + 1)) (lv' := [(2, .int (nI (pass + 1))), (1, .int (nI (wd + wd))), (0, .ref (ad 0))]) hx hb dX0_mergeRuns_30 hl (k := 1) rfl (show (nI pass) + Int32.ofInt (1) = nI (pass + 1) from (congrArg ((nI pass) + ·) (by decide : Int32.ofInt (1) = 1)).trans (nI_1 pass)) (by decide) rfl (fun ls hl => ?_)
          refine lv_goto (tgt := 7) hx hb dX0_mergeRuns_33 (by decide) ?_
          exact ih7 (pass + 1) (wd + wd) u1.1 u1.2 _ _ _ (⟨by rw [i1, Nat.pow_succ, ← Nat.mul_assoc]; omega, by omega, by omega, by rw [show wd + wd = 2 * wd by omega]; exact hj⟩) (by omega) hP hD hS (lv_sub hl [0, 1, 2] rfl)
  exact loop _ 0 w O M _ _ _ (⟨by rw [Nat.pow_zero, Nat.mul_one], by omega, by omega, hX⟩) (Nat.lt_succ_self _) hP hD hS (lv_sub hl [0, 1, 2] (rfl))
