abbrev rX_insertRow : Room := { frames := 2, cells := 0, slots := 0, locals := 42 }
set_option maxHeartbeats 4000000 in
set_option maxRecDepth 100000 in
theorem c_insertRow (l : Launch) (D : va_G) (ad : Nat → Nat) (cs : Nat → ClassId) (w n nr : Nat) (hn : n < 2 ^ 31) (hnr : nr < 2 ^ 31) (K V O M RL G : Nat → Int32) (fed sp se co op ck cv : Int32) (f0 row : Nat) (o : Nat → Nat) (hf0 : f0 ≤ row) (hrow : row < n) (hO : ∀ a, f0 ≤ a → a ≤ row → O a = nI (o a) ∧ o a < n) : ZV (S := (Nat → Int32)) l yX0_insertRow cX0_insertRow 6 rX_insertRow D classes (xt cs) [.ref (ad 0), .int (nI f0), .int (nI row)] (xw ad cs w n nr K V O M RL G fed sp se co op ck cv) (fun O1 => ∃ t, f0 ≤ t ∧ t ≤ row ∧ (∀ a, f0 ≤ a → a ≤ row → O1 a = nI (px_ins o t row a)) ∧ (∀ a, t ≤ a → a < row → kz K (o row) < kz K (o a)) ∧ (t = f0 ∨ kz K (o (t - 1)) ≤ kz K (o row)) ∧ ∀ a, (a < f0 ∨ row < a) → O1 a = O a) (fun O1 => xw ad cs w n nr K V O1 M RL G fed sp se co op ck cv) := by
  refine ZV.of (by decide +kernel) (Nat.le_of_ble_eq_true rfl) ?_
  intro p e s m args below meth c A Q ls C0 hname hK hP hD hS hA hl hret
  have hx := C0.1
  have hb := C0.2.1
  have hl : lv_has ls 6 [(0, .ref (ad 0)), (1, .int (nI f0)), (2, .int (nI row))] := hl
  refine lv_aload_n hx hb dX0_insertRow_0 rfl (lv_at hl 0 rfl) ?_
  refine z_get C0 zt_x0 hK hP 0 rfl rfl 4 (by decide) fl_X0_32 rfl dX0_insertRow_1 ?_
  refine lv_iload_n hx hb dX0_insertRow_4 rfl (lv_at hl 2 rfl) ?_
  refine zx_at C0 hn hK hP hD 3 2 rfl rfl hl.1 (Nat.le_of_ble_eq_true rfl) ⟨by decide, by decide⟩ ⟨Nat.zero_le _, Nat.zero_le _⟩ dX0_insertRow_5 ?_
  refine z_eq (show (za n O (nI row)) = nI (o row) from (za_at hrow hn).trans (hO row hf0 (Nat.le_refl _)).1) ?_
  refine lv_istore_n (lv' := [(3, .int (nI (o row))), (0, .ref (ad 0)), (1, .int (nI f0)), (2, .int (nI row))]) hx hb dX0_insertRow_8 rfl hl (by decide) rfl (fun ls hl => ?_)
  refine lv_aload_n hx hb dX0_insertRow_9 rfl (lv_at hl 1 rfl) ?_
  refine z_get C0 zt_x0 hK hP 0 rfl rfl 2 (by decide) fl_X0_25 rfl dX0_insertRow_10 ?_
  refine lv_iload_n hx hb dX0_insertRow_13 rfl (lv_at hl 0 rfl) ?_
  refine zx_at C0 hn hK hP hD 1 0 rfl rfl hl.1 (Nat.le_of_ble_eq_true rfl) ⟨by decide, by decide⟩ ⟨Nat.zero_le _, Nat.zero_le _⟩ dX0_insertRow_14 ?_
  refine z_eq (show (za n K (nI (o row))) = K (o row) from za_at (hO row hf0 (Nat.le_refl _)).2 hn) ?_
  refine lv_istore (lv' := [(4, .int (K (o row))), (3, .int (nI (o row))), (0, .ref (ad 0)), (1, .int (nI f0)), (2, .int (nI row))]) hx hb dX0_insertRow_17 hl (by decide) rfl (fun ls hl => ?_)
  refine lv_iload_n hx hb dX0_insertRow_19 rfl (lv_at hl 4 rfl) ?_
  refine lv_istore (lv' := [(5, .int (nI row)), (4, .int (K (o row))), (3, .int (nI (o row))), (0, .ref (ad 0)), (1, .int (nI f0)), (2, .int (nI row))]) hx hb dX0_insertRow_20 hl (by decide) rfl (fun ls hl => ?_)
  have loop : ∀ (NN : Nat) (t : Nat) (OC : Nat → Int32) (H : Heap) (locs : List Loc) (ls : Array Slot), (f0 ≤ t ∧ t ≤ row ∧ (∀ a, f0 ≤ a → a ≤ row → OC a = nI (px_sh o t row a)) ∧ (∀ a, t ≤ a → a < row → kz K (o row) < kz K (o a)) ∧ ∀ a, (a < f0 ∨ row < a) → OC a = O a) → t < NN → va_P D classes (xw ad cs w n nr K V OC M RL G fed sp se co op ck cv) H → va_D A (xw ad cs w n nr K V OC M RL G fed sp se co op ck cv) → va_S A s.heap H locs → lv_has ls 6 [(5, .int (nI t)), (4, .int (K (o row))), (3, .int (nI (o row))), (0, .ref (ad 0)), (1, .int (nI f0)), (2, .int (nI row))] → W p l e rX_insertRow s m args below meth c H locs 0 0 Q (F0 m 22 ls []) := by
    intro N22
    induction N22 with
    | zero => intro t OC H locs ls hI hN; exact absurd hN (Nat.not_lt_zero _)
    | succ N22 ih22 =>
      intro t OC H locs ls hI hN22 hP hD hS hl
      obtain ⟨i1, i2, i3, i4, i5⟩ := hI
      refine lv_iload hx hb dX0_insertRow_22 (lv_at hl 0 rfl) ?_
      refine lv_iload_n hx hb dX0_insertRow_24 rfl (lv_at hl 4 rfl) ?_
      refine lv_icmp_le (tgt := 67) hx hb dX0_insertRow_25 (by decide) (fun c1 => ?_) (fun c1 => ?_)
      · have c1 := zle c1 (by omega) (by omega)
        have et : t = f0 := by omega
        refine lv_aload_n hx hb dX0_insertRow_67 rfl (lv_at hl 3 rfl) ?_
        refine z_get C0 zt_x0 hK hP 0 rfl rfl 4 (by decide) fl_X0_32 rfl dX0_insertRow_68 ?_
        refine lv_iload hx hb dX0_insertRow_71 (lv_at hl 0 rfl) ?_
        refine lv_iload_n hx hb dX0_insertRow_73 rfl (lv_at hl 2 rfl) ?_
        refine zx_put C0 hn hK hP hD hS hA 3 2 rfl rfl hl.1 (Nat.le_of_ble_eq_true rfl) ⟨by decide, by decide⟩ ⟨Nat.zero_le _, Nat.zero_le _⟩ dX0_insertRow_74 (fun H locs hP hD hS => ?_)
        have hP : va_P D classes (xw ad cs w n nr K V (zp n OC (nI t) (nI (o row))) M RL G fed sp se co op ck cv) H := hP
        have hD : va_D A (xw ad cs w n nr K V (zp n OC (nI t) (nI (o row))) M RL G fed sp se co op ck cv) := hD
        rw [show (zp n OC (nI t) (nI (o row))) = upd OC t (nI (o row)) from zp_at (by omega) hn] at hP hD
        have hP : va_P D classes (xw ad cs w n nr K V (upd OC t (nI (o row))) M RL G fed sp se co op ck cv) H := hP
        have hD : va_D A (xw ad cs w n nr K V (upd OC t (nI (o row))) M RL G fed sp se co op ck cv) := hD
        exact hret (upd OC t (nI (o row))) _ _ _ _ hP hD hS (⟨t, i1, i2, px_sh_end i3, i4, by first | exact Or.inl et | exact et, fun a h => by rw [upd_ne (by omega)]; exact i5 a h⟩) dX0_insertRow_77
      · have c1 := znle c1 (by omega) (by omega)
        have hot : OC (t - 1) = nI (o (t - 1)) := by rw [i3 (t - 1) (by omega) (by omega), px_sh_lo (by omega)]
        have hon := (hO (t - 1) (by omega) (by omega)).2
        refine lv_aload_n hx hb dX0_insertRow_28 rfl (lv_at hl 3 rfl) ?_
        refine lv_iload hx hb dX0_insertRow_29 (lv_at hl 0 rfl) ?_
        refine lv_iconst (v := 1) hx hb dX0_insertRow_31 (by decide) ?_
        refine lv_isub hx hb dX0_insertRow_32 ?_
        refine z_eq (show ((nI t) - 1) = nI (t - 1) from (pk_sub (b := 1) (by omega))) ?_
        refine zr_callV (As := [.int (nI (t - 1))]) (rest := []) (q0 := 0) (ci := 0) C0 (c_keyOfRow l D ad cs w n nr hn hnr K V OC M RL G fed sp se co op ck cv (nI (t - 1))) zv_X0_X0_keyOfRow ⟨by decide, by decide⟩ ⟨rfl, rfl⟩ rfl hK hP hD rfl rfl rfl hl.1 rfl (Nat.le_of_ble_eq_true rfl) dX0_insertRow_33 ⟨Nat.zero_le _, Nat.zero_le _⟩ (fun r1 er1 => ?_)
        subst er1
        refine z_eq (show (za n K (za n OC (nI (t - 1)))) = K (o (t - 1)) from by rw [za_at (by omega) hn, hot, za_at hon hn]) ?_
        refine lv_iload hx hb dX0_insertRow_36 (lv_at hl 1 rfl) ?_
        refine lv_icmp_le (tgt := 67) hx hb dX0_insertRow_38 (by decide) (fun c2 => ?_) (fun c2 => ?_)
        · have et : t = f0 ∨ kz K (o (t - 1)) ≤ kz K (o row) := Or.inr (kz_le c2)
          refine lv_aload_n hx hb dX0_insertRow_67 rfl (lv_at hl 3 rfl) ?_
          refine z_get C0 zt_x0 hK hP 0 rfl rfl 4 (by decide) fl_X0_32 rfl dX0_insertRow_68 ?_
          refine lv_iload hx hb dX0_insertRow_71 (lv_at hl 0 rfl) ?_
          refine lv_iload_n hx hb dX0_insertRow_73 rfl (lv_at hl 2 rfl) ?_
          refine zx_put C0 hn hK hP hD hS hA 3 2 rfl rfl hl.1 (Nat.le_of_ble_eq_true rfl) ⟨by decide, by decide⟩ ⟨Nat.zero_le _, Nat.zero_le _⟩ dX0_insertRow_74 (fun H locs hP hD hS => ?_)
          have hP : va_P D classes (xw ad cs w n nr K V (zp n OC (nI t) (nI (o row))) M RL G fed sp se co op ck cv) H := hP
          have hD : va_D A (xw ad cs w n nr K V (zp n OC (nI t) (nI (o row))) M RL G fed sp se co op ck cv) := hD
          rw [show (zp n OC (nI t) (nI (o row))) = upd OC t (nI (o row)) from zp_at (by omega) hn] at hP hD
          have hP : va_P D classes (xw ad cs w n nr K V (upd OC t (nI (o row))) M RL G fed sp se co op ck cv) H := hP
          have hD : va_D A (xw ad cs w n nr K V (upd OC t (nI (o row))) M RL G fed sp se co op ck cv) := hD
          exact hret (upd OC t (nI (o row))) _ _ _ _ hP hD hS (⟨t, i1, i2, px_sh_end i3, i4, by first | exact Or.inl et | exact et, fun a h => by rw [upd_ne (by omega)]; exact i5 a h⟩) dX0_insertRow_77
        · refine lv_aload_n hx hb dX0_insertRow_41 rfl (lv_at hl 3 rfl) ?_
          refine z_get C0 zt_x0 hK hP 0 rfl rfl 4 (by decide) fl_X0_32 rfl dX0_insertRow_42 ?_
          refine lv_iload hx hb dX0_insertRow_45 (lv_at hl 0 rfl) ?_
          refine lv_aload_n hx hb dX0_insertRow_47 rfl (lv_at hl 3 rfl) ?_
          refine z_get C0 zt_x0 hK hP 0 rfl rfl 4 (by decide) fl_X0_32 rfl dX0_insertRow_48 ?_
          refine lv_iload hx hb dX0_insertRow_51 (lv_at hl 0 rfl) ?_
          refine lv_iconst (v := 1) hx hb dX0_insertRow_53 (by decide) ?_
          refine lv_isub hx hb dX0_insertRow_54 ?_
          refine z_eq (show ((nI t) - 1) = nI (t - 1) from (pk_sub (b := 1) (by omega))) ?_
          refine zx_at C0 hn hK hP hD 3 2 rfl rfl hl.1 (Nat.le_of_ble_eq_true rfl) ⟨by decide, by decide⟩ ⟨Nat.zero_le _, Nat.zero_le _⟩ dX0_insertRow_55 ?_
          refine z_eq (show (za n OC (nI (t - 1))) = nI (o (t - 1)) from by rw [za_at (by omega) hn, hot]) ?_
          refine zx_put C0 hn hK hP hD hS hA 3 2 rfl rfl hl.1 (Nat.le_of_ble_eq_true rfl) ⟨by decide, by decide⟩ ⟨Nat.zero_le _, Nat.zero_le _⟩ dX0_insertRow_58 (fun H locs hP hD hS => ?_)
          have hP : va_P D classes (xw ad cs w n nr K V (zp n OC (nI t) (nI (o (t - 1)))) M RL G fed sp se co op ck cv) H := hP
          have hD : va_D A (xw ad cs w n nr K V (zp n OC (nI t) (nI (o (t - 1)))) M RL G fed sp se co op ck cv) := hD
          rw [show (zp n OC (nI t) (nI (o (t - 1)))) = upd OC t (nI (o (t - 1))) from zp_at (by omega) hn] at hP hD
          have hP : va_P D classes (xw ad cs w n nr K V (upd OC t (nI (o (t - 1)))) M RL G fed sp se co op ck cv) H := hP
          have hD : va_D A (xw ad cs w n nr K V (upd OC t (nI (o (t - 1)))) M RL G fed sp se co op ck cv) := hD
          refine lv_iinc (v := nI (t - 1)) (lv' := [(5, .int (nI (t - 1))), (4, .int (K (o row))), (3, .int (nI (o row))), (0, .ref (ad 0)), (1, .int (nI f0)), (2, .int (nI row))]) hx hb dX0_insertRow_61 hl (k := 0) rfl (show (nI t) + Int32.ofInt (-1) = nI (t - 1) from (congrArg ((nI t) + ·) (by decide : Int32.ofInt (-1) = -1)).trans (sb_m1 (by omega))) (by decide) rfl (fun ls hl => ?_)
          refine lv_goto (tgt := 22) hx hb dX0_insertRow_64 (by decide) ?_
          exact ih22 (t - 1) (upd OC t (nI (o (t - 1)))) _ _ _ (⟨by omega, by omega, px_sh_step c1 i2 i3, fun a h1 h2 => by rcases Nat.lt_or_ge a t with q | q; (rw [show a = t - 1 by omega]; exact kz_nle c2); (exact i4 a q h2), fun a h => by rw [upd_ne (by omega)]; exact i5 a h⟩) (by omega) hP hD hS (lv_sub hl [0, 1, 2, 3, 4, 5] rfl)
  exact loop _ row O _ _ _ (⟨hf0, Nat.le_refl _, fun a h1 h2 => by rw [px_sh_0]; exact (hO a h1 h2).1, fun a h1 h2 => by omega, fun a _ => rfl⟩) (Nat.lt_succ_self _) hP hD hS (lv_sub hl [0, 1, 2, 3, 4, 5] (rfl))
abbrev rX_sortWorkArea : Room := { frames := 3, cells := 0, slots := 0, locals := 67 }
set_option maxHeartbeats 4000000 in
set_option maxRecDepth 100000 in
theorem c_sortWorkArea (l : Launch) (D : va_G) (ad : Nat → Nat) (cs : Nat → ClassId) (w n nr : Nat) (hn : n < 2 ^ 31) (hnr : nr < 2 ^ 31) (K V O M RL G : Nat → Int32) (se co op ck cv : Int32) (r f : Nat) (hf : f ≤ n) (hn2 : n < 2 ^ 29) (hr : r * w ≤ f) (hO : ∀ a, r * w ≤ a → a < f → O a = nI a) : ZV (S := (Nat → Int32)) l yX0_sortWorkArea cX0_sortWorkArea 3 rX_sortWorkArea D classes (xt cs) [.ref (ad 0)] (xw ad cs w n nr K V O M RL G (nI f) (nI r) se co op ck cv) (fun O1 => xS w K O O1 r f) (fun O1 => xw ad cs w n nr K V O1 M RL G (nI f) (nI r) se co op ck cv) := by
  refine ZV.of (by decide +kernel) (Nat.le_of_ble_eq_true rfl) ?_
  intro p e s m args below meth c A Q ls C0 hname hK hP hD hS hA hl hret
  have hx := C0.1
  have hb := C0.2.1
  have hl : lv_has ls 3 [(0, .ref (ad 0))] := hl
  refine lv_aload_n hx hb dX0_sortWorkArea_0 rfl (lv_at hl 0 rfl) ?_
  refine zr_callV (As := []) (rest := []) (q0 := 0) (ci := 0) C0 (c_spilledPairs l D ad cs w n nr hn hnr K V O M RL G (nI f) (nI r) se co op ck cv) zv_X0_X0_spilledPairs ⟨by decide, by decide⟩ ⟨rfl, rfl⟩ rfl hK hP hD rfl rfl rfl hl.1 rfl (Nat.le_of_ble_eq_true rfl) dX0_sortWorkArea_1 ⟨Nat.zero_le _, Nat.zero_le _⟩ (fun r1 er1 => ?_)
  subst er1
  refine z_eq (show ((nI r) * nI w) = nI (r * w) from pk_mul r w) ?_
  refine lv_istore_n (lv' := [(1, .int (nI (r * w))), (0, .ref (ad 0))]) hx hb dX0_sortWorkArea_4 rfl hl (by decide) rfl (fun ls hl => ?_)
  refine lv_iload_n hx hb dX0_sortWorkArea_5 rfl (lv_at hl 0 rfl) ?_
  refine lv_iconst (v := 1) hx hb dX0_sortWorkArea_6 (by decide) ?_
  refine lv_iadd hx hb dX0_sortWorkArea_7 ?_
  refine z_eq (show ((nI (r * w)) + 1) = nI (r * w + 1) from nI_1 _) ?_
  refine lv_istore_n (lv' := [(2, .int (nI (r * w + 1))), (1, .int (nI (r * w))), (0, .ref (ad 0))]) hx hb dX0_sortWorkArea_8 rfl hl (by decide) rfl (fun ls hl => ?_)
  have loop : ∀ (NN : Nat) (row : Nat) (O1 : Nat → Int32) (o : Nat → Nat) (H : Heap) (locs : List Loc) (ls : Array Slot), (r * w + 1 ≤ row ∧ (row ≤ f ∨ row = r * w + 1) ∧ (∀ a, r * w ≤ a → a < f → O1 a = nI (o a)) ∧ px_srt (kz K) o (r * w) row ∧ px_prm o (r * w) (row - r * w) ∧ (∀ a, row ≤ a → a < f → o a = a) ∧ ∀ a, a < r * w → O1 a = O a) → f + 1 - row < NN → va_P D classes (xw ad cs w n nr K V O1 M RL G (nI f) (nI r) se co op ck cv) H → va_D A (xw ad cs w n nr K V O1 M RL G (nI f) (nI r) se co op ck cv) → va_S A s.heap H locs → lv_has ls 3 [(2, .int (nI row)), (1, .int (nI (r * w))), (0, .ref (ad 0))] → W p l e rX_sortWorkArea s m args below meth c H locs 0 0 Q (F0 m 9 ls []) := by
    intro N9
    induction N9 with
    | zero => intro row O1 o H locs ls hI hN; exact absurd hN (Nat.not_lt_zero _)
    | succ N9 ih9 =>
      intro row O1 o H locs ls hI hN9 hP hD hS hl
      obtain ⟨i1, i2, i3, i4, i5, i6, i7⟩ := hI
      refine lv_iload_n hx hb dX0_sortWorkArea_9 rfl (lv_at hl 0 rfl) ?_
      refine lv_aload_n hx hb dX0_sortWorkArea_10 rfl (lv_at hl 2 rfl) ?_
      refine z_get C0 zt_x0 hK hP 0 rfl rfl 7 (by decide) fl_X0_44 rfl dX0_sortWorkArea_11 ?_
      refine lv_icmp_ge (tgt := 29) hx hb dX0_sortWorkArea_14 (by decide) (fun c1 => ?_) (fun c1 => ?_)
      · have c1 := zle c1 (by omega) (by omega)
        exact hret (O1) _ _ _ _ hP hD hS (⟨o, i3, px_srt_sub i4 c1, by rcases i2 with q | q; (rw [show f - r * w = row - r * w by omega]; exact i5); (rcases Nat.lt_or_ge (r * w) f with z | z; (rw [show f - r * w = row - r * w by omega]; exact i5); (rw [show f - r * w = 0 by omega]; exact fun P => rfl)), i7⟩) dX0_sortWorkArea_29
      · have c1 := znle c1 (by omega) (by omega)
        refine lv_aload_n hx hb dX0_sortWorkArea_17 rfl (lv_at hl 2 rfl) ?_
        refine lv_iload_n hx hb dX0_sortWorkArea_18 rfl (lv_at hl 1 rfl) ?_
        refine lv_iload_n hx hb dX0_sortWorkArea_19 rfl (lv_at hl 0 rfl) ?_
        refine zv_callV0 (As := [.int (nI (r * w)), .int (nI row)]) (rest := []) (q0 := 0) (ci := 0) C0 (c_insertRow l D ad cs w n nr hn hnr K V O1 M RL G (nI f) (nI r) se co op ck cv (r * w) row o (by omega) (by omega) (fun a h1 h2 => ⟨i3 a h1 (by omega), by rcases Nat.lt_or_ge a row with q | q; (have := (i5.rng h1 (by omega)).2; omega); (rw [i6 a q (by omega)]; omega)⟩)) zv_X0_X0_insertRow ⟨by decide, by decide⟩ ⟨rfl, rfl⟩ rfl hK hP hD hS hA rfl rfl rfl hl.1 rfl (Nat.le_of_ble_eq_true rfl) dX0_sortWorkArea_20 ⟨Nat.zero_le _, Nat.zero_le _⟩ (fun O2 H locs hj hP hD hS => ?_)
        obtain ⟨t, j1, j2, j3, j4, j5, j6⟩ := hj
        have hP : va_P D classes (xw ad cs w n nr K V O2 M RL G (nI f) (nI r) se co op ck cv) H := hP
        have hD : va_D A (xw ad cs w n nr K V O2 M RL G (nI f) (nI r) se co op ck cv) := hD
        refine lv_iinc (v := nI (row + 1)) (lv' := [(2, .int (nI (row + 1))), (1, .int (nI (r * w))), (0, .ref (ad 0))]) hx hb dX0_sortWorkArea_23 hl (k := 0) rfl (show (nI row) + Int32.ofInt (1) = nI (row + 1) from (congrArg ((nI row) + ·) (by decide : Int32.ofInt (1) = 1)).trans (nI_1 row)) (by decide) rfl (fun ls hl => ?_)
        refine lv_goto (tgt := 9) hx hb dX0_sortWorkArea_26 (by decide) ?_
        exact ih9 (row + 1) O2 (px_ins o t row) _ _ _ (⟨by omega, Or.inl (by omega), fun a h1 h2 => by rcases Nat.lt_or_ge row a with q | q; (rw [j6 a (Or.inr q), px_ins_hi j2 q]; exact i3 a h1 h2); (exact j3 a h1 q), px_ins_srt j1 j2 i4 i5 (i6 row (Nat.le_refl _) c1) j4 j5, by rw [show row + 1 - r * w = row + 1 - r * w from rfl]; exact px_ins_prm j1 j2 i5 (i6 row (Nat.le_refl _) c1), fun a h1 h2 => by rw [px_ins_hi j2 (by omega)]; exact i6 a (by omega) h2, fun a h => by rw [j6 a (Or.inl h)]; exact i7 a h⟩) (by omega) hP hD hS (lv_sub hl [0, 1, 2] rfl)
  exact loop _ (r * w + 1) O (fun a => a) _ _ _ (⟨Nat.le_refl _, Or.inr rfl, hO, fun a b h1 h2 h3 => by omega, fun P => rfl, fun a _ _ => rfl, fun a _ => rfl⟩) (Nat.lt_succ_self _) hP hD hS (lv_sub hl [0, 1, 2] (rfl))
abbrev rX_append : Room := { frames := 4, cells := 0, slots := 0, locals := 89 }
set_option maxHeartbeats 4000000 in
set_option maxRecDepth 100000 in
theorem c_append (l : Launch) (D : va_G) (ad : Nat → Nat) (cs : Nat → ClassId) (w n nr : Nat) (hn : n < 2 ^ 31) (hnr : nr < 2 ^ 31) (K V O M RL G : Nat → Int32) (se co op ck cv : Int32) (key val : Int32) (r f : Nat) (hf : f < n) (hn2 : n < 2 ^ 29) (hw0 : 0 < w) (hw1 : w < 2 ^ 29) (hO : xO w n K O r f) : ZV (S := ((Nat → Int32) × Nat)) l yX0_append cX0_append 3 rX_append D classes (xt cs) [.ref (ad 0), .int key, .int val] (xw ad cs w n nr K V O M RL G (nI f) (nI r) se co op ck cv) (fun u => u.2 = rnx w r f ∧ xO w n (upd K f key) u.1 u.2 (f + 1)) (fun u => xw ad cs w n nr (upd K f key) (upd V f val) u.1 M RL G (nI (f + 1)) (nI u.2) se co op ck cv) := by
  refine ZV.of (by decide +kernel) (Nat.le_of_ble_eq_true rfl) ?_
  intro p e s m args below meth c A Q ls C0 hname hK hP hD hS hA hl hret
  have hx := C0.1
  have hb := C0.2.1
  have hl : lv_has ls 3 [(0, .ref (ad 0)), (1, .int key), (2, .int val)] := hl
  obtain ⟨ho1, ho2, ho3, -⟩ := id hO
  refine lv_aload_n hx hb dX0_append_0 rfl (lv_at hl 0 rfl) ?_
  refine z_get C0 zt_x0 hK hP 0 rfl rfl 7 (by decide) fl_X0_44 rfl dX0_append_1 ?_
  refine lv_aload_n hx hb dX0_append_4 rfl (lv_at hl 0 rfl) ?_
  refine zr_callV (As := []) (rest := [.int (nI f)]) (q0 := 0) (ci := 0) C0 (c_spilledPairs l D ad cs w n nr hn hnr K V O M RL G (nI f) (nI r) se co op ck cv) zv_X0_X0_spilledPairs ⟨by decide, by decide⟩ ⟨rfl, rfl⟩ rfl hK hP hD rfl rfl rfl hl.1 rfl (Nat.le_of_ble_eq_true rfl) dX0_append_5 ⟨Nat.zero_le _, Nat.zero_le _⟩ (fun r1 er1 => ?_)
  subst er1
  refine z_eq (show ((nI r) * nI w) = nI (r * w) from pk_mul r w) ?_
  refine lv_isub hx hb dX0_append_8 ?_
  refine z_eq (show ((nI f) - (nI (r * w))) = nI (f - r * w) from pk_sub ho1) ?_
  refine lv_aload_n hx hb dX0_append_9 rfl (lv_at hl 0 rfl) ?_
  refine z_get C0 zt_x0 hK hP 0 rfl rfl 0 (by decide) fl_X0_18 rfl dX0_append_10 ?_
  refine lv_icmp_lt (tgt := 30) hx hb dX0_append_13 (by decide) (fun c1 => ?_) (fun c1 => ?_)
  · have c1 := zlt c1 (by omega) (by omega)
    have hrn : rnx w r f = r := by unfold rnx; rw [if_pos (by omega)]
    refine lv_aload_n hx hb dX0_append_30 rfl (lv_at hl 0 rfl) ?_
    refine z_get C0 zt_x0 hK hP 0 rfl rfl 2 (by decide) fl_X0_25 rfl dX0_append_31 ?_
    refine lv_aload_n hx hb dX0_append_34 rfl (lv_at hl 0 rfl) ?_
    refine z_get C0 zt_x0 hK hP 0 rfl rfl 7 (by decide) fl_X0_44 rfl dX0_append_35 ?_
    refine lv_iload_n hx hb dX0_append_38 rfl (lv_at hl 1 rfl) ?_
    refine zx_put C0 hn hK hP hD hS hA 1 0 rfl rfl hl.1 (Nat.le_of_ble_eq_true rfl) ⟨by decide, by decide⟩ ⟨Nat.zero_le _, Nat.zero_le _⟩ dX0_append_39 (fun H locs hP hD hS => ?_)
    have hP : va_P D classes (xw ad cs w n nr (zp n K (nI f) key) V O M RL G (nI f) (nI r) se co op ck cv) H := hP
    have hD : va_D A (xw ad cs w n nr (zp n K (nI f) key) V O M RL G (nI f) (nI r) se co op ck cv) := hD
    rw [show (zp n K (nI f) key) = upd K f key from zp_at hf hn] at hP hD
    have hP : va_P D classes (xw ad cs w n nr (upd K f key) V O M RL G (nI f) (nI r) se co op ck cv) H := hP
    have hD : va_D A (xw ad cs w n nr (upd K f key) V O M RL G (nI f) (nI r) se co op ck cv) := hD
    refine lv_aload_n hx hb dX0_append_42 rfl (lv_at hl 0 rfl) ?_
    refine z_get C0 zt_x0 hK hP 0 rfl rfl 3 (by decide) fl_X0_29 rfl dX0_append_43 ?_
    refine lv_aload_n hx hb dX0_append_46 rfl (lv_at hl 0 rfl) ?_
    refine z_get C0 zt_x0 hK hP 0 rfl rfl 7 (by decide) fl_X0_44 rfl dX0_append_47 ?_
    refine lv_iload_n hx hb dX0_append_50 rfl (lv_at hl 2 rfl) ?_
    refine zx_put C0 hn hK hP hD hS hA 2 1 rfl rfl hl.1 (Nat.le_of_ble_eq_true rfl) ⟨by decide, by decide⟩ ⟨Nat.zero_le _, Nat.zero_le _⟩ dX0_append_51 (fun H locs hP hD hS => ?_)
    have hP : va_P D classes (xw ad cs w n nr (upd K f key) (zp n V (nI f) val) O M RL G (nI f) (nI r) se co op ck cv) H := hP
    have hD : va_D A (xw ad cs w n nr (upd K f key) (zp n V (nI f) val) O M RL G (nI f) (nI r) se co op ck cv) := hD
    rw [show (zp n V (nI f) val) = upd V f val from zp_at hf hn] at hP hD
    have hP : va_P D classes (xw ad cs w n nr (upd K f key) (upd V f val) O M RL G (nI f) (nI r) se co op ck cv) H := hP
    have hD : va_D A (xw ad cs w n nr (upd K f key) (upd V f val) O M RL G (nI f) (nI r) se co op ck cv) := hD
    refine lv_aload_n hx hb dX0_append_54 rfl (lv_at hl 0 rfl) ?_
    refine z_get C0 zt_x0 hK hP 0 rfl rfl 4 (by decide) fl_X0_32 rfl dX0_append_55 ?_
    refine lv_aload_n hx hb dX0_append_58 rfl (lv_at hl 0 rfl) ?_
    refine z_get C0 zt_x0 hK hP 0 rfl rfl 7 (by decide) fl_X0_44 rfl dX0_append_59 ?_
    refine lv_aload_n hx hb dX0_append_62 rfl (lv_at hl 0 rfl) ?_
    refine z_get C0 zt_x0 hK hP 0 rfl rfl 7 (by decide) fl_X0_44 rfl dX0_append_63 ?_
    refine zx_put C0 hn hK hP hD hS hA 3 2 rfl rfl hl.1 (Nat.le_of_ble_eq_true rfl) ⟨by decide, by decide⟩ ⟨Nat.zero_le _, Nat.zero_le _⟩ dX0_append_66 (fun H locs hP hD hS => ?_)
    have hP : va_P D classes (xw ad cs w n nr (upd K f key) (upd V f val) (zp n O (nI f) (nI f)) M RL G (nI f) (nI r) se co op ck cv) H := hP
    have hD : va_D A (xw ad cs w n nr (upd K f key) (upd V f val) (zp n O (nI f) (nI f)) M RL G (nI f) (nI r) se co op ck cv) := hD
    rw [show (zp n O (nI f) (nI f)) = upd O f (nI f) from zp_at hf hn] at hP hD
    have hP : va_P D classes (xw ad cs w n nr (upd K f key) (upd V f val) (upd O f (nI f)) M RL G (nI f) (nI r) se co op ck cv) H := hP
    have hD : va_D A (xw ad cs w n nr (upd K f key) (upd V f val) (upd O f (nI f)) M RL G (nI f) (nI r) se co op ck cv) := hD
    refine lv_aload_n hx hb dX0_append_69 rfl (lv_at hl 0 rfl) ?_
    refine lv_dup hx hb dX0_append_70 rfl ?_
    refine z_get C0 zt_x0 hK hP 0 rfl rfl 7 (by decide) fl_X0_44 rfl dX0_append_71 ?_
    refine lv_iconst (v := 1) hx hb dX0_append_74 (by decide) ?_
    refine lv_iadd hx hb dX0_append_75 ?_
    refine z_eq (show ((nI f) + 1) = nI (f + 1) from nI_1 f) ?_
    refine z_put (ty := .int) C0 zt_x0 tyX0 tyX0_ok nmX0 hK hP hD hS 0 rfl rfl 7 (by decide) fl_X0_44 rfl (by decide +kernel) rfl rfl (Nat.le_of_ble_eq_true rfl) dX0_append_76 (fun H locs hP hD hS => ?_)
    have hP : va_P D classes (xw ad cs w n nr (upd K f key) (upd V f val) (upd O f (nI f)) M RL G (nI (f + 1)) (nI r) se co op ck cv) H := hP
    have hD : va_D A (xw ad cs w n nr (upd K f key) (upd V f val) (upd O f (nI f)) M RL G (nI (f + 1)) (nI r) se co op ck cv) := hD
    exact hret ((upd O f (nI f), r)) _ _ _ _ hP hD hS (⟨hrn.symm, xO_add hO (by omega) hf key⟩) dX0_append_79
  · have c1 := znlt c1 (by omega) (by omega)
    have hrn : rnx w r f = r + 1 := by unfold rnx; rw [if_neg (by omega)]
    refine lv_aload_n hx hb dX0_append_16 rfl (lv_at hl 0 rfl) ?_
    refine zv_callV0 (As := []) (rest := []) (q0 := 0) (ci := 0) C0 (c_sortWorkArea l D ad cs w n nr hn hnr K V O M RL G se co op ck cv r f ho3 hn2 ho1 (xO_id hO)) zv_X0_X0_sortWorkArea ⟨by decide, by decide⟩ ⟨rfl, rfl⟩ rfl hK hP hD hS hA rfl rfl rfl hl.1 rfl (Nat.le_of_ble_eq_true rfl) dX0_append_17 ⟨Nat.zero_le _, Nat.zero_le _⟩ (fun O1 H locs hs hP hD hS => ?_)
    have hP : va_P D classes (xw ad cs w n nr K V O1 M RL G (nI f) (nI r) se co op ck cv) H := hP
    have hD : va_D A (xw ad cs w n nr K V O1 M RL G (nI f) (nI r) se co op ck cv) := hD
    refine lv_aload_n hx hb dX0_append_20 rfl (lv_at hl 0 rfl) ?_
    refine lv_dup hx hb dX0_append_21 rfl ?_
    refine z_get C0 zt_x0 hK hP 0 rfl rfl 8 (by decide) fl_X0_47 rfl dX0_append_22 ?_
    refine lv_iconst (v := 1) hx hb dX0_append_25 (by decide) ?_
    refine lv_iadd hx hb dX0_append_26 ?_
    refine z_eq (show ((nI r) + 1) = nI (r + 1) from nI_1 r) ?_
    refine z_put (ty := .int) C0 zt_x0 tyX0 tyX0_ok nmX0 hK hP hD hS 0 rfl rfl 8 (by decide) fl_X0_47 rfl (by decide +kernel) rfl rfl (Nat.le_of_ble_eq_true rfl) dX0_append_27 (fun H locs hP hD hS => ?_)
    have hP : va_P D classes (xw ad cs w n nr K V O1 M RL G (nI f) (nI (r + 1)) se co op ck cv) H := hP
    have hD : va_D A (xw ad cs w n nr K V O1 M RL G (nI f) (nI (r + 1)) se co op ck cv) := hD
    refine lv_aload_n hx hb dX0_append_30 rfl (lv_at hl 0 rfl) ?_
    refine z_get C0 zt_x0 hK hP 0 rfl rfl 2 (by decide) fl_X0_25 rfl dX0_append_31 ?_
    refine lv_aload_n hx hb dX0_append_34 rfl (lv_at hl 0 rfl) ?_
    refine z_get C0 zt_x0 hK hP 0 rfl rfl 7 (by decide) fl_X0_44 rfl dX0_append_35 ?_
    refine lv_iload_n hx hb dX0_append_38 rfl (lv_at hl 1 rfl) ?_
    refine zx_put C0 hn hK hP hD hS hA 1 0 rfl rfl hl.1 (Nat.le_of_ble_eq_true rfl) ⟨by decide, by decide⟩ ⟨Nat.zero_le _, Nat.zero_le _⟩ dX0_append_39 (fun H locs hP hD hS => ?_)
    have hP : va_P D classes (xw ad cs w n nr (zp n K (nI f) key) V O1 M RL G (nI f) (nI (r + 1)) se co op ck cv) H := hP
    have hD : va_D A (xw ad cs w n nr (zp n K (nI f) key) V O1 M RL G (nI f) (nI (r + 1)) se co op ck cv) := hD
    rw [show (zp n K (nI f) key) = upd K f key from zp_at hf hn] at hP hD
    have hP : va_P D classes (xw ad cs w n nr (upd K f key) V O1 M RL G (nI f) (nI (r + 1)) se co op ck cv) H := hP
    have hD : va_D A (xw ad cs w n nr (upd K f key) V O1 M RL G (nI f) (nI (r + 1)) se co op ck cv) := hD
    refine lv_aload_n hx hb dX0_append_42 rfl (lv_at hl 0 rfl) ?_
    refine z_get C0 zt_x0 hK hP 0 rfl rfl 3 (by decide) fl_X0_29 rfl dX0_append_43 ?_
    refine lv_aload_n hx hb dX0_append_46 rfl (lv_at hl 0 rfl) ?_
    refine z_get C0 zt_x0 hK hP 0 rfl rfl 7 (by decide) fl_X0_44 rfl dX0_append_47 ?_
    refine lv_iload_n hx hb dX0_append_50 rfl (lv_at hl 2 rfl) ?_
    refine zx_put C0 hn hK hP hD hS hA 2 1 rfl rfl hl.1 (Nat.le_of_ble_eq_true rfl) ⟨by decide, by decide⟩ ⟨Nat.zero_le _, Nat.zero_le _⟩ dX0_append_51 (fun H locs hP hD hS => ?_)
    have hP : va_P D classes (xw ad cs w n nr (upd K f key) (zp n V (nI f) val) O1 M RL G (nI f) (nI (r + 1)) se co op ck cv) H := hP
    have hD : va_D A (xw ad cs w n nr (upd K f key) (zp n V (nI f) val) O1 M RL G (nI f) (nI (r + 1)) se co op ck cv) := hD
    rw [show (zp n V (nI f) val) = upd V f val from zp_at hf hn] at hP hD
    have hP : va_P D classes (xw ad cs w n nr (upd K f key) (upd V f val) O1 M RL G (nI f) (nI (r + 1)) se co op ck cv) H := hP
    have hD : va_D A (xw ad cs w n nr (upd K f key) (upd V f val) O1 M RL G (nI f) (nI (r + 1)) se co op ck cv) := hD
    refine lv_aload_n hx hb dX0_append_54 rfl (lv_at hl 0 rfl) ?_
    refine z_get C0 zt_x0 hK hP 0 rfl rfl 4 (by decide) fl_X0_32 rfl dX0_append_55 ?_
    refine lv_aload_n hx hb dX0_append_58 rfl (lv_at hl 0 rfl) ?_
    refine z_get C0 zt_x0 hK hP 0 rfl rfl 7 (by decide) fl_X0_44 rfl dX0_append_59 ?_
    refine lv_aload_n hx hb dX0_append_62 rfl (lv_at hl 0 rfl) ?_
    refine z_get C0 zt_x0 hK hP 0 rfl rfl 7 (by decide) fl_X0_44 rfl dX0_append_63 ?_
    refine zx_put C0 hn hK hP hD hS hA 3 2 rfl rfl hl.1 (Nat.le_of_ble_eq_true rfl) ⟨by decide, by decide⟩ ⟨Nat.zero_le _, Nat.zero_le _⟩ dX0_append_66 (fun H locs hP hD hS => ?_)
    have hP : va_P D classes (xw ad cs w n nr (upd K f key) (upd V f val) (zp n O1 (nI f) (nI f)) M RL G (nI f) (nI (r + 1)) se co op ck cv) H := hP
    have hD : va_D A (xw ad cs w n nr (upd K f key) (upd V f val) (zp n O1 (nI f) (nI f)) M RL G (nI f) (nI (r + 1)) se co op ck cv) := hD
    rw [show (zp n O1 (nI f) (nI f)) = upd O1 f (nI f) from zp_at hf hn] at hP hD
    have hP : va_P D classes (xw ad cs w n nr (upd K f key) (upd V f val) (upd O1 f (nI f)) M RL G (nI f) (nI (r + 1)) se co op ck cv) H := hP
    have hD : va_D A (xw ad cs w n nr (upd K f key) (upd V f val) (upd O1 f (nI f)) M RL G (nI f) (nI (r + 1)) se co op ck cv) := hD
    refine lv_aload_n hx hb dX0_append_69 rfl (lv_at hl 0 rfl) ?_
    refine lv_dup hx hb dX0_append_70 rfl ?_
    refine z_get C0 zt_x0 hK hP 0 rfl rfl 7 (by decide) fl_X0_44 rfl dX0_append_71 ?_
    refine lv_iconst (v := 1) hx hb dX0_append_74 (by decide) ?_
    refine lv_iadd hx hb dX0_append_75 ?_
    refine z_eq (show ((nI f) + 1) = nI (f + 1) from nI_1 f) ?_
    refine z_put (ty := .int) C0 zt_x0 tyX0 tyX0_ok nmX0 hK hP hD hS 0 rfl rfl 7 (by decide) fl_X0_44 rfl (by decide +kernel) rfl rfl (Nat.le_of_ble_eq_true rfl) dX0_append_76 (fun H locs hP hD hS => ?_)
    have hP : va_P D classes (xw ad cs w n nr (upd K f key) (upd V f val) (upd O1 f (nI f)) M RL G (nI (f + 1)) (nI (r + 1)) se co op ck cv) H := hP
    have hD : va_D A (xw ad cs w n nr (upd K f key) (upd V f val) (upd O1 f (nI f)) M RL G (nI (f + 1)) (nI (r + 1)) se co op ck cv) := hD
    exact hret ((upd O1 f (nI f), r + 1)) _ _ _ _ hP hD hS (⟨hrn.symm, xO_add (xO_sp hO hs (by omega)) (by rw [Nat.succ_mul]; omega) hf key⟩) dX0_append_79
