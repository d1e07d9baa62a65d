abbrev rX_countRowsOfRuns : Room := { frames := 1, cells := 0, slots := 0, locals := 22 }
set_option maxHeartbeats 4000000 in
set_option maxRecDepth 100000 in
theorem c_countRowsOfRuns (l : Launch) (D : va_G) (ad : Nat → Nat) (cs : Nat → ClassId) (w n nr : Nat) (hn : n < 2 ^ 31) (hnr : nr < 2 ^ 31) (K V O M RL G : Nat → Int32) (se co op ck cv : Int32) (r f : Nat) (hf : f ≤ n) (hn2 : n < 2 ^ 29) (hw0 : 0 < w) (hw1 : w < 2 ^ 29) (hr : r * w ≤ f) (hr2 : r < 2 ^ 29) (hrn : rnn r f ≤ nr) : ZV (S := (Nat → Int32)) l yX0_countRowsOfRuns cX0_countRowsOfRuns 2 rX_countRowsOfRuns D classes (xt cs) [.ref (ad 0)] (xw ad cs w n nr K V O M RL G (nI f) (nI r) se co op ck cv) (fun RL1 => ∀ j, j < rnn r f → RL1 j = nI (min w (f - j * w))) (fun RL1 => xw ad cs w n nr K V O M RL1 G (nI f) (nI r) se co (nI (rnn r f)) ck cv) := by
  refine ZV.of (by decide +kernel) (Nat.le_of_ble_eq_true rfl) ?_
  intro p e s m args below meth c A Q ls C0 hname hK hP hD hS hA hl hret
  have hx := C0.1
  have hb := C0.2.1
  have hl : lv_has ls 2 [(0, .ref (ad 0))] := hl
  refine lv_aload_n hx hb dX0_countRowsOfRuns_0 rfl (lv_at hl 0 rfl) ?_
  refine lv_aload_n hx hb dX0_countRowsOfRuns_1 rfl (lv_at hl 0 rfl) ?_
  refine z_get C0 zt_x0 hK hP 0 rfl rfl 7 (by decide) fl_X0_44 rfl dX0_countRowsOfRuns_2 ?_
  refine lv_if_ne (tgt := 12) hx hb dX0_countRowsOfRuns_5 (by decide) (fun c1 => ?_) (fun c1 => ?_)
  · have c1 : f ≠ 0 := zne (b := 0) c1
    refine lv_aload_n hx hb dX0_countRowsOfRuns_12 rfl (lv_at hl 0 rfl) ?_
    refine z_get C0 zt_x0 hK hP 0 rfl rfl 8 (by decide) fl_X0_47 rfl dX0_countRowsOfRuns_13 ?_
    refine lv_iconst (v := 1) hx hb dX0_countRowsOfRuns_16 (by decide) ?_
    refine lv_iadd hx hb dX0_countRowsOfRuns_17 ?_
    refine z_eq (show ((nI r) + 1) = nI (rnn r f) from by unfold rnn; rw [if_neg c1]; exact nI_1 r) ?_
    refine z_put (ty := .int) C0 zt_x0 tyX0 tyX0_ok nmX0 hK hP hD hS 0 rfl rfl 11 (by decide) fl_X0_57 rfl (by decide +kernel) rfl rfl (Nat.le_of_ble_eq_true rfl) dX0_countRowsOfRuns_18 (fun H locs hP hD hS => ?_)
    have hP : va_P D classes (xw ad cs w n nr K V O M RL G (nI f) (nI r) se co (nI (rnn r f)) ck cv) H := hP
    have hD : va_D A (xw ad cs w n nr K V O M RL G (nI f) (nI r) se co (nI (rnn r f)) ck cv) := hD
    refine lv_iconst (v := 0) hx hb dX0_countRowsOfRuns_21 (by decide) ?_
    refine lv_istore_n (lv' := [(1, .int 0), (0, .ref (ad 0))]) hx hb dX0_countRowsOfRuns_22 rfl hl (by decide) rfl (fun ls hl => ?_)
    have loop : ∀ (NN : Nat) (j : Nat) (RL1 : Nat → Int32) (H : Heap) (locs : List Loc) (ls : Array Slot), (j ≤ rnn r f ∧ ∀ i, i < j → RL1 i = nI (min w (f - i * w))) → rnn r f - j < NN → va_P D classes (xw ad cs w n nr K V O M RL1 G (nI f) (nI r) se co (nI (rnn r f)) ck cv) H → va_D A (xw ad cs w n nr K V O M RL1 G (nI f) (nI r) se co (nI (rnn r f)) ck cv) → va_S A s.heap H locs → lv_has ls 2 [(1, .int (nI j)), (0, .ref (ad 0))] → W p l e rX_countRowsOfRuns s m args below meth c H locs 0 0 Q (F0 m 23 ls []) := by
      intro N23
      induction N23 with
      | zero => intro j RL1 H locs ls hI hN; exact absurd hN (Nat.not_lt_zero _)
      | succ N23 ih23 =>
        intro j RL1 H locs ls hI hN23 hP hD hS hl
        obtain ⟨i1, i2⟩ := hI
        have hrb : rnn r f ≤ r + 1 := by unfold rnn; split <;> omega
        refine lv_iload_n hx hb dX0_countRowsOfRuns_23 rfl (lv_at hl 0 rfl) ?_
        refine lv_aload_n hx hb dX0_countRowsOfRuns_24 rfl (lv_at hl 1 rfl) ?_
        refine z_get C0 zt_x0 hK hP 0 rfl rfl 11 (by decide) fl_X0_57 rfl dX0_countRowsOfRuns_25 ?_
        refine lv_icmp_ge (tgt := 63) hx hb dX0_countRowsOfRuns_28 (by decide) (fun c2 => ?_) (fun c2 => ?_)
        · have c2 := zle c2 (by omega) (by omega)
          have ej : j = rnn r f := by omega
          exact hret (RL1) _ _ _ _ hP hD hS (by rw [← ej]; exact i2) dX0_countRowsOfRuns_63
        · have c2 := znle c2 (by omega) (by omega)
          have hjw : j * w ≤ f := Nat.le_trans (Nat.mul_le_mul_right w (show j ≤ r by omega)) hr
          refine lv_aload_n hx hb dX0_countRowsOfRuns_31 rfl (lv_at hl 1 rfl) ?_
          refine z_get C0 zt_x0 hK hP 0 rfl rfl 6 (by decide) fl_X0_38 rfl dX0_countRowsOfRuns_32 ?_
          refine lv_iload_n hx hb dX0_countRowsOfRuns_35 rfl (lv_at hl 0 rfl) ?_
          refine lv_aload_n hx hb dX0_countRowsOfRuns_36 rfl (lv_at hl 1 rfl) ?_
          refine z_get C0 zt_x0 hK hP 0 rfl rfl 0 (by decide) fl_X0_18 rfl dX0_countRowsOfRuns_37 ?_
          refine lv_aload_n hx hb dX0_countRowsOfRuns_40 rfl (lv_at hl 1 rfl) ?_
          refine z_get C0 zt_x0 hK hP 0 rfl rfl 7 (by decide) fl_X0_44 rfl dX0_countRowsOfRuns_41 ?_
          refine lv_iload_n hx hb dX0_countRowsOfRuns_44 rfl (lv_at hl 0 rfl) ?_
          refine lv_aload_n hx hb dX0_countRowsOfRuns_45 rfl (lv_at hl 1 rfl) ?_
          refine z_get C0 zt_x0 hK hP 0 rfl rfl 0 (by decide) fl_X0_18 rfl dX0_countRowsOfRuns_46 ?_
          refine lv_imul hx hb dX0_countRowsOfRuns_49 ?_
          refine z_eq (show ((nI j) * (nI w)) = nI (j * w) from pk_mul j w) ?_
          refine lv_isub hx hb dX0_countRowsOfRuns_50 ?_
          refine z_eq (show ((nI f) - (nI (j * w))) = nI (f - j * w) from pk_sub hjw) ?_
          refine z_min C0 zm_min hl.1 ⟨by decide, Nat.le_of_ble_eq_true rfl⟩ ⟨Nat.zero_le _, Nat.zero_le _⟩ dX0_countRowsOfRuns_51 ?_
          refine z_eq (show (if (nI (f - j * w)) < (nI w) then (nI (f - j * w)) else (nI w)) = nI (min w (f - j * w)) from zmin_n rfl (by omega) (by omega)) ?_
          refine zx_put C0 hnr hK hP hD hS hA 5 4 rfl rfl hl.1 (Nat.le_of_ble_eq_true rfl) ⟨by decide, by decide⟩ ⟨Nat.zero_le _, Nat.zero_le _⟩ dX0_countRowsOfRuns_54 (fun H locs hP hD hS => ?_)
          have hP : va_P D classes (xw ad cs w n nr K V O M (zp nr RL1 (nI j) (nI (min w (f - j * w)))) G (nI f) (nI r) se co (nI (rnn r f)) ck cv) H := hP
          have hD : va_D A (xw ad cs w n nr K V O M (zp nr RL1 (nI j) (nI (min w (f - j * w)))) G (nI f) (nI r) se co (nI (rnn r f)) ck cv) := hD
          rw [show (zp nr RL1 (nI j) (nI (min w (f - j * w)))) = upd RL1 j (nI (min w (f - j * w))) from zp_at (by omega) hnr] at hP hD
          have hP : va_P D classes (xw ad cs w n nr K V O M (upd RL1 j (nI (min w (f - j * w)))) G (nI f) (nI r) se co (nI (rnn r f)) ck cv) H := hP
          have hD : va_D A (xw ad cs w n nr K V O M (upd RL1 j (nI (min w (f - j * w)))) G (nI f) (nI r) se co (nI (rnn r f)) ck cv) := hD
          refine lv_iinc (v := nI (j + 1)) (lv' := [(1, .int (nI (j + 1))), (0, .ref (ad 0))]) hx hb dX0_countRowsOfRuns_57 hl (k := 0) rfl (show (nI j) + Int32.ofInt (1) = nI (j + 1) from (congrArg ((nI j) + ·) (by decide : Int32.ofInt (1) = 1)).trans (nI_1 j)) (by decide) rfl (fun ls hl => ?_)
          refine lv_goto (tgt := 23) hx hb dX0_countRowsOfRuns_60 (by decide) ?_
          exact ih23 (j + 1) (upd RL1 j (nI (min w (f - j * w)))) _ _ _ (⟨c2, fun i h => by rcases Nat.lt_or_ge i j with q | q; (rw [upd_ne (by omega)]; exact i2 i q); (rw [show i = j by omega, upd_eq])⟩) (by omega) hP hD hS (lv_sub hl [0, 1] rfl)
    exact loop _ 0 RL _ _ _ (⟨Nat.zero_le _, fun i h => absurd h (Nat.not_lt_zero i)⟩) (Nat.lt_succ_self _) hP hD hS (lv_sub hl [0, 1] (rfl))
  · have c1 : f = 0 := zeq (b := 0) c1 (by omega) (by omega)
    refine lv_iconst (v := 0) hx hb dX0_countRowsOfRuns_8 (by decide) ?_
    refine z_eq (show (0) = nI (rnn r f) from by unfold rnn; rw [if_pos c1]; rfl) ?_
    refine lv_goto (tgt := 18) hx hb dX0_countRowsOfRuns_9 (by decide) ?_
    refine z_put (ty := .int) C0 zt_x0 tyX0 tyX0_ok nmX0 hK hP hD hS 0 rfl rfl 11 (by decide) fl_X0_57 rfl (by decide +kernel) rfl rfl (Nat.le_of_ble_eq_true rfl) dX0_countRowsOfRuns_18 (fun H locs hP hD hS => ?_)
    have hP : va_P D classes (xw ad cs w n nr K V O M RL G (nI f) (nI r) se co (nI (rnn r f)) ck cv) H := hP
    have hD : va_D A (xw ad cs w n nr K V O M RL G (nI f) (nI r) se co (nI (rnn r f)) ck cv) := hD
    refine lv_iconst (v := 0) hx hb dX0_countRowsOfRuns_21 (by decide) ?_
    refine lv_istore_n (lv' := [(1, .int 0), (0, .ref (ad 0))]) hx hb dX0_countRowsOfRuns_22 rfl hl (by decide) rfl (fun ls hl => ?_)
    have loop : ∀ (NN : Nat) (j : Nat) (RL1 : Nat → Int32) (H : Heap) (locs : List Loc) (ls : Array Slot), (j ≤ rnn r f ∧ ∀ i, i < j → RL1 i = nI (min w (f - i * w))) → rnn r f - j < NN → va_P D classes (xw ad cs w n nr K V O M RL1 G (nI f) (nI r) se co (nI (rnn r f)) ck cv) H → va_D A (xw ad cs w n nr K V O M RL1 G (nI f) (nI r) se co (nI (rnn r f)) ck cv) → va_S A s.heap H locs → lv_has ls 2 [(1, .int (nI j)), (0, .ref (ad 0))] → W p l e rX_countRowsOfRuns s m args below meth c H locs 0 0 Q (F0 m 23 ls []) := by
      intro N23
      induction N23 with
      | zero => intro j RL1 H locs ls hI hN; exact absurd hN (Nat.not_lt_zero _)
      | succ N23 ih23 =>
        intro j RL1 H locs ls hI hN23 hP hD hS hl
        obtain ⟨i1, i2⟩ := hI
        have hrb : rnn r f ≤ r + 1 := by unfold rnn; split <;> omega
        refine lv_iload_n hx hb dX0_countRowsOfRuns_23 rfl (lv_at hl 0 rfl) ?_
        refine lv_aload_n hx hb dX0_countRowsOfRuns_24 rfl (lv_at hl 1 rfl) ?_
        refine z_get C0 zt_x0 hK hP 0 rfl rfl 11 (by decide) fl_X0_57 rfl dX0_countRowsOfRuns_25 ?_
        refine lv_icmp_ge (tgt := 63) hx hb dX0_countRowsOfRuns_28 (by decide) (fun c2 => ?_) (fun c2 => ?_)
        · have c2 := zle c2 (by omega) (by omega)
          have ej : j = rnn r f := by omega
          exact hret (RL1) _ _ _ _ hP hD hS (by rw [← ej]; exact i2) dX0_countRowsOfRuns_63
        · have c2 := znle c2 (by omega) (by omega)
          have hjw : j * w ≤ f := Nat.le_trans (Nat.mul_le_mul_right w (show j ≤ r by omega)) hr
          refine lv_aload_n hx hb dX0_countRowsOfRuns_31 rfl (lv_at hl 1 rfl) ?_
          refine z_get C0 zt_x0 hK hP 0 rfl rfl 6 (by decide) fl_X0_38 rfl dX0_countRowsOfRuns_32 ?_
          refine lv_iload_n hx hb dX0_countRowsOfRuns_35 rfl (lv_at hl 0 rfl) ?_
          refine lv_aload_n hx hb dX0_countRowsOfRuns_36 rfl (lv_at hl 1 rfl) ?_
          refine z_get C0 zt_x0 hK hP 0 rfl rfl 0 (by decide) fl_X0_18 rfl dX0_countRowsOfRuns_37 ?_
          refine lv_aload_n hx hb dX0_countRowsOfRuns_40 rfl (lv_at hl 1 rfl) ?_
          refine z_get C0 zt_x0 hK hP 0 rfl rfl 7 (by decide) fl_X0_44 rfl dX0_countRowsOfRuns_41 ?_
          refine lv_iload_n hx hb dX0_countRowsOfRuns_44 rfl (lv_at hl 0 rfl) ?_
          refine lv_aload_n hx hb dX0_countRowsOfRuns_45 rfl (lv_at hl 1 rfl) ?_
          refine z_get C0 zt_x0 hK hP 0 rfl rfl 0 (by decide) fl_X0_18 rfl dX0_countRowsOfRuns_46 ?_
          refine lv_imul hx hb dX0_countRowsOfRuns_49 ?_
          refine z_eq (show ((nI j) * (nI w)) = nI (j * w) from pk_mul j w) ?_
          refine lv_isub hx hb dX0_countRowsOfRuns_50 ?_
          refine z_eq (show ((nI f) - (nI (j * w))) = nI (f - j * w) from pk_sub hjw) ?_
          refine z_min C0 zm_min hl.1 ⟨by decide, Nat.le_of_ble_eq_true rfl⟩ ⟨Nat.zero_le _, Nat.zero_le _⟩ dX0_countRowsOfRuns_51 ?_
          refine z_eq (show (if (nI (f - j * w)) < (nI w) then (nI (f - j * w)) else (nI w)) = nI (min w (f - j * w)) from zmin_n rfl (by omega) (by omega)) ?_
          refine zx_put C0 hnr hK hP hD hS hA 5 4 rfl rfl hl.1 (Nat.le_of_ble_eq_true rfl) ⟨by decide, by decide⟩ ⟨Nat.zero_le _, Nat.zero_le _⟩ dX0_countRowsOfRuns_54 (fun H locs hP hD hS => ?_)
          have hP : va_P D classes (xw ad cs w n nr K V O M (zp nr RL1 (nI j) (nI (min w (f - j * w)))) G (nI f) (nI r) se co (nI (rnn r f)) ck cv) H := hP
          have hD : va_D A (xw ad cs w n nr K V O M (zp nr RL1 (nI j) (nI (min w (f - j * w)))) G (nI f) (nI r) se co (nI (rnn r f)) ck cv) := hD
          rw [show (zp nr RL1 (nI j) (nI (min w (f - j * w)))) = upd RL1 j (nI (min w (f - j * w))) from zp_at (by omega) hnr] at hP hD
          have hP : va_P D classes (xw ad cs w n nr K V O M (upd RL1 j (nI (min w (f - j * w)))) G (nI f) (nI r) se co (nI (rnn r f)) ck cv) H := hP
          have hD : va_D A (xw ad cs w n nr K V O M (upd RL1 j (nI (min w (f - j * w)))) G (nI f) (nI r) se co (nI (rnn r f)) ck cv) := hD
          refine lv_iinc (v := nI (j + 1)) (lv' := [(1, .int (nI (j + 1))), (0, .ref (ad 0))]) hx hb dX0_countRowsOfRuns_57 hl (k := 0) rfl (show (nI j) + Int32.ofInt (1) = nI (j + 1) from (congrArg ((nI j) + ·) (by decide : Int32.ofInt (1) = 1)).trans (nI_1 j)) (by decide) rfl (fun ls hl => ?_)
          refine lv_goto (tgt := 23) hx hb dX0_countRowsOfRuns_60 (by decide) ?_
          exact ih23 (j + 1) (upd RL1 j (nI (min w (f - j * w)))) _ _ _ (⟨c2, fun i h => by rcases Nat.lt_or_ge i j with q | q; (rw [upd_ne (by omega)]; exact i2 i q); (rw [show i = j by omega, upd_eq])⟩) (by omega) hP hD hS (lv_sub hl [0, 1] rfl)
    exact loop _ 0 RL _ _ _ (⟨Nat.zero_le _, fun i h => absurd h (Nat.not_lt_zero i)⟩) (Nat.lt_succ_self _) hP hD hS (lv_sub hl [0, 1] (rfl))
abbrev rX_takeFromRun : Room := { frames := 1, cells := 0, slots := 0, locals := 22 }
set_option maxHeartbeats 4000000 in
set_option maxRecDepth 100000 in
theorem c_takeFromRun (l : Launch) (D : va_G) (ad : Nat → Nat) (cs : Nat → ClassId) (w n nr : Nat) (hn : n < 2 ^ 31) (hnr : nr < 2 ^ 31) (K V O M RL G : Nat → Int32) (fed sp se co op ck cv : Int32) (c0 x q : Nat) (hw0 : 0 < w) (hw1 : w < 2 ^ 29) (hc : c0 < n) (hOc : O c0 = nI x) (hx9 : x < 2 ^ 31) (hq9 : q < 2 ^ 31) (hj : x / w < nr) (hRL : RL (x / w) = nI (q + 1)) : ZV (S := Int32) l yX0_takeFromRun cX0_takeFromRun 4 rX_takeFromRun D classes (xt cs) [.ref (ad 0), .int (nI c0)] (xw ad cs w n nr K V O M RL G fed sp se co op ck cv) (fun op1 => op1 = if q = 0 then op - 1 else op) (fun op1 => xw ad cs w n nr K V O M (upd RL (x / w) (nI q)) G fed sp se co op1 ck cv) := by
  refine ZV.of (by decide +kernel) (Nat.le_of_ble_eq_true rfl) ?_
  intro p e s m args below meth c A Q ls C0 hname hK hP hD hS hA hl hret
  have hx := C0.1
  have hb := C0.2.1
  have hl : lv_has ls 4 [(0, .ref (ad 0)), (1, .int (nI c0))] := hl
  refine lv_aload_n hx hb dX0_takeFromRun_0 rfl (lv_at hl 0 rfl) ?_
  refine z_get C0 zt_x0 hK hP 0 rfl rfl 4 (by decide) fl_X0_32 rfl dX0_takeFromRun_1 ?_
  refine lv_iload_n hx hb dX0_takeFromRun_4 rfl (lv_at hl 1 rfl) ?_
  refine zx_at C0 hn hK hP hD 3 2 rfl rfl hl.1 (Nat.le_of_ble_eq_true rfl) ⟨by decide, by decide⟩ ⟨Nat.zero_le _, Nat.zero_le _⟩ dX0_takeFromRun_5 ?_
  refine z_eq (show (za n O (nI c0)) = nI x from (za_at hc hn).trans hOc) ?_
  refine lv_aload_n hx hb dX0_takeFromRun_8 rfl (lv_at hl 0 rfl) ?_
  refine z_get C0 zt_x0 hK hP 0 rfl rfl 0 (by decide) fl_X0_18 rfl dX0_takeFromRun_9 ?_
  refine lv_idiv hx hb dX0_takeFromRun_12 (nI_ne0 hw0 (by omega)) ?_
  refine z_eq (show ((nI x) / (nI w)) = nI (x / w) from pk_div hx9 hw0 (by omega)) ?_
  refine lv_istore_n (lv' := [(2, .int (nI (x / w))), (0, .ref (ad 0)), (1, .int (nI c0))]) hx hb dX0_takeFromRun_13 rfl hl (by decide) rfl (fun ls hl => ?_)
  refine lv_aload_n hx hb dX0_takeFromRun_14 rfl (lv_at hl 1 rfl) ?_
  refine z_get C0 zt_x0 hK hP 0 rfl rfl 6 (by decide) fl_X0_38 rfl dX0_takeFromRun_15 ?_
  refine lv_iload_n hx hb dX0_takeFromRun_18 rfl (lv_at hl 0 rfl) ?_
  refine zx_at C0 hnr hK hP hD 5 4 rfl rfl hl.1 (Nat.le_of_ble_eq_true rfl) ⟨by decide, by decide⟩ ⟨Nat.zero_le _, Nat.zero_le _⟩ dX0_takeFromRun_19 ?_
  refine z_eq (show (za nr RL (nI (x / w))) = nI (q + 1) from (za_at hj hnr).trans hRL) ?_
  refine lv_iconst (v := 1) hx hb dX0_takeFromRun_22 (by decide) ?_
  refine lv_isub hx hb dX0_takeFromRun_23 ?_
  refine z_eq (show ((nI (q + 1)) - 1) = nI q from nI_pred q) ?_
  refine lv_istore_n (lv' := [(3, .int (nI q)), (2, .int (nI (x / w))), (0, .ref (ad 0)), (1, .int (nI c0))]) hx hb dX0_takeFromRun_24 rfl hl (by decide) rfl (fun ls hl => ?_)
  refine lv_aload_n hx hb dX0_takeFromRun_25 rfl (lv_at hl 2 rfl) ?_
  refine z_get C0 zt_x0 hK hP 0 rfl rfl 6 (by decide) fl_X0_38 rfl dX0_takeFromRun_26 ?_
  refine lv_iload_n hx hb dX0_takeFromRun_29 rfl (lv_at hl 1 rfl) ?_
  refine lv_iload_n hx hb dX0_takeFromRun_30 rfl (lv_at hl 0 rfl) ?_
  refine zx_put C0 hnr hK hP hD hS hA 5 4 rfl rfl hl.1 (Nat.le_of_ble_eq_true rfl) ⟨by decide, by decide⟩ ⟨Nat.zero_le _, Nat.zero_le _⟩ dX0_takeFromRun_31 (fun H locs hP hD hS => ?_)
  have hP : va_P D classes (xw ad cs w n nr K V O M (zp nr RL (nI (x / w)) (nI q)) G fed sp se co op ck cv) H := hP
  have hD : va_D A (xw ad cs w n nr K V O M (zp nr RL (nI (x / w)) (nI q)) G fed sp se co op ck cv) := hD
  rw [show (zp nr RL (nI (x / w)) (nI q)) = upd RL (x / w) (nI q) from zp_at hj hnr] at hP hD
  have hP : va_P D classes (xw ad cs w n nr K V O M (upd RL (x / w) (nI q)) G fed sp se co op ck cv) H := hP
  have hD : va_D A (xw ad cs w n nr K V O M (upd RL (x / w) (nI q)) G fed sp se co op ck cv) := hD
  refine lv_iload_n hx hb dX0_takeFromRun_34 rfl (lv_at hl 0 rfl) ?_
  refine lv_if_ne (tgt := 48) hx hb dX0_takeFromRun_35 (by decide) (fun c1 => ?_) (fun c1 => ?_)
  · have c1 : q ≠ 0 := zne (b := 0) c1
    exact hret (op) _ _ _ _ hP hD hS (by rw [if_neg c1]) dX0_takeFromRun_48
  · have c1 : q = 0 := zeq (b := 0) c1 hq9 (by decide)
    refine lv_aload_n hx hb dX0_takeFromRun_38 rfl (lv_at hl 2 rfl) ?_
    refine lv_dup hx hb dX0_takeFromRun_39 rfl ?_
    refine z_get C0 zt_x0 hK hP 0 rfl rfl 11 (by decide) fl_X0_57 rfl dX0_takeFromRun_40 ?_
    refine lv_iconst (v := 1) hx hb dX0_takeFromRun_43 (by decide) ?_
    refine lv_isub hx hb dX0_takeFromRun_44 ?_
    refine z_put (ty := .int) C0 zt_x0 tyX0 tyX0_ok nmX0 hK hP hD hS 0 rfl rfl 11 (by decide) fl_X0_57 rfl (by decide +kernel) rfl rfl (Nat.le_of_ble_eq_true rfl) dX0_takeFromRun_45 (fun H locs hP hD hS => ?_)
    have hP : va_P D classes (xw ad cs w n nr K V O M (upd RL (x / w) (nI q)) G fed sp se co (op - 1) ck cv) H := hP
    have hD : va_D A (xw ad cs w n nr K V O M (upd RL (x / w) (nI q)) G fed sp se co (op - 1) ck cv) := hD
    exact hret (op - 1) _ _ _ _ hP hD hS (by rw [if_pos c1]) dX0_takeFromRun_48
abbrev rX_addToGroup : Room := { frames := 1, cells := 0, slots := 0, locals := 22 }
set_option maxHeartbeats 4000000 in
set_option maxRecDepth 100000 in
theorem c_addToGroup (l : Launch) (D : va_G) (ad : Nat → Nat) (cs : Nat → ClassId) (w n nr : Nat) (hn : n < 2 ^ 31) (hnr : nr < 2 ^ 31) (K V O M RL G : Nat → Int32) (fed sp se co op ck cv : Int32) (v : Int32)  : ZV (S := (Nat → Int32)) l yX0_addToGroup cX0_addToGroup 3 rX_addToGroup D classes (xt cs) [.ref (ad 0), .int v] (xw ad cs w n nr K V O M RL G fed sp se co op ck cv) (fun G1 => G1 0 = G 0 + 1 ∧ G1 1 = G 1 + v ∧ G1 2 = (if G 0 = 0 then v else if v < G 2 then v else G 2) ∧ G1 3 = (if G 0 = 0 then v else if G 3 < v then v else G 3)) (fun G1 => xw ad cs w n nr K V O M RL G1 fed sp se co op ck cv) := by
  refine ZV.of (by decide +kernel) (Nat.le_of_ble_eq_true rfl) ?_
  intro p e s m args below meth c A Q ls C0 hname hK hP hD hS hA hl hret
  have hx := C0.1
  have hb := C0.2.1
  have hl : lv_has ls 3 [(0, .ref (ad 0)), (1, .int v)] := hl
  refine lv_aload_n hx hb dX0_addToGroup_0 rfl (lv_at hl 0 rfl) ?_
  refine z_get C0 zt_x0 hK hP 0 rfl rfl 14 (by decide) fl_X0_41 rfl dX0_addToGroup_1 ?_
  refine lv_iconst (v := 0) hx hb dX0_addToGroup_4 (by decide) ?_
  refine zx_at C0 (by decide) hK hP hD 6 5 rfl rfl hl.1 (Nat.le_of_ble_eq_true rfl) ⟨by decide, by decide⟩ ⟨Nat.zero_le _, Nat.zero_le _⟩ dX0_addToGroup_5 ?_
  refine z_eq (show (za 4 G 0) = G 0 from (za_at (j := 0) (by decide) (by decide))) ?_
  refine lv_if_ne (tgt := 15) hx hb dX0_addToGroup_8 (by decide) (fun c1 => ?_) (fun c1 => ?_)
  · refine lv_iconst (v := 0) hx hb dX0_addToGroup_15 (by decide) ?_
    refine lv_istore_n (lv' := [(2, .int 0), (0, .ref (ad 0)), (1, .int v)]) hx hb dX0_addToGroup_16 rfl hl (by decide) rfl (fun ls hl => ?_)
    refine lv_aload_n hx hb dX0_addToGroup_17 rfl (lv_at hl 1 rfl) ?_
    refine z_get C0 zt_x0 hK hP 0 rfl rfl 14 (by decide) fl_X0_41 rfl dX0_addToGroup_18 ?_
    refine lv_iconst (v := 0) hx hb dX0_addToGroup_21 (by decide) ?_
    refine lv_aload_n hx hb dX0_addToGroup_22 rfl (lv_at hl 1 rfl) ?_
    refine z_get C0 zt_x0 hK hP 0 rfl rfl 14 (by decide) fl_X0_41 rfl dX0_addToGroup_23 ?_
    refine lv_iconst (v := 0) hx hb dX0_addToGroup_26 (by decide) ?_
    refine zx_at C0 (by decide) hK hP hD 6 5 rfl rfl hl.1 (Nat.le_of_ble_eq_true rfl) ⟨by decide, by decide⟩ ⟨Nat.zero_le _, Nat.zero_le _⟩ dX0_addToGroup_27 ?_
    refine z_eq (show (za 4 G 0) = G 0 from (za_at (j := 0) (by decide) (by decide))) ?_
    refine lv_iconst (v := 1) hx hb dX0_addToGroup_30 (by decide) ?_
    refine lv_iadd hx hb dX0_addToGroup_31 ?_
    refine zx_put C0 (by decide) hK hP hD hS hA 6 5 rfl rfl hl.1 (Nat.le_of_ble_eq_true rfl) ⟨by decide, by decide⟩ ⟨Nat.zero_le _, Nat.zero_le _⟩ dX0_addToGroup_32 (fun H locs hP hD hS => ?_)
    have hP : va_P D classes (xw ad cs w n nr K V O M RL (zp 4 G 0 ((G 0) + 1)) fed sp se co op ck cv) H := hP
    have hD : va_D A (xw ad cs w n nr K V O M RL (zp 4 G 0 ((G 0) + 1)) fed sp se co op ck cv) := hD
    rw [show (zp 4 G 0 ((G 0) + 1)) = upd G 0 (G 0 + 1) from zp_at (j := 0) (by decide) (by decide)] at hP hD
    have hP : va_P D classes (xw ad cs w n nr K V O M RL (upd G 0 (G 0 + 1)) fed sp se co op ck cv) H := hP
    have hD : va_D A (xw ad cs w n nr K V O M RL (upd G 0 (G 0 + 1)) fed sp se co op ck cv) := hD
    refine lv_aload_n hx hb dX0_addToGroup_35 rfl (lv_at hl 1 rfl) ?_
    refine z_get C0 zt_x0 hK hP 0 rfl rfl 14 (by decide) fl_X0_41 rfl dX0_addToGroup_36 ?_
    refine lv_iconst (v := 1) hx hb dX0_addToGroup_39 (by decide) ?_
    refine lv_aload_n hx hb dX0_addToGroup_40 rfl (lv_at hl 1 rfl) ?_
    refine z_get C0 zt_x0 hK hP 0 rfl rfl 14 (by decide) fl_X0_41 rfl dX0_addToGroup_41 ?_
    refine lv_iconst (v := 1) hx hb dX0_addToGroup_44 (by decide) ?_
    refine zx_at C0 (by decide) hK hP hD 6 5 rfl rfl hl.1 (Nat.le_of_ble_eq_true rfl) ⟨by decide, by decide⟩ ⟨Nat.zero_le _, Nat.zero_le _⟩ dX0_addToGroup_45 ?_
    refine z_eq (show (za 4 (upd G 0 (G 0 + 1)) 1) = G 1 from (za_at (j := 1) (by decide) (by decide)).trans (upd_ne (by decide))) ?_
    refine lv_iload_n hx hb dX0_addToGroup_48 rfl (lv_at hl 2 rfl) ?_
    refine lv_iadd hx hb dX0_addToGroup_49 ?_
    refine zx_put C0 (by decide) hK hP hD hS hA 6 5 rfl rfl hl.1 (Nat.le_of_ble_eq_true rfl) ⟨by decide, by decide⟩ ⟨Nat.zero_le _, Nat.zero_le _⟩ dX0_addToGroup_50 (fun H locs hP hD hS => ?_)
    have hP : va_P D classes (xw ad cs w n nr K V O M RL (zp 4 (upd G 0 (G 0 + 1)) 1 ((G 1) + v)) fed sp se co op ck cv) H := hP
    have hD : va_D A (xw ad cs w n nr K V O M RL (zp 4 (upd G 0 (G 0 + 1)) 1 ((G 1) + v)) fed sp se co op ck cv) := hD
    rw [show (zp 4 (upd G 0 (G 0 + 1)) 1 ((G 1) + v)) = upd (upd G 0 (G 0 + 1)) 1 (G 1 + v) from zp_at (j := 1) (by decide) (by decide)] at hP hD
    have hP : va_P D classes (xw ad cs w n nr K V O M RL (upd (upd G 0 (G 0 + 1)) 1 (G 1 + v)) fed sp se co op ck cv) H := hP
    have hD : va_D A (xw ad cs w n nr K V O M RL (upd (upd G 0 (G 0 + 1)) 1 (G 1 + v)) fed sp se co op ck cv) := hD
    refine lv_aload_n hx hb dX0_addToGroup_53 rfl (lv_at hl 1 rfl) ?_
    refine z_get C0 zt_x0 hK hP 0 rfl rfl 14 (by decide) fl_X0_41 rfl dX0_addToGroup_54 ?_
    refine lv_iconst (v := 2) hx hb dX0_addToGroup_57 (by decide) ?_
    refine lv_iload_n hx hb dX0_addToGroup_58 rfl (lv_at hl 0 rfl) ?_
    refine lv_if_eq (tgt := 66) hx hb dX0_addToGroup_59 (by decide) (fun hz => ?_) (fun hz => False.elim (hz rfl))
    refine lv_aload_n hx hb dX0_addToGroup_66 rfl (lv_at hl 1 rfl) ?_
    refine z_get C0 zt_x0 hK hP 0 rfl rfl 14 (by decide) fl_X0_41 rfl dX0_addToGroup_67 ?_
    refine lv_iconst (v := 2) hx hb dX0_addToGroup_70 (by decide) ?_
    refine zx_at C0 (by decide) hK hP hD 6 5 rfl rfl hl.1 (Nat.le_of_ble_eq_true rfl) ⟨by decide, by decide⟩ ⟨Nat.zero_le _, Nat.zero_le _⟩ dX0_addToGroup_71 ?_
    refine z_eq (show (za 4 (upd (upd G 0 (G 0 + 1)) 1 (G 1 + v)) 2) = G 2 from (za_at (j := 2) (by decide) (by decide)).trans ((upd_ne (by decide)).trans (upd_ne (by decide)))) ?_
    refine lv_iload_n hx hb dX0_addToGroup_74 rfl (lv_at hl 2 rfl) ?_
    refine z_min C0 zm_min hl.1 ⟨by decide, Nat.le_of_ble_eq_true rfl⟩ ⟨Nat.zero_le _, Nat.zero_le _⟩ dX0_addToGroup_75 ?_
    refine zx_put C0 (by decide) hK hP hD hS hA 6 5 rfl rfl hl.1 (Nat.le_of_ble_eq_true rfl) ⟨by decide, by decide⟩ ⟨Nat.zero_le _, Nat.zero_le _⟩ dX0_addToGroup_78 (fun H locs hP hD hS => ?_)
    have hP : va_P D classes (xw ad cs w n nr K V O M RL (zp 4 (upd (upd G 0 (G 0 + 1)) 1 (G 1 + v)) 2 (if v < (G 2) then v else (G 2))) fed sp se co op ck cv) H := hP
    have hD : va_D A (xw ad cs w n nr K V O M RL (zp 4 (upd (upd G 0 (G 0 + 1)) 1 (G 1 + v)) 2 (if v < (G 2) then v else (G 2))) fed sp se co op ck cv) := hD
    rw [show (zp 4 (upd (upd G 0 (G 0 + 1)) 1 (G 1 + v)) 2 (if v < (G 2) then v else (G 2))) = upd (upd (upd G 0 (G 0 + 1)) 1 (G 1 + v)) 2 (if v < (G 2) then v else (G 2)) from zp_at (j := 2) (by decide) (by decide)] at hP hD
    have hP : va_P D classes (xw ad cs w n nr K V O M RL (upd (upd (upd G 0 (G 0 + 1)) 1 (G 1 + v)) 2 (if v < (G 2) then v else (G 2))) fed sp se co op ck cv) H := hP
    have hD : va_D A (xw ad cs w n nr K V O M RL (upd (upd (upd G 0 (G 0 + 1)) 1 (G 1 + v)) 2 (if v < (G 2) then v else (G 2))) fed sp se co op ck cv) := hD
    refine lv_aload_n hx hb dX0_addToGroup_81 rfl (lv_at hl 1 rfl) ?_
    refine z_get C0 zt_x0 hK hP 0 rfl rfl 14 (by decide) fl_X0_41 rfl dX0_addToGroup_82 ?_
    refine lv_iconst (v := 3) hx hb dX0_addToGroup_85 (by decide) ?_
    refine lv_iload_n hx hb dX0_addToGroup_86 rfl (lv_at hl 0 rfl) ?_
    refine lv_if_eq (tgt := 94) hx hb dX0_addToGroup_87 (by decide) (fun hz => ?_) (fun hz => False.elim (hz rfl))
    refine lv_aload_n hx hb dX0_addToGroup_94 rfl (lv_at hl 1 rfl) ?_
    refine z_get C0 zt_x0 hK hP 0 rfl rfl 14 (by decide) fl_X0_41 rfl dX0_addToGroup_95 ?_
    refine lv_iconst (v := 3) hx hb dX0_addToGroup_98 (by decide) ?_
    refine zx_at C0 (by decide) hK hP hD 6 5 rfl rfl hl.1 (Nat.le_of_ble_eq_true rfl) ⟨by decide, by decide⟩ ⟨Nat.zero_le _, Nat.zero_le _⟩ dX0_addToGroup_99 ?_
    refine z_eq (show (za 4 (upd (upd (upd G 0 (G 0 + 1)) 1 (G 1 + v)) 2 (if v < (G 2) then v else (G 2))) 3) = G 3 from (za_at (j := 3) (by decide) (by decide)).trans ((upd_ne (by decide)).trans ((upd_ne (by decide)).trans (upd_ne (by decide))))) ?_
    refine lv_iload_n hx hb dX0_addToGroup_102 rfl (lv_at hl 2 rfl) ?_
    refine z_max C0 zm_max hl.1 ⟨by decide, Nat.le_of_ble_eq_true rfl⟩ ⟨Nat.zero_le _, Nat.zero_le _⟩ dX0_addToGroup_103 ?_
    refine zx_put C0 (by decide) hK hP hD hS hA 6 5 rfl rfl hl.1 (Nat.le_of_ble_eq_true rfl) ⟨by decide, by decide⟩ ⟨Nat.zero_le _, Nat.zero_le _⟩ dX0_addToGroup_106 (fun H locs hP hD hS => ?_)
    have hP : va_P D classes (xw ad cs w n nr K V O M RL (zp 4 (upd (upd (upd G 0 (G 0 + 1)) 1 (G 1 + v)) 2 (if v < (G 2) then v else (G 2))) 3 (if (G 3) < v then v else (G 3))) fed sp se co op ck cv) H := hP
    have hD : va_D A (xw ad cs w n nr K V O M RL (zp 4 (upd (upd (upd G 0 (G 0 + 1)) 1 (G 1 + v)) 2 (if v < (G 2) then v else (G 2))) 3 (if (G 3) < v then v else (G 3))) fed sp se co op ck cv) := hD
    rw [show (zp 4 (upd (upd (upd G 0 (G 0 + 1)) 1 (G 1 + v)) 2 (if v < (G 2) then v else (G 2))) 3 (if (G 3) < v then v else (G 3))) = upd (upd (upd (upd G 0 (G 0 + 1)) 1 (G 1 + v)) 2 (if v < (G 2) then v else (G 2))) 3 (if (G 3) < v then v else (G 3)) from zp_at (j := 3) (by decide) (by decide)] at hP hD
    have hP : va_P D classes (xw ad cs w n nr K V O M RL (upd (upd (upd (upd G 0 (G 0 + 1)) 1 (G 1 + v)) 2 (if v < (G 2) then v else (G 2))) 3 (if (G 3) < v then v else (G 3))) fed sp se co op ck cv) H := hP
    have hD : va_D A (xw ad cs w n nr K V O M RL (upd (upd (upd (upd G 0 (G 0 + 1)) 1 (G 1 + v)) 2 (if v < (G 2) then v else (G 2))) 3 (if (G 3) < v then v else (G 3))) fed sp se co op ck cv) := hD
    exact hret (upd (upd (upd (upd G 0 (G 0 + 1)) 1 (G 1 + v)) 2 (if v < (G 2) then v else (G 2))) 3 (if (G 3) < v then v else (G 3))) _ _ _ _ hP hD hS (by refine ⟨?_, ?_, ?_, ?_⟩ <;> simp [upd, c1]) dX0_addToGroup_109
  · refine lv_iconst (v := 1) hx hb dX0_addToGroup_11 (by decide) ?_
    refine lv_goto (tgt := 16) hx hb dX0_addToGroup_12 (by decide) ?_
    refine lv_istore_n (lv' := [(2, .int 1), (0, .ref (ad 0)), (1, .int v)]) hx hb dX0_addToGroup_16 rfl hl (by decide) rfl (fun ls hl => ?_)
    refine lv_aload_n hx hb dX0_addToGroup_17 rfl (lv_at hl 1 rfl) ?_
    refine z_get C0 zt_x0 hK hP 0 rfl rfl 14 (by decide) fl_X0_41 rfl dX0_addToGroup_18 ?_
    refine lv_iconst (v := 0) hx hb dX0_addToGroup_21 (by decide) ?_
    refine lv_aload_n hx hb dX0_addToGroup_22 rfl (lv_at hl 1 rfl) ?_
    refine z_get C0 zt_x0 hK hP 0 rfl rfl 14 (by decide) fl_X0_41 rfl dX0_addToGroup_23 ?_
    refine lv_iconst (v := 0) hx hb dX0_addToGroup_26 (by decide) ?_
    refine zx_at C0 (by decide) hK hP hD 6 5 rfl rfl hl.1 (Nat.le_of_ble_eq_true rfl) ⟨by decide, by decide⟩ ⟨Nat.zero_le _, Nat.zero_le _⟩ dX0_addToGroup_27 ?_
    refine z_eq (show (za 4 G 0) = G 0 from (za_at (j := 0) (by decide) (by decide))) ?_
    refine lv_iconst (v := 1) hx hb dX0_addToGroup_30 (by decide) ?_
    refine lv_iadd hx hb dX0_addToGroup_31 ?_
    refine zx_put C0 (by decide) hK hP hD hS hA 6 5 rfl rfl hl.1 (Nat.le_of_ble_eq_true rfl) ⟨by decide, by decide⟩ ⟨Nat.zero_le _, Nat.zero_le _⟩ dX0_addToGroup_32 (fun H locs hP hD hS => ?_)
    have hP : va_P D classes (xw ad cs w n nr K V O M RL (zp 4 G 0 ((G 0) + 1)) fed sp se co op ck cv) H := hP
    have hD : va_D A (xw ad cs w n nr K V O M RL (zp 4 G 0 ((G 0) + 1)) fed sp se co op ck cv) := hD
    rw [show (zp 4 G 0 ((G 0) + 1)) = upd G 0 (G 0 + 1) from zp_at (j := 0) (by decide) (by decide)] at hP hD
    have hP : va_P D classes (xw ad cs w n nr K V O M RL (upd G 0 (G 0 + 1)) fed sp se co op ck cv) H := hP
    have hD : va_D A (xw ad cs w n nr K V O M RL (upd G 0 (G 0 + 1)) fed sp se co op ck cv) := hD
    refine lv_aload_n hx hb dX0_addToGroup_35 rfl (lv_at hl 1 rfl) ?_
    refine z_get C0 zt_x0 hK hP 0 rfl rfl 14 (by decide) fl_X0_41 rfl dX0_addToGroup_36 ?_
    refine lv_iconst (v := 1) hx hb dX0_addToGroup_39 (by decide) ?_
    refine lv_aload_n hx hb dX0_addToGroup_40 rfl (lv_at hl 1 rfl) ?_
    refine z_get C0 zt_x0 hK hP 0 rfl rfl 14 (by decide) fl_X0_41 rfl dX0_addToGroup_41 ?_
    refine lv_iconst (v := 1) hx hb dX0_addToGroup_44 (by decide) ?_
    refine zx_at C0 (by decide) hK hP hD 6 5 rfl rfl hl.1 (Nat.le_of_ble_eq_true rfl) ⟨by decide, by decide⟩ ⟨Nat.zero_le _, Nat.zero_le _⟩ dX0_addToGroup_45 ?_
    refine z_eq (show (za 4 (upd G 0 (G 0 + 1)) 1) = G 1 from (za_at (j := 1) (by decide) (by decide)).trans (upd_ne (by decide))) ?_
    refine lv_iload_n hx hb dX0_addToGroup_48 rfl (lv_at hl 2 rfl) ?_
    refine lv_iadd hx hb dX0_addToGroup_49 ?_
    refine zx_put C0 (by decide) hK hP hD hS hA 6 5 rfl rfl hl.1 (Nat.le_of_ble_eq_true rfl) ⟨by decide, by decide⟩ ⟨Nat.zero_le _, Nat.zero_le _⟩ dX0_addToGroup_50 (fun H locs hP hD hS => ?_)
    have hP : va_P D classes (xw ad cs w n nr K V O M RL (zp 4 (upd G 0 (G 0 + 1)) 1 ((G 1) + v)) fed sp se co op ck cv) H := hP
    have hD : va_D A (xw ad cs w n nr K V O M RL (zp 4 (upd G 0 (G 0 + 1)) 1 ((G 1) + v)) fed sp se co op ck cv) := hD
    rw [show (zp 4 (upd G 0 (G 0 + 1)) 1 ((G 1) + v)) = upd (upd G 0 (G 0 + 1)) 1 (G 1 + v) from zp_at (j := 1) (by decide) (by decide)] at hP hD
    have hP : va_P D classes (xw ad cs w n nr K V O M RL (upd (upd G 0 (G 0 + 1)) 1 (G 1 + v)) fed sp se co op ck cv) H := hP
    have hD : va_D A (xw ad cs w n nr K V O M RL (upd (upd G 0 (G 0 + 1)) 1 (G 1 + v)) fed sp se co op ck cv) := hD
    refine lv_aload_n hx hb dX0_addToGroup_53 rfl (lv_at hl 1 rfl) ?_
    refine z_get C0 zt_x0 hK hP 0 rfl rfl 14 (by decide) fl_X0_41 rfl dX0_addToGroup_54 ?_
    refine lv_iconst (v := 2) hx hb dX0_addToGroup_57 (by decide) ?_
    refine lv_iload_n hx hb dX0_addToGroup_58 rfl (lv_at hl 0 rfl) ?_
    refine lv_if_eq (tgt := 66) hx hb dX0_addToGroup_59 (by decide) (fun hz => False.elim (absurd hz (by decide))) (fun hz => ?_)
    refine lv_iload_n hx hb dX0_addToGroup_62 rfl (lv_at hl 2 rfl) ?_
    refine lv_goto (tgt := 78) hx hb dX0_addToGroup_63 (by decide) ?_
    refine zx_put C0 (by decide) hK hP hD hS hA 6 5 rfl rfl hl.1 (Nat.le_of_ble_eq_true rfl) ⟨by decide, by decide⟩ ⟨Nat.zero_le _, Nat.zero_le _⟩ dX0_addToGroup_78 (fun H locs hP hD hS => ?_)
    have hP : va_P D classes (xw ad cs w n nr K V O M RL (zp 4 (upd (upd G 0 (G 0 + 1)) 1 (G 1 + v)) 2 v) fed sp se co op ck cv) H := hP
    have hD : va_D A (xw ad cs w n nr K V O M RL (zp 4 (upd (upd G 0 (G 0 + 1)) 1 (G 1 + v)) 2 v) fed sp se co op ck cv) := hD
    rw [show (zp 4 (upd (upd G 0 (G 0 + 1)) 1 (G 1 + v)) 2 v) = upd (upd (upd G 0 (G 0 + 1)) 1 (G 1 + v)) 2 (v) from zp_at (j := 2) (by decide) (by decide)] at hP hD
    have hP : va_P D classes (xw ad cs w n nr K V O M RL (upd (upd (upd G 0 (G 0 + 1)) 1 (G 1 + v)) 2 (v)) fed sp se co op ck cv) H := hP
    have hD : va_D A (xw ad cs w n nr K V O M RL (upd (upd (upd G 0 (G 0 + 1)) 1 (G 1 + v)) 2 (v)) fed sp se co op ck cv) := hD
    refine lv_aload_n hx hb dX0_addToGroup_81 rfl (lv_at hl 1 rfl) ?_
    refine z_get C0 zt_x0 hK hP 0 rfl rfl 14 (by decide) fl_X0_41 rfl dX0_addToGroup_82 ?_
    refine lv_iconst (v := 3) hx hb dX0_addToGroup_85 (by decide) ?_
    refine lv_iload_n hx hb dX0_addToGroup_86 rfl (lv_at hl 0 rfl) ?_
    refine lv_if_eq (tgt := 94) hx hb dX0_addToGroup_87 (by decide) (fun hz => False.elim (absurd hz (by decide))) (fun hz => ?_)
    refine lv_iload_n hx hb dX0_addToGroup_90 rfl (lv_at hl 2 rfl) ?_
    refine lv_goto (tgt := 106) hx hb dX0_addToGroup_91 (by decide) ?_
    refine zx_put C0 (by decide) hK hP hD hS hA 6 5 rfl rfl hl.1 (Nat.le_of_ble_eq_true rfl) ⟨by decide, by decide⟩ ⟨Nat.zero_le _, Nat.zero_le _⟩ dX0_addToGroup_106 (fun H locs hP hD hS => ?_)
    have hP : va_P D classes (xw ad cs w n nr K V O M RL (zp 4 (upd (upd (upd G 0 (G 0 + 1)) 1 (G 1 + v)) 2 (v)) 3 v) fed sp se co op ck cv) H := hP
    have hD : va_D A (xw ad cs w n nr K V O M RL (zp 4 (upd (upd (upd G 0 (G 0 + 1)) 1 (G 1 + v)) 2 (v)) 3 v) fed sp se co op ck cv) := hD
    rw [show (zp 4 (upd (upd (upd G 0 (G 0 + 1)) 1 (G 1 + v)) 2 (v)) 3 v) = upd (upd (upd (upd G 0 (G 0 + 1)) 1 (G 1 + v)) 2 (v)) 3 (v) from zp_at (j := 3) (by decide) (by decide)] at hP hD
    have hP : va_P D classes (xw ad cs w n nr K V O M RL (upd (upd (upd (upd G 0 (G 0 + 1)) 1 (G 1 + v)) 2 (v)) 3 (v)) fed sp se co op ck cv) H := hP
    have hD : va_D A (xw ad cs w n nr K V O M RL (upd (upd (upd (upd G 0 (G 0 + 1)) 1 (G 1 + v)) 2 (v)) 3 (v)) fed sp se co op ck cv) := hD
    exact hret (upd (upd (upd (upd G 0 (G 0 + 1)) 1 (G 1 + v)) 2 (v)) 3 (v)) _ _ _ _ hP hD hS (by refine ⟨?_, ?_, ?_, ?_⟩ <;> simp [upd, c1]) dX0_addToGroup_109
abbrev rX_seal : Room := { frames := 5, cells := 0, slots := 0, locals := 112 }
set_option maxHeartbeats 4000000 in
set_option maxRecDepth 100000 in
theorem c_seal (l : Launch) (D : va_G) (ad : Nat → Nat) (cs : Nat → ClassId) (w n nr : Nat) (hn : n < 2 ^ 31) (hnr : nr < 2 ^ 31) (K V O M RL G : Nat → Int32) (co op ck cv : Int32) (r f : Nat) (hn2 : n < 2 ^ 29) (hw0 : 0 < w) (hw1 : w < 2 ^ 29) (hO : xO w n K O r f) (hrf : 0 < f → r * w < f) (hr2 : r < 2 ^ 29) (hrn : rnn r f ≤ nr) (hcap : f ≤ w * 2048) : ZI (S := ((Nat → Int32) × (Nat → Int32) × (Nat → Int32))) l yX0_seal cX0_seal 1 rX_seal D classes (xt cs) [.ref (ad 0)] (xw ad cs w n nr K V O M RL G (nI f) (nI r) 0 co op ck cv) (fun v u => v = 0 ∧ ∃ o, xF K u.1 f o ∧ xR w r f 0 o u.2.2 (nI (rnn r f))) (fun u => xw ad cs w n nr K V u.1 u.2.1 u.2.2 G (nI f) (nI r) 1 co (nI (rnn r f)) ck cv) := by
  refine ZI.of (by decide +kernel) (Nat.le_of_ble_eq_true rfl) ?_
  intro p e s m args below meth c A Q ls C0 hK hP hD hS hA hl hret
  have hx := C0.1
  have hb := C0.2.1
  have hl : lv_has ls 1 [(0, .ref (ad 0))] := hl
  obtain ⟨ho1, ho2, ho3, -⟩ := id hO
  refine lv_aload_n hx hb dX0_seal_0 rfl (lv_at hl 0 rfl) ?_
  refine z_get C0 zt_x0 hK hP 0 rfl rfl 9 (by decide) fl_X0_50 rfl dX0_seal_1 ?_
  refine lv_if_eq (tgt := 10) hx hb dX0_seal_4 (by decide) (fun hz => ?_) (fun hz => False.elim (hz rfl))
  refine lv_aload_n hx hb dX0_seal_10 rfl (lv_at hl 0 rfl) ?_
  refine zv_callV0 (As := []) (rest := []) (q0 := 0) (ci := 0) C0 (c_sortWorkArea l D ad cs w n nr hn hnr K V O M RL G 0 co op ck cv r f ho3 hn2 ho1 (xO_id hO)) zv_X0_X0_sortWorkArea ⟨by decide, by decide⟩ ⟨rfl, rfl⟩ rfl hK hP hD hS hA rfl rfl rfl hl.1 rfl (Nat.le_of_ble_eq_true rfl) dX0_seal_11 ⟨Nat.zero_le _, Nat.zero_le _⟩ (fun O1 H locs hs hP hD hS => ?_)
  have hP : va_P D classes (xw ad cs w n nr K V O1 M RL G (nI f) (nI r) 0 co op ck cv) H := hP
  have hD : va_D A (xw ad cs w n nr K V O1 M RL G (nI f) (nI r) 0 co op ck cv) := hD
  refine lv_aload_n hx hb dX0_seal_14 rfl (lv_at hl 0 rfl) ?_
  refine zv_callV0 (As := []) (rest := []) (q0 := 0) (ci := 0) C0 (c_countRowsOfRuns l D ad cs w n nr hn hnr K V O1 M RL G 0 co op ck cv r f ho3 hn2 hw0 hw1 ho1 hr2 hrn) zv_X0_X0_countRowsOfRuns ⟨by decide, by decide⟩ ⟨rfl, rfl⟩ rfl hK hP hD hS hA rfl rfl rfl hl.1 rfl (Nat.le_of_ble_eq_true rfl) dX0_seal_15 ⟨Nat.zero_le _, Nat.zero_le _⟩ (fun RL1 H locs hc hP hD hS => ?_)
  have hP : va_P D classes (xw ad cs w n nr K V O1 M RL1 G (nI f) (nI r) 0 co (nI (rnn r f)) ck cv) H := hP
  have hD : va_D A (xw ad cs w n nr K V O1 M RL1 G (nI f) (nI r) 0 co (nI (rnn r f)) ck cv) := hD
  refine lv_aload_n hx hb dX0_seal_18 rfl (lv_at hl 0 rfl) ?_
  refine zv_callV0 (As := []) (rest := []) (q0 := 0) (ci := 0) C0 (c_mergeRuns l D ad cs w n nr hn hnr K V O1 M RL1 G (nI r) 0 co (nI (rnn r f)) ck cv f ho3 hn2 hw0 hw1 hcap (xM_of hO hs)) zv_X0_X0_mergeRuns ⟨by decide, by decide⟩ ⟨rfl, rfl⟩ rfl hK hP hD hS hA rfl rfl rfl hl.1 rfl (Nat.le_of_ble_eq_true rfl) dX0_seal_19 ⟨Nat.zero_le _, Nat.zero_le _⟩ (fun u1 H locs hm hP hD hS => ?_)
  obtain ⟨o, hm⟩ := hm
  have hP : va_P D classes (xw ad cs w n nr K V u1.1 u1.2 RL1 G (nI f) (nI r) 0 co (nI (rnn r f)) ck cv) H := hP
  have hD : va_D A (xw ad cs w n nr K V u1.1 u1.2 RL1 G (nI f) (nI r) 0 co (nI (rnn r f)) ck cv) := hD
  refine lv_aload_n hx hb dX0_seal_22 rfl (lv_at hl 0 rfl) ?_
  refine lv_iconst (v := 1) hx hb dX0_seal_23 (by decide) ?_
  refine z_put (ty := .boolean) C0 zt_x0 tyX0 tyX0_ok nmX0 hK hP hD hS 0 rfl rfl 9 (by decide) fl_X0_50 rfl (by decide +kernel) rfl rfl (Nat.le_of_ble_eq_true rfl) dX0_seal_24 (fun H locs hP hD hS => ?_)
  have hP : va_P D classes (xw ad cs w n nr K V u1.1 u1.2 RL1 G (nI f) (nI r) 1 co (nI (rnn r f)) ck cv) H := hP
  have hD : va_D A (xw ad cs w n nr K V u1.1 u1.2 RL1 G (nI f) (nI r) 1 co (nI (rnn r f)) ck cv) := hD
  refine lv_iconst (v := 0) hx hb dX0_seal_27 (by decide) ?_
  exact hret _ ((u1.1, u1.2, RL1)) _ _ _ _ hP hD hS (⟨rfl, o, hm, xR_0 hw0 hm hrf hc⟩) dX0_seal_28
set_option maxHeartbeats 4000000 in
set_option maxRecDepth 100000 in
theorem c_seal_s (l : Launch) (D : va_G) (ad : Nat → Nat) (cs : Nat → ClassId) (w n nr : Nat) (hn : n < 2 ^ 31) (hnr : nr < 2 ^ 31) (K V O M RL G : Nat → Int32) (fed sp co op ck cv : Int32)   : ZI (S := Unit) l yX0_seal cX0_seal 1 rX_seal D classes (xt cs) [.ref (ad 0)] (xw ad cs w n nr K V O M RL G fed sp 1 co op ck cv) (fun v _ => v = -3) (fun _ => xw ad cs w n nr K V O M RL G fed sp 1 co op ck cv) := by
  refine ZI.of (by decide +kernel) (Nat.le_of_ble_eq_true rfl) ?_
  intro p e s m args below meth c A Q ls C0 hK hP hD hS hA hl hret
  have hx := C0.1
  have hb := C0.2.1
  have hl : lv_has ls 1 [(0, .ref (ad 0))] := hl
  refine lv_aload_n hx hb dX0_seal_0 rfl (lv_at hl 0 rfl) ?_
  refine z_get C0 zt_x0 hK hP 0 rfl rfl 9 (by decide) fl_X0_50 rfl dX0_seal_1 ?_
  refine lv_if_eq (tgt := 10) hx hb dX0_seal_4 (by decide) (fun hz => False.elim (absurd hz (by decide))) (fun hz => ?_)
  refine lv_bipush (v := -3) hx hb dX0_seal_7 (by decide) ?_
  exact hret _ (()) _ _ _ _ hP hD hS (rfl) dX0_seal_9
abbrev rX_feed : Room := { frames := 5, cells := 0, slots := 0, locals := 111 }
set_option maxHeartbeats 4000000 in
set_option maxRecDepth 100000 in
theorem c_feed (l : Launch) (D : va_G) (ad : Nat → Nat) (cs : Nat → ClassId) (w n nr : Nat) (hn : n < 2 ^ 31) (hnr : nr < 2 ^ 31) (K V O M RL G : Nat → Int32) (co op ck cv : Int32) (key val : Int32) (r f : Nat) (hf : f < n) (hn2 : n < 2 ^ 29) (hw0 : 0 < w) (hw1 : w < 2 ^ 29) (hO : xO w n K O r f) : ZI (S := ((Nat → Int32) × Nat)) l yX0_feed cX0_feed 3 rX_feed D classes (xt cs) [.ref (ad 0), .int key, .int val] (xw ad cs w n nr K V O M RL G (nI f) (nI r) 0 co op ck cv) (fun v u => v = 0 ∧ u.2 = rnx w r f ∧ xO w n (upd K f key) u.1 u.2 (f + 1)) (fun u => xw ad cs w n nr (upd K f key) (upd V f val) u.1 M RL G (nI (f + 1)) (nI u.2) 0 co op ck cv) := by
  refine ZI.of (by decide +kernel) (Nat.le_of_ble_eq_true rfl) ?_
  intro p e s m args below meth c A Q ls C0 hK hP hD hS hA hl hret
  have hx := C0.1
  have hb := C0.2.1
  have hl : lv_has ls 3 [(0, .ref (ad 0)), (1, .int key), (2, .int val)] := hl
  refine lv_aload_n hx hb dX0_feed_0 rfl (lv_at hl 0 rfl) ?_
  refine z_get C0 zt_x0 hK hP 0 rfl rfl 9 (by decide) fl_X0_50 rfl dX0_feed_1 ?_
  refine lv_if_eq (tgt := 10) hx hb dX0_feed_4 (by decide) (fun hz => ?_) (fun hz => False.elim (hz rfl))
  refine lv_aload_n hx hb dX0_feed_10 rfl (lv_at hl 0 rfl) ?_
  refine z_get C0 zt_x0 hK hP 0 rfl rfl 7 (by decide) fl_X0_44 rfl dX0_feed_11 ?_
  refine lv_aload_n hx hb dX0_feed_14 rfl (lv_at hl 0 rfl) ?_
  refine z_get C0 zt_x0 hK hP 0 rfl rfl 1 (by decide) fl_X0_22 rfl dX0_feed_15 ?_
  refine lv_icmp_lt (tgt := 24) hx hb dX0_feed_18 (by decide) (fun c1 => ?_) (fun c1 => False.elim (c1 (nI_lt hf (by omega))))
  refine lv_aload_n hx hb dX0_feed_24 rfl (lv_at hl 0 rfl) ?_
  refine lv_iload_n hx hb dX0_feed_25 rfl (lv_at hl 1 rfl) ?_
  refine lv_iload_n hx hb dX0_feed_26 rfl (lv_at hl 2 rfl) ?_
  refine zv_callV0 (As := [.int key, .int val]) (rest := []) (q0 := 0) (ci := 0) C0 (c_append l D ad cs w n nr hn hnr K V O M RL G 0 co op ck cv key val r f hf hn2 hw0 hw1 hO) zv_X0_X0_append ⟨by decide, by decide⟩ ⟨rfl, rfl⟩ rfl hK hP hD hS hA rfl rfl rfl hl.1 rfl (Nat.le_of_ble_eq_true rfl) dX0_feed_27 ⟨Nat.zero_le _, Nat.zero_le _⟩ (fun u1 H locs hj hP hD hS => ?_)
  have hP : va_P D classes (xw ad cs w n nr (upd K f key) (upd V f val) u1.1 M RL G (nI (f + 1)) (nI u1.2) 0 co op ck cv) H := hP
  have hD : va_D A (xw ad cs w n nr (upd K f key) (upd V f val) u1.1 M RL G (nI (f + 1)) (nI u1.2) 0 co op ck cv) := hD
  refine lv_iconst (v := 0) hx hb dX0_feed_30 (by decide) ?_
  exact hret _ (u1) _ _ _ _ hP hD hS (⟨rfl, hj⟩) dX0_feed_31
set_option maxHeartbeats 4000000 in
set_option maxRecDepth 100000 in
theorem c_feed_s (l : Launch) (D : va_G) (ad : Nat → Nat) (cs : Nat → ClassId) (w n nr : Nat) (hn : n < 2 ^ 31) (hnr : nr < 2 ^ 31) (K V O M RL G : Nat → Int32) (fed sp co op ck cv : Int32) (key val : Int32)  : ZI (S := Unit) l yX0_feed cX0_feed 3 rX_feed D classes (xt cs) [.ref (ad 0), .int key, .int val] (xw ad cs w n nr K V O M RL G fed sp 1 co op ck cv) (fun v _ => v = -3) (fun _ => xw ad cs w n nr K V O M RL G fed sp 1 co op ck cv) := by
  refine ZI.of (by decide +kernel) (Nat.le_of_ble_eq_true rfl) ?_
  intro p e s m args below meth c A Q ls C0 hK hP hD hS hA hl hret
  have hx := C0.1
  have hb := C0.2.1
  have hl : lv_has ls 3 [(0, .ref (ad 0)), (1, .int key), (2, .int val)] := hl
  refine lv_aload_n hx hb dX0_feed_0 rfl (lv_at hl 0 rfl) ?_
  refine z_get C0 zt_x0 hK hP 0 rfl rfl 9 (by decide) fl_X0_50 rfl dX0_feed_1 ?_
  refine lv_if_eq (tgt := 10) hx hb dX0_feed_4 (by decide) (fun hz => False.elim (absurd hz (by decide))) (fun hz => ?_)
  refine lv_bipush (v := -3) hx hb dX0_feed_7 (by decide) ?_
  exact hret _ (()) _ _ _ _ hP hD hS (rfl) dX0_feed_9
set_option maxHeartbeats 4000000 in
set_option maxRecDepth 100000 in
theorem c_feed_f (l : Launch) (D : va_G) (ad : Nat → Nat) (cs : Nat → ClassId) (w n nr : Nat) (hn : n < 2 ^ 31) (hnr : nr < 2 ^ 31) (K V O M RL G : Nat → Int32) (sp co op ck cv : Int32) (key val : Int32)  : ZI (S := Unit) l yX0_feed cX0_feed 3 rX_feed D classes (xt cs) [.ref (ad 0), .int key, .int val] (xw ad cs w n nr K V O M RL G (nI n) sp 0 co op ck cv) (fun v _ => v = -2) (fun _ => xw ad cs w n nr K V O M RL G (nI n) sp 0 co op ck cv) := by
  refine ZI.of (by decide +kernel) (Nat.le_of_ble_eq_true rfl) ?_
  intro p e s m args below meth c A Q ls C0 hK hP hD hS hA hl hret
  have hx := C0.1
  have hb := C0.2.1
  have hl : lv_has ls 3 [(0, .ref (ad 0)), (1, .int key), (2, .int val)] := hl
  refine lv_aload_n hx hb dX0_feed_0 rfl (lv_at hl 0 rfl) ?_
  refine z_get C0 zt_x0 hK hP 0 rfl rfl 9 (by decide) fl_X0_50 rfl dX0_feed_1 ?_
  refine lv_if_eq (tgt := 10) hx hb dX0_feed_4 (by decide) (fun hz => ?_) (fun hz => False.elim (hz rfl))
  refine lv_aload_n hx hb dX0_feed_10 rfl (lv_at hl 0 rfl) ?_
  refine z_get C0 zt_x0 hK hP 0 rfl rfl 7 (by decide) fl_X0_44 rfl dX0_feed_11 ?_
  refine lv_aload_n hx hb dX0_feed_14 rfl (lv_at hl 0 rfl) ?_
  refine z_get C0 zt_x0 hK hP 0 rfl rfl 1 (by decide) fl_X0_22 rfl dX0_feed_15 ?_
  refine lv_icmp_lt (tgt := 24) hx hb dX0_feed_18 (by decide) (fun c1 => False.elim (nI_nlt (Nat.le_refl n) hn c1)) (fun c1 => ?_)
  refine lv_bipush (v := -2) hx hb dX0_feed_21 (by decide) ?_
  exact hret _ (()) _ _ _ _ hP hD hS (rfl) dX0_feed_23
abbrev rX_nextRow : Room := { frames := 2, cells := 0, slots := 0, locals := 45 }
set_option maxHeartbeats 4000000 in
set_option maxRecDepth 100000 in
theorem c_nextRow (l : Launch) (D : va_G) (ad : Nat → Nat) (cs : Nat → ClassId) (w n nr : Nat) (hn : n < 2 ^ 31) (hnr : nr < 2 ^ 31) (K V O M RL G : Nat → Int32) (sp op ck cv : Int32) (r f c0 : Nat) (o : Nat → Nat) (hf : f ≤ n) (hn2 : n < 2 ^ 29) (hw0 : 0 < w) (hw1 : w < 2 ^ 29) (hF : xF K O f o) (hR : xR w r f c0 o RL op) (hfr : f ≤ r * w + w) (hrn : rnn r f ≤ nr) (hc : c0 < f) : ZI (S := ((Nat → Int32) × (Nat → Int32) × Int32)) l yX0_nextRow cX0_nextRow 1 rX_nextRow D classes (xt cs) [.ref (ad 0)] (xw ad cs w n nr K V O M RL G (nI f) sp 1 (nI c0) op ck cv) (fun v u => v = 1 ∧ (∀ j, j < 4 → u.1 j = 0) ∧ xR w r f (c0 + 1) o u.2.1 u.2.2) (fun u => xw ad cs w n nr K V O M u.2.1 u.1 (nI f) sp 1 (nI (c0 + 1)) u.2.2 (K (o c0)) (V (o c0))) := by
  refine ZI.of (by decide +kernel) (Nat.le_of_ble_eq_true rfl) ?_
  intro p e s m args below meth c A Q ls C0 hK hP hD hS hA hl hret
  have hx := C0.1
  have hb := C0.2.1
  have hl : lv_has ls 1 [(0, .ref (ad 0))] := hl
  refine lv_aload_n hx hb dX0_nextRow_0 rfl (lv_at hl 0 rfl) ?_
  refine z_get C0 zt_x0 hK hP 0 rfl rfl 9 (by decide) fl_X0_50 rfl dX0_nextRow_1 ?_
  refine lv_if_ne (tgt := 10) hx hb dX0_nextRow_4 (by decide) (fun hz => ?_) (fun hz => False.elim (absurd hz (by decide)))
  refine lv_aload_n hx hb dX0_nextRow_10 rfl (lv_at hl 0 rfl) ?_
  refine zv_callV0 (As := []) (rest := []) (q0 := 0) (ci := 0) C0 (c_clearCurrent l D ad cs w n nr hn hnr K V O M RL G (nI f) sp 1 (nI c0) op ck cv) zv_X0_X0_clearCurrent ⟨by decide, by decide⟩ ⟨rfl, rfl⟩ rfl hK hP hD hS hA rfl rfl rfl hl.1 rfl (Nat.le_of_ble_eq_true rfl) dX0_nextRow_11 ⟨Nat.zero_le _, Nat.zero_le _⟩ (fun G1 H locs hg hP hD hS => ?_)
  have hP : va_P D classes (xw ad cs w n nr K V O M RL G1 (nI f) sp 1 (nI c0) op 0 0) H := hP
  have hD : va_D A (xw ad cs w n nr K V O M RL G1 (nI f) sp 1 (nI c0) op 0 0) := hD
  refine lv_aload_n hx hb dX0_nextRow_14 rfl (lv_at hl 0 rfl) ?_
  refine z_get C0 zt_x0 hK hP 0 rfl rfl 10 (by decide) fl_X0_54 rfl dX0_nextRow_15 ?_
  refine lv_aload_n hx hb dX0_nextRow_18 rfl (lv_at hl 0 rfl) ?_
  refine z_get C0 zt_x0 hK hP 0 rfl rfl 7 (by decide) fl_X0_44 rfl dX0_nextRow_19 ?_
  refine lv_icmp_lt (tgt := 27) hx hb dX0_nextRow_22 (by decide) (fun c1 => ?_) (fun c1 => False.elim (c1 (nI_lt hc (by omega))))
  refine lv_aload_n hx hb dX0_nextRow_27 rfl (lv_at hl 0 rfl) ?_
  refine lv_aload_n hx hb dX0_nextRow_28 rfl (lv_at hl 0 rfl) ?_
  refine lv_aload_n hx hb dX0_nextRow_29 rfl (lv_at hl 0 rfl) ?_
  refine z_get C0 zt_x0 hK hP 0 rfl rfl 10 (by decide) fl_X0_54 rfl dX0_nextRow_30 ?_
  refine zr_callV (As := [.int (nI c0)]) (rest := [.ref (ad 0)]) (q0 := 0) (ci := 0) C0 (c_keyOfRow l D ad cs w n nr hn hnr K V O M RL G1 (nI f) sp 1 (nI c0) op 0 0 (nI c0)) zv_X0_X0_keyOfRow ⟨by decide, by decide⟩ ⟨rfl, rfl⟩ rfl hK hP hD rfl rfl rfl hl.1 rfl (Nat.le_of_ble_eq_true rfl) dX0_nextRow_33 ⟨Nat.zero_le _, Nat.zero_le _⟩ (fun r1 er1 => ?_)
  subst er1
  refine z_eq (show (za n K (za n O (nI c0))) = K (o (c0)) from by rw [za_at (by omega) hn, hF.1 _ (by omega), za_at (by have := hF.rng (a := c0) (by omega); omega) hn]) ?_
  refine z_put (ty := .int) C0 zt_x0 tyX0 tyX0_ok nmX0 hK hP hD hS 0 rfl rfl 12 (by decide) fl_X0_87 rfl (by decide +kernel) rfl rfl (Nat.le_of_ble_eq_true rfl) dX0_nextRow_36 (fun H locs hP hD hS => ?_)
  have hP : va_P D classes (xw ad cs w n nr K V O M RL G1 (nI f) sp 1 (nI c0) op (K (o (c0))) 0) H := hP
  have hD : va_D A (xw ad cs w n nr K V O M RL G1 (nI f) sp 1 (nI c0) op (K (o (c0))) 0) := hD
  refine lv_aload_n hx hb dX0_nextRow_39 rfl (lv_at hl 0 rfl) ?_
  refine lv_aload_n hx hb dX0_nextRow_40 rfl (lv_at hl 0 rfl) ?_
  refine lv_aload_n hx hb dX0_nextRow_41 rfl (lv_at hl 0 rfl) ?_
  refine z_get C0 zt_x0 hK hP 0 rfl rfl 10 (by decide) fl_X0_54 rfl dX0_nextRow_42 ?_
  refine zr_callV (As := [.int (nI c0)]) (rest := [.ref (ad 0)]) (q0 := 0) (ci := 0) C0 (c_valueOfRow l D ad cs w n nr hn hnr K V O M RL G1 (nI f) sp 1 (nI c0) op (K (o (c0))) 0 (nI c0)) zv_X0_X0_valueOfRow ⟨by decide, by decide⟩ ⟨rfl, rfl⟩ rfl hK hP hD rfl rfl rfl hl.1 rfl (Nat.le_of_ble_eq_true rfl) dX0_nextRow_45 ⟨Nat.zero_le _, Nat.zero_le _⟩ (fun r2 er2 => ?_)
  subst er2
  refine z_eq (show (za n V (za n O (nI c0))) = V (o (c0)) from by rw [za_at (by omega) hn, hF.1 _ (by omega), za_at (by have := hF.rng (a := c0) (by omega); omega) hn]) ?_
  refine z_put (ty := .int) C0 zt_x0 tyX0 tyX0_ok nmX0 hK hP hD hS 0 rfl rfl 13 (by decide) fl_X0_93 rfl (by decide +kernel) rfl rfl (Nat.le_of_ble_eq_true rfl) dX0_nextRow_48 (fun H locs hP hD hS => ?_)
  have hP : va_P D classes (xw ad cs w n nr K V O M RL G1 (nI f) sp 1 (nI c0) op (K (o (c0))) (V (o (c0)))) H := hP
  have hD : va_D A (xw ad cs w n nr K V O M RL G1 (nI f) sp 1 (nI c0) op (K (o (c0))) (V (o (c0)))) := hD
  refine lv_aload_n hx hb dX0_nextRow_51 rfl (lv_at hl 0 rfl) ?_
  refine lv_aload_n hx hb dX0_nextRow_52 rfl (lv_at hl 0 rfl) ?_
  refine z_get C0 zt_x0 hK hP 0 rfl rfl 10 (by decide) fl_X0_54 rfl dX0_nextRow_53 ?_
  have hoc := hF.rng (a := c0) (by omega)
  obtain ⟨t1, t2, t3⟩ := xR_take hR hw0 (show c0 < f by omega) hfr hoc (by omega)
  refine zv_callV0 (As := [.int (nI c0)]) (rest := []) (q0 := 0) (ci := 0) C0 (c_takeFromRun l D ad cs w n nr hn hnr K V O M RL G1 (nI f) sp 1 (nI c0) op (K (o (c0))) (V (o (c0))) (c0) (o (c0)) (px_cnt (rw_P w (o (c0) / w)) o (c0 + 1) (f - (c0 + 1))) hw0 hw1 (by omega) (hF.1 _ (by omega)) (by omega) (by have := px_cnt_le (P := rw_P w (o (c0) / w)) (o := o) (lo := c0 + 1) (f - (c0 + 1)); omega) (by omega) t2) zv_X0_X0_takeFromRun ⟨by decide, by decide⟩ ⟨rfl, rfl⟩ rfl hK hP hD hS hA rfl rfl rfl hl.1 rfl (Nat.le_of_ble_eq_true rfl) dX0_nextRow_56 ⟨Nat.zero_le _, Nat.zero_le _⟩ (fun op1 H locs ht hP hD hS => ?_)
  rw [← ht] at t3
  have hP : va_P D classes (xw ad cs w n nr K V O M (upd RL (o (c0) / w) (nI (px_cnt (rw_P w (o (c0) / w)) o (c0 + 1) (f - (c0 + 1))))) G1 (nI f) sp 1 (nI c0) op1 (K (o (c0))) (V (o (c0)))) H := hP
  have hD : va_D A (xw ad cs w n nr K V O M (upd RL (o (c0) / w) (nI (px_cnt (rw_P w (o (c0) / w)) o (c0 + 1) (f - (c0 + 1))))) G1 (nI f) sp 1 (nI c0) op1 (K (o (c0))) (V (o (c0)))) := hD
  refine lv_aload_n hx hb dX0_nextRow_59 rfl (lv_at hl 0 rfl) ?_
  refine lv_dup hx hb dX0_nextRow_60 rfl ?_
  refine z_get C0 zt_x0 hK hP 0 rfl rfl 10 (by decide) fl_X0_54 rfl dX0_nextRow_61 ?_
  refine lv_iconst (v := 1) hx hb dX0_nextRow_64 (by decide) ?_
  refine lv_iadd hx hb dX0_nextRow_65 ?_
  refine z_eq (show ((nI c0) + 1) = nI (c0 + 1) from nI_1 c0) ?_
  refine z_put (ty := .int) C0 zt_x0 tyX0 tyX0_ok nmX0 hK hP hD hS 0 rfl rfl 10 (by decide) fl_X0_54 rfl (by decide +kernel) rfl rfl (Nat.le_of_ble_eq_true rfl) dX0_nextRow_66 (fun H locs hP hD hS => ?_)
  have hP : va_P D classes (xw ad cs w n nr K V O M (upd RL (o (c0) / w) (nI (px_cnt (rw_P w (o (c0) / w)) o (c0 + 1) (f - (c0 + 1))))) G1 (nI f) sp 1 (nI (c0 + 1)) op1 (K (o (c0))) (V (o (c0)))) H := hP
  have hD : va_D A (xw ad cs w n nr K V O M (upd RL (o (c0) / w) (nI (px_cnt (rw_P w (o (c0) / w)) o (c0 + 1) (f - (c0 + 1))))) G1 (nI f) sp 1 (nI (c0 + 1)) op1 (K (o (c0))) (V (o (c0)))) := hD
  refine lv_iconst (v := 1) hx hb dX0_nextRow_69 (by decide) ?_
  exact hret _ ((G1, upd RL (o (c0) / w) (nI (px_cnt (rw_P w (o (c0) / w)) o (c0 + 1) (f - (c0 + 1)))), op1)) _ _ _ _ hP hD hS (⟨rfl, hg, t3⟩) dX0_nextRow_70
set_option maxHeartbeats 4000000 in
set_option maxRecDepth 100000 in
theorem c_nextRow_u (l : Launch) (D : va_G) (ad : Nat → Nat) (cs : Nat → ClassId) (w n nr : Nat) (hn : n < 2 ^ 31) (hnr : nr < 2 ^ 31) (K V O M RL G : Nat → Int32) (fed sp co op ck cv : Int32)   : ZI (S := Unit) l yX0_nextRow cX0_nextRow 1 rX_nextRow D classes (xt cs) [.ref (ad 0)] (xw ad cs w n nr K V O M RL G fed sp 0 co op ck cv) (fun v _ => v = -4) (fun _ => xw ad cs w n nr K V O M RL G fed sp 0 co op ck cv) := by
  refine ZI.of (by decide +kernel) (Nat.le_of_ble_eq_true rfl) ?_
  intro p e s m args below meth c A Q ls C0 hK hP hD hS hA hl hret
  have hx := C0.1
  have hb := C0.2.1
  have hl : lv_has ls 1 [(0, .ref (ad 0))] := hl
  refine lv_aload_n hx hb dX0_nextRow_0 rfl (lv_at hl 0 rfl) ?_
  refine z_get C0 zt_x0 hK hP 0 rfl rfl 9 (by decide) fl_X0_50 rfl dX0_nextRow_1 ?_
  refine lv_if_ne (tgt := 10) hx hb dX0_nextRow_4 (by decide) (fun hz => False.elim (hz rfl)) (fun hz => ?_)
  refine lv_bipush (v := -4) hx hb dX0_nextRow_7 (by decide) ?_
  exact hret _ (()) _ _ _ _ hP hD hS (rfl) dX0_nextRow_9
set_option maxHeartbeats 4000000 in
set_option maxRecDepth 100000 in
theorem c_nextRow_e (l : Launch) (D : va_G) (ad : Nat → Nat) (cs : Nat → ClassId) (w n nr : Nat) (hn : n < 2 ^ 31) (hnr : nr < 2 ^ 31) (K V O M RL G : Nat → Int32) (sp op ck cv : Int32) (f : Nat) (hf : f ≤ n) : ZI (S := (Nat → Int32)) l yX0_nextRow cX0_nextRow 1 rX_nextRow D classes (xt cs) [.ref (ad 0)] (xw ad cs w n nr K V O M RL G (nI f) sp 1 (nI f) op ck cv) (fun v G1 => v = -1 ∧ ∀ j, j < 4 → G1 j = 0) (fun G1 => xw ad cs w n nr K V O M RL G1 (nI f) sp 1 (nI f) op 0 0) := by
  refine ZI.of (by decide +kernel) (Nat.le_of_ble_eq_true rfl) ?_
  intro p e s m args below meth c A Q ls C0 hK hP hD hS hA hl hret
  have hx := C0.1
  have hb := C0.2.1
  have hl : lv_has ls 1 [(0, .ref (ad 0))] := hl
  refine lv_aload_n hx hb dX0_nextRow_0 rfl (lv_at hl 0 rfl) ?_
  refine z_get C0 zt_x0 hK hP 0 rfl rfl 9 (by decide) fl_X0_50 rfl dX0_nextRow_1 ?_
  refine lv_if_ne (tgt := 10) hx hb dX0_nextRow_4 (by decide) (fun hz => ?_) (fun hz => False.elim (absurd hz (by decide)))
  refine lv_aload_n hx hb dX0_nextRow_10 rfl (lv_at hl 0 rfl) ?_
  refine zv_callV0 (As := []) (rest := []) (q0 := 0) (ci := 0) C0 (c_clearCurrent l D ad cs w n nr hn hnr K V O M RL G (nI f) sp 1 (nI f) op ck cv) zv_X0_X0_clearCurrent ⟨by decide, by decide⟩ ⟨rfl, rfl⟩ rfl hK hP hD hS hA rfl rfl rfl hl.1 rfl (Nat.le_of_ble_eq_true rfl) dX0_nextRow_11 ⟨Nat.zero_le _, Nat.zero_le _⟩ (fun G1 H locs hg hP hD hS => ?_)
  have hP : va_P D classes (xw ad cs w n nr K V O M RL G1 (nI f) sp 1 (nI f) op 0 0) H := hP
  have hD : va_D A (xw ad cs w n nr K V O M RL G1 (nI f) sp 1 (nI f) op 0 0) := hD
  refine lv_aload_n hx hb dX0_nextRow_14 rfl (lv_at hl 0 rfl) ?_
  refine z_get C0 zt_x0 hK hP 0 rfl rfl 10 (by decide) fl_X0_54 rfl dX0_nextRow_15 ?_
  refine lv_aload_n hx hb dX0_nextRow_18 rfl (lv_at hl 0 rfl) ?_
  refine z_get C0 zt_x0 hK hP 0 rfl rfl 7 (by decide) fl_X0_44 rfl dX0_nextRow_19 ?_
  refine lv_icmp_lt (tgt := 27) hx hb dX0_nextRow_22 (by decide) (fun c1 => False.elim (nI_nlt (Nat.le_refl f) (by omega) c1)) (fun c1 => ?_)
  refine lv_iconst (v := -1) hx hb dX0_nextRow_25 (by decide) ?_
  exact hret _ (G1) _ _ _ _ hP hD hS (⟨rfl, hg⟩) dX0_nextRow_26
abbrev rX_nextGroup : Room := { frames := 2, cells := 0, slots := 0, locals := 45 }
set_option maxHeartbeats 4000000 in
set_option maxRecDepth 100000 in
theorem c_nextGroup (l : Launch) (D : va_G) (ad : Nat → Nat) (cs : Nat → ClassId) (w n nr : Nat) (hn : n < 2 ^ 31) (hnr : nr < 2 ^ 31) (K V O M RL G : Nat → Int32) (sp op ck cv : Int32) (r f c0 : Nat) (o : Nat → Nat) (hf : f ≤ n) (hn2 : n < 2 ^ 29) (hw0 : 0 < w) (hw1 : w < 2 ^ 29) (hF : xF K O f o) (hR : xR w r f c0 o RL op) (hfr : f ≤ r * w + w) (hrn : rnn r f ≤ nr) (hc : c0 < f) : ZI (S := ((Nat → Int32) × (Nat → Int32) × Int32 × Nat)) l yX0_nextGroup cX0_nextGroup 1 rX_nextGroup D classes (xt cs) [.ref (ad 0)] (xw ad cs w n nr K V O M RL G (nI f) sp 1 (nI c0) op ck cv) (fun v u => v = 2 ∧ c0 + u.2.2.2 ≤ f ∧ (∀ i, i < u.2.2.2 → K (o (c0 + i)) = K (o c0)) ∧ (c0 + u.2.2.2 = f ∨ ¬ K (o (c0 + u.2.2.2)) = K (o c0)) ∧ (u.1 0, u.1 1, u.1 2, u.1 3) = gs_F V o c0 u.2.2.2 ∧ xR w r f (c0 + u.2.2.2) o u.2.1 u.2.2.1) (fun u => xw ad cs w n nr K V O M u.2.1 u.1 (nI f) sp 1 (nI (c0 + u.2.2.2)) u.2.2.1 (K (o c0)) 0) := by
  refine ZI.of (by decide +kernel) (Nat.le_of_ble_eq_true rfl) ?_
  intro p e s m args below meth c A Q ls C0 hK hP hD hS hA hl hret
  have hx := C0.1
  have hb := C0.2.1
  have hl : lv_has ls 1 [(0, .ref (ad 0))] := hl
  refine lv_aload_n hx hb dX0_nextGroup_0 rfl (lv_at hl 0 rfl) ?_
  refine z_get C0 zt_x0 hK hP 0 rfl rfl 9 (by decide) fl_X0_50 rfl dX0_nextGroup_1 ?_
  refine lv_if_ne (tgt := 10) hx hb dX0_nextGroup_4 (by decide) (fun hz => ?_) (fun hz => False.elim (absurd hz (by decide)))
  refine lv_aload_n hx hb dX0_nextGroup_10 rfl (lv_at hl 0 rfl) ?_
  refine zv_callV0 (As := []) (rest := []) (q0 := 0) (ci := 0) C0 (c_clearCurrent l D ad cs w n nr hn hnr K V O M RL G (nI f) sp 1 (nI c0) op ck cv) zv_X0_X0_clearCurrent ⟨by decide, by decide⟩ ⟨rfl, rfl⟩ rfl hK hP hD hS hA rfl rfl rfl hl.1 rfl (Nat.le_of_ble_eq_true rfl) dX0_nextGroup_11 ⟨Nat.zero_le _, Nat.zero_le _⟩ (fun G1 H locs hg hP hD hS => ?_)
  have hP : va_P D classes (xw ad cs w n nr K V O M RL G1 (nI f) sp 1 (nI c0) op 0 0) H := hP
  have hD : va_D A (xw ad cs w n nr K V O M RL G1 (nI f) sp 1 (nI c0) op 0 0) := hD
  refine lv_aload_n hx hb dX0_nextGroup_14 rfl (lv_at hl 0 rfl) ?_
  refine z_get C0 zt_x0 hK hP 0 rfl rfl 10 (by decide) fl_X0_54 rfl dX0_nextGroup_15 ?_
  refine lv_aload_n hx hb dX0_nextGroup_18 rfl (lv_at hl 0 rfl) ?_
  refine z_get C0 zt_x0 hK hP 0 rfl rfl 7 (by decide) fl_X0_44 rfl dX0_nextGroup_19 ?_
  refine lv_icmp_lt (tgt := 27) hx hb dX0_nextGroup_22 (by decide) (fun c1 => ?_) (fun c1 => False.elim (c1 (nI_lt hc (by omega))))
  refine lv_aload_n hx hb dX0_nextGroup_27 rfl (lv_at hl 0 rfl) ?_
  refine lv_aload_n hx hb dX0_nextGroup_28 rfl (lv_at hl 0 rfl) ?_
  refine lv_aload_n hx hb dX0_nextGroup_29 rfl (lv_at hl 0 rfl) ?_
  refine z_get C0 zt_x0 hK hP 0 rfl rfl 10 (by decide) fl_X0_54 rfl dX0_nextGroup_30 ?_
  refine zr_callV (As := [.int (nI c0)]) (rest := [.ref (ad 0)]) (q0 := 0) (ci := 0) C0 (c_keyOfRow l D ad cs w n nr hn hnr K V O M RL G1 (nI f) sp 1 (nI c0) op 0 0 (nI c0)) zv_X0_X0_keyOfRow ⟨by decide, by decide⟩ ⟨rfl, rfl⟩ rfl hK hP hD rfl rfl rfl hl.1 rfl (Nat.le_of_ble_eq_true rfl) dX0_nextGroup_33 ⟨Nat.zero_le _, Nat.zero_le _⟩ (fun r1 er1 => ?_)
  subst er1
  refine z_eq (show (za n K (za n O (nI c0))) = K (o (c0)) from by rw [za_at (by omega) hn, hF.1 _ (by omega), za_at (by have := hF.rng (a := c0) (by omega); omega) hn]) ?_
  refine z_put (ty := .int) C0 zt_x0 tyX0 tyX0_ok nmX0 hK hP hD hS 0 rfl rfl 12 (by decide) fl_X0_87 rfl (by decide +kernel) rfl rfl (Nat.le_of_ble_eq_true rfl) dX0_nextGroup_36 (fun H locs hP hD hS => ?_)
  have hP : va_P D classes (xw ad cs w n nr K V O M RL G1 (nI f) sp 1 (nI c0) op (K (o (c0))) 0) H := hP
  have hD : va_D A (xw ad cs w n nr K V O M RL G1 (nI f) sp 1 (nI c0) op (K (o (c0))) 0) := hD
  have loop : ∀ (NN : Nat) (mm : Nat) (G2 RL2 : Nat → Int32) (op2 : Int32) (H : Heap) (locs : List Loc) (ls : Array Slot), (c0 + mm ≤ f ∧ (∀ i, i < mm → K (o (c0 + i)) = K (o c0)) ∧ (G2 0, G2 1, G2 2, G2 3) = gs_F V o c0 mm ∧ xR w r f (c0 + mm) o RL2 op2) → f - mm < NN → va_P D classes (xw ad cs w n nr K V O M RL2 G2 (nI f) sp 1 (nI (c0 + mm)) op2 (K (o (c0))) 0) H → va_D A (xw ad cs w n nr K V O M RL2 G2 (nI f) sp 1 (nI (c0 + mm)) op2 (K (o (c0))) 0) → va_S A s.heap H locs → lv_has ls 1 [(0, .ref (ad 0))] → W p l e rX_nextGroup s m args below meth c H locs 0 0 Q (F0 m 39 ls []) := by
    intro N39
    induction N39 with
    | zero => intro mm G2 RL2 op2 H locs ls hI hN; exact absurd hN (Nat.not_lt_zero _)
    | succ N39 ih39 =>
      intro mm G2 RL2 op2 H locs ls hI hN39 hP hD hS hl
      obtain ⟨i1, i2, i3, i4⟩ := hI
      refine lv_aload_n hx hb dX0_nextGroup_39 rfl (lv_at hl 0 rfl) ?_
      refine z_get C0 zt_x0 hK hP 0 rfl rfl 10 (by decide) fl_X0_54 rfl dX0_nextGroup_40 ?_
      refine lv_aload_n hx hb dX0_nextGroup_43 rfl (lv_at hl 0 rfl) ?_
      refine z_get C0 zt_x0 hK hP 0 rfl rfl 7 (by decide) fl_X0_44 rfl dX0_nextGroup_44 ?_
      refine lv_icmp_ge (tgt := 98) hx hb dX0_nextGroup_47 (by decide) (fun c2 => ?_) (fun c2 => ?_)
      · have c2 := zle c2 (by omega) (by omega)
        have hend : c0 + mm = f ∨ ¬ K (o (c0 + mm)) = K (o c0) := Or.inl (by omega)
        refine lv_iconst (v := 2) hx hb dX0_nextGroup_98 (by decide) ?_
        exact hret _ ((G2, RL2, op2, mm)) _ _ _ _ hP hD hS (⟨rfl, i1, i2, hend, i3, i4⟩) dX0_nextGroup_99
      · have c2 := znle c2 (by omega) (by omega)
        refine lv_aload_n hx hb dX0_nextGroup_50 rfl (lv_at hl 0 rfl) ?_
        refine lv_aload_n hx hb dX0_nextGroup_51 rfl (lv_at hl 0 rfl) ?_
        refine z_get C0 zt_x0 hK hP 0 rfl rfl 10 (by decide) fl_X0_54 rfl dX0_nextGroup_52 ?_
        refine zr_callV (As := [.int (nI (c0 + mm))]) (rest := []) (q0 := 0) (ci := 0) C0 (c_keyOfRow l D ad cs w n nr hn hnr K V O M RL2 G2 (nI f) sp 1 (nI (c0 + mm)) op2 (K (o (c0))) 0 (nI (c0 + mm))) zv_X0_X0_keyOfRow ⟨by decide, by decide⟩ ⟨rfl, rfl⟩ rfl hK hP hD rfl rfl rfl hl.1 rfl (Nat.le_of_ble_eq_true rfl) dX0_nextGroup_55 ⟨Nat.zero_le _, Nat.zero_le _⟩ (fun r2 er2 => ?_)
        subst er2
        refine z_eq (show (za n K (za n O (nI (c0 + mm)))) = K (o (c0 + mm)) from by rw [za_at (by omega) hn, hF.1 _ (by omega), za_at (by have := hF.rng (a := c0 + mm) (by omega); omega) hn]) ?_
        refine lv_aload_n hx hb dX0_nextGroup_58 rfl (lv_at hl 0 rfl) ?_
        refine z_get C0 zt_x0 hK hP 0 rfl rfl 12 (by decide) fl_X0_87 rfl dX0_nextGroup_59 ?_
        refine lv_icmp_ne (tgt := 98) hx hb dX0_nextGroup_62 (by decide) (fun c3 => ?_) (fun c3 => ?_)
        · have hend : c0 + mm = f ∨ ¬ K (o (c0 + mm)) = K (o c0) := Or.inr c3
          refine lv_iconst (v := 2) hx hb dX0_nextGroup_98 (by decide) ?_
          exact hret _ ((G2, RL2, op2, mm)) _ _ _ _ hP hD hS (⟨rfl, i1, i2, hend, i3, i4⟩) dX0_nextGroup_99
        · refine lv_aload_n hx hb dX0_nextGroup_65 rfl (lv_at hl 0 rfl) ?_
          refine lv_aload_n hx hb dX0_nextGroup_66 rfl (lv_at hl 0 rfl) ?_
          refine lv_aload_n hx hb dX0_nextGroup_67 rfl (lv_at hl 0 rfl) ?_
          refine z_get C0 zt_x0 hK hP 0 rfl rfl 10 (by decide) fl_X0_54 rfl dX0_nextGroup_68 ?_
          refine zr_callV (As := [.int (nI (c0 + mm))]) (rest := [.ref (ad 0)]) (q0 := 0) (ci := 0) C0 (c_valueOfRow l D ad cs w n nr hn hnr K V O M RL2 G2 (nI f) sp 1 (nI (c0 + mm)) op2 (K (o (c0))) 0 (nI (c0 + mm))) zv_X0_X0_valueOfRow ⟨by decide, by decide⟩ ⟨rfl, rfl⟩ rfl hK hP hD rfl rfl rfl hl.1 rfl (Nat.le_of_ble_eq_true rfl) dX0_nextGroup_71 ⟨Nat.zero_le _, Nat.zero_le _⟩ (fun r3 er3 => ?_)
          subst er3
          refine z_eq (show (za n V (za n O (nI (c0 + mm)))) = V (o (c0 + mm)) from by rw [za_at (by omega) hn, hF.1 _ (by omega), za_at (by have := hF.rng (a := c0 + mm) (by omega); omega) hn]) ?_
          refine zv_callV0 (As := [.int (V (o (c0 + mm)))]) (rest := []) (q0 := 0) (ci := 0) C0 (c_addToGroup l D ad cs w n nr hn hnr K V O M RL2 G2 (nI f) sp 1 (nI (c0 + mm)) op2 (K (o (c0))) 0 (V (o (c0 + mm)))) zv_X0_X0_addToGroup ⟨by decide, by decide⟩ ⟨rfl, rfl⟩ rfl hK hP hD hS hA rfl rfl rfl hl.1 rfl (Nat.le_of_ble_eq_true rfl) dX0_nextGroup_74 ⟨Nat.zero_le _, Nat.zero_le _⟩ (fun G3 H locs ha hP hD hS => ?_)
          have hP : va_P D classes (xw ad cs w n nr K V O M RL2 G3 (nI f) sp 1 (nI (c0 + mm)) op2 (K (o (c0))) 0) H := hP
          have hD : va_D A (xw ad cs w n nr K V O M RL2 G3 (nI f) sp 1 (nI (c0 + mm)) op2 (K (o (c0))) 0) := hD
          refine lv_aload_n hx hb dX0_nextGroup_77 rfl (lv_at hl 0 rfl) ?_
          refine lv_aload_n hx hb dX0_nextGroup_78 rfl (lv_at hl 0 rfl) ?_
          refine z_get C0 zt_x0 hK hP 0 rfl rfl 10 (by decide) fl_X0_54 rfl dX0_nextGroup_79 ?_
          have hoc := hF.rng (a := c0 + mm) (by omega)
          obtain ⟨t1, t2, t3⟩ := xR_take i4 hw0 (show c0 + mm < f by omega) hfr hoc (by omega)
          refine zv_callV0 (As := [.int (nI (c0 + mm))]) (rest := []) (q0 := 0) (ci := 0) C0 (c_takeFromRun l D ad cs w n nr hn hnr K V O M RL2 G3 (nI f) sp 1 (nI (c0 + mm)) op2 (K (o (c0))) 0 (c0 + mm) (o (c0 + mm)) (px_cnt (rw_P w (o (c0 + mm) / w)) o (c0 + mm + 1) (f - (c0 + mm + 1))) hw0 hw1 (by omega) (hF.1 _ (by omega)) (by omega) (by have := px_cnt_le (P := rw_P w (o (c0 + mm) / w)) (o := o) (lo := c0 + mm + 1) (f - (c0 + mm + 1)); omega) (by omega) t2) zv_X0_X0_takeFromRun ⟨by decide, by decide⟩ ⟨rfl, rfl⟩ rfl hK hP hD hS hA rfl rfl rfl hl.1 rfl (Nat.le_of_ble_eq_true rfl) dX0_nextGroup_82 ⟨Nat.zero_le _, Nat.zero_le _⟩ (fun op1 H locs ht hP hD hS => ?_)
          rw [← ht] at t3
          have hP : va_P D classes (xw ad cs w n nr K V O M (upd RL2 (o (c0 + mm) / w) (nI (px_cnt (rw_P w (o (c0 + mm) / w)) o (c0 + mm + 1) (f - (c0 + mm + 1))))) G3 (nI f) sp 1 (nI (c0 + mm)) op1 (K (o (c0))) 0) H := hP
          have hD : va_D A (xw ad cs w n nr K V O M (upd RL2 (o (c0 + mm) / w) (nI (px_cnt (rw_P w (o (c0 + mm) / w)) o (c0 + mm + 1) (f - (c0 + mm + 1))))) G3 (nI f) sp 1 (nI (c0 + mm)) op1 (K (o (c0))) 0) := hD
          refine lv_aload_n hx hb dX0_nextGroup_85 rfl (lv_at hl 0 rfl) ?_
          refine lv_dup hx hb dX0_nextGroup_86 rfl ?_
          refine z_get C0 zt_x0 hK hP 0 rfl rfl 10 (by decide) fl_X0_54 rfl dX0_nextGroup_87 ?_
          refine lv_iconst (v := 1) hx hb dX0_nextGroup_90 (by decide) ?_
          refine lv_iadd hx hb dX0_nextGroup_91 ?_
          refine z_eq (show ((nI (c0 + mm)) + 1) = nI (c0 + (mm + 1)) from nI_1 _) ?_
          refine z_put (ty := .int) C0 zt_x0 tyX0 tyX0_ok nmX0 hK hP hD hS 0 rfl rfl 10 (by decide) fl_X0_54 rfl (by decide +kernel) rfl rfl (Nat.le_of_ble_eq_true rfl) dX0_nextGroup_92 (fun H locs hP hD hS => ?_)
          have hP : va_P D classes (xw ad cs w n nr K V O M (upd RL2 (o (c0 + mm) / w) (nI (px_cnt (rw_P w (o (c0 + mm) / w)) o (c0 + mm + 1) (f - (c0 + mm + 1))))) G3 (nI f) sp 1 (nI (c0 + (mm + 1))) op1 (K (o (c0))) 0) H := hP
          have hD : va_D A (xw ad cs w n nr K V O M (upd RL2 (o (c0 + mm) / w) (nI (px_cnt (rw_P w (o (c0 + mm) / w)) o (c0 + mm + 1) (f - (c0 + mm + 1))))) G3 (nI f) sp 1 (nI (c0 + (mm + 1))) op1 (K (o (c0))) 0) := hD
          refine lv_goto (tgt := 39) hx hb dX0_nextGroup_95 (by decide) ?_
          exact ih39 (mm + 1) G3 (upd RL2 (o (c0 + mm) / w) (nI (px_cnt (rw_P w (o (c0 + mm) / w)) o (c0 + mm + 1) (f - (c0 + mm + 1))))) op1 _ _ _ (⟨by omega, fun i h => by rcases Nat.lt_or_ge i mm with q | q; (exact i2 i q); (rw [show i = mm by omega]; exact c3), by obtain ⟨a1, a2, a3, a4⟩ := ha; rw [a1, a2, a3, a4]; show _ = gs_P (gs_F V o c0 mm) (V (o (c0 + mm))); rw [← i3]; rfl, t3⟩) (by omega) hP hD hS (lv_sub hl [0] rfl)
  exact loop _ 0 G1 RL op _ _ _ (⟨by omega, fun i h => absurd h (Nat.not_lt_zero i), by rw [hg 0 (by decide), hg 1 (by decide), hg 2 (by decide), hg 3 (by decide)]; rfl, hR⟩) (Nat.lt_succ_self _) hP hD hS (lv_sub hl [0] (rfl))
set_option maxHeartbeats 4000000 in
set_option maxRecDepth 100000 in
theorem c_nextGroup_u (l : Launch) (D : va_G) (ad : Nat → Nat) (cs : Nat → ClassId) (w n nr : Nat) (hn : n < 2 ^ 31) (hnr : nr < 2 ^ 31) (K V O M RL G : Nat → Int32) (fed sp co op ck cv : Int32)   : ZI (S := Unit) l yX0_nextGroup cX0_nextGroup 1 rX_nextGroup D classes (xt cs) [.ref (ad 0)] (xw ad cs w n nr K V O M RL G fed sp 0 co op ck cv) (fun v _ => v = -4) (fun _ => xw ad cs w n nr K V O M RL G fed sp 0 co op ck cv) := by
  refine ZI.of (by decide +kernel) (Nat.le_of_ble_eq_true rfl) ?_
  intro p e s m args below meth c A Q ls C0 hK hP hD hS hA hl hret
  have hx := C0.1
  have hb := C0.2.1
  have hl : lv_has ls 1 [(0, .ref (ad 0))] := hl
  refine lv_aload_n hx hb dX0_nextGroup_0 rfl (lv_at hl 0 rfl) ?_
  refine z_get C0 zt_x0 hK hP 0 rfl rfl 9 (by decide) fl_X0_50 rfl dX0_nextGroup_1 ?_
  refine lv_if_ne (tgt := 10) hx hb dX0_nextGroup_4 (by decide) (fun hz => False.elim (hz rfl)) (fun hz => ?_)
  refine lv_bipush (v := -4) hx hb dX0_nextGroup_7 (by decide) ?_
  exact hret _ (()) _ _ _ _ hP hD hS (rfl) dX0_nextGroup_9
set_option maxHeartbeats 4000000 in
set_option maxRecDepth 100000 in
theorem c_nextGroup_e (l : Launch) (D : va_G) (ad : Nat → Nat) (cs : Nat → ClassId) (w n nr : Nat) (hn : n < 2 ^ 31) (hnr : nr < 2 ^ 31) (K V O M RL G : Nat → Int32) (sp op ck cv : Int32) (f : Nat) (hf : f ≤ n) : ZI (S := (Nat → Int32)) l yX0_nextGroup cX0_nextGroup 1 rX_nextGroup D classes (xt cs) [.ref (ad 0)] (xw ad cs w n nr K V O M RL G (nI f) sp 1 (nI f) op ck cv) (fun v G1 => v = -1 ∧ ∀ j, j < 4 → G1 j = 0) (fun G1 => xw ad cs w n nr K V O M RL G1 (nI f) sp 1 (nI f) op 0 0) := by
  refine ZI.of (by decide +kernel) (Nat.le_of_ble_eq_true rfl) ?_
  intro p e s m args below meth c A Q ls C0 hK hP hD hS hA hl hret
  have hx := C0.1
  have hb := C0.2.1
  have hl : lv_has ls 1 [(0, .ref (ad 0))] := hl
  refine lv_aload_n hx hb dX0_nextGroup_0 rfl (lv_at hl 0 rfl) ?_
  refine z_get C0 zt_x0 hK hP 0 rfl rfl 9 (by decide) fl_X0_50 rfl dX0_nextGroup_1 ?_
  refine lv_if_ne (tgt := 10) hx hb dX0_nextGroup_4 (by decide) (fun hz => ?_) (fun hz => False.elim (absurd hz (by decide)))
  refine lv_aload_n hx hb dX0_nextGroup_10 rfl (lv_at hl 0 rfl) ?_
  refine zv_callV0 (As := []) (rest := []) (q0 := 0) (ci := 0) C0 (c_clearCurrent l D ad cs w n nr hn hnr K V O M RL G (nI f) sp 1 (nI f) op ck cv) zv_X0_X0_clearCurrent ⟨by decide, by decide⟩ ⟨rfl, rfl⟩ rfl hK hP hD hS hA rfl rfl rfl hl.1 rfl (Nat.le_of_ble_eq_true rfl) dX0_nextGroup_11 ⟨Nat.zero_le _, Nat.zero_le _⟩ (fun G1 H locs hg hP hD hS => ?_)
  have hP : va_P D classes (xw ad cs w n nr K V O M RL G1 (nI f) sp 1 (nI f) op 0 0) H := hP
  have hD : va_D A (xw ad cs w n nr K V O M RL G1 (nI f) sp 1 (nI f) op 0 0) := hD
  refine lv_aload_n hx hb dX0_nextGroup_14 rfl (lv_at hl 0 rfl) ?_
  refine z_get C0 zt_x0 hK hP 0 rfl rfl 10 (by decide) fl_X0_54 rfl dX0_nextGroup_15 ?_
  refine lv_aload_n hx hb dX0_nextGroup_18 rfl (lv_at hl 0 rfl) ?_
  refine z_get C0 zt_x0 hK hP 0 rfl rfl 7 (by decide) fl_X0_44 rfl dX0_nextGroup_19 ?_
  refine lv_icmp_lt (tgt := 27) hx hb dX0_nextGroup_22 (by decide) (fun c1 => False.elim (nI_nlt (Nat.le_refl f) (by omega) c1)) (fun c1 => ?_)
  refine lv_iconst (v := -1) hx hb dX0_nextGroup_25 (by decide) ?_
  exact hret _ (G1) _ _ _ _ hP hD hS (⟨rfl, hg⟩) dX0_nextGroup_26
abbrev rX_skipTo : Room := { frames := 2, cells := 0, slots := 0, locals := 45 }
set_option maxHeartbeats 4000000 in
set_option maxRecDepth 100000 in
theorem c_skipTo (l : Launch) (D : va_G) (ad : Nat → Nat) (cs : Nat → ClassId) (w n nr : Nat) (hn : n < 2 ^ 31) (hnr : nr < 2 ^ 31) (K V O M RL G : Nat → Int32) (sp op ck cv : Int32) (r f c0 : Nat) (o : Nat → Nat) (key : Int32) (hf : f ≤ n) (hn2 : n < 2 ^ 29) (hw0 : 0 < w) (hw1 : w < 2 ^ 29) (hF : xF K O f o) (hR : xR w r f c0 o RL op) (hfr : f ≤ r * w + w) (hrn : rnn r f ≤ nr) (hc : c0 ≤ f) : ZI (S := ((Nat → Int32) × (Nat → Int32) × Int32 × Nat)) l yX0_skipTo cX0_skipTo 3 rX_skipTo D classes (xt cs) [.ref (ad 0), .int key] (xw ad cs w n nr K V O M RL G (nI f) sp 1 (nI c0) op ck cv) (fun v u => v = nI u.2.2.2 ∧ c0 + u.2.2.2 ≤ f ∧ (∀ i, i < u.2.2.2 → K (o (c0 + i)) < key) ∧ (c0 + u.2.2.2 = f ∨ ¬ K (o (c0 + u.2.2.2)) < key) ∧ (∀ j, j < 4 → u.1 j = 0) ∧ xR w r f (c0 + u.2.2.2) o u.2.1 u.2.2.1) (fun u => xw ad cs w n nr K V O M u.2.1 u.1 (nI f) sp 1 (nI (c0 + u.2.2.2)) u.2.2.1 0 0) := by
  refine ZI.of (by decide +kernel) (Nat.le_of_ble_eq_true rfl) ?_
  intro p e s m args below meth c A Q ls C0 hK hP hD hS hA hl hret
  have hx := C0.1
  have hb := C0.2.1
  have hl : lv_has ls 3 [(0, .ref (ad 0)), (1, .int key)] := hl
  refine lv_aload_n hx hb dX0_skipTo_0 rfl (lv_at hl 0 rfl) ?_
  refine z_get C0 zt_x0 hK hP 0 rfl rfl 9 (by decide) fl_X0_50 rfl dX0_skipTo_1 ?_
  refine lv_if_ne (tgt := 10) hx hb dX0_skipTo_4 (by decide) (fun hz => ?_) (fun hz => False.elim (absurd hz (by decide)))
  refine lv_aload_n hx hb dX0_skipTo_10 rfl (lv_at hl 0 rfl) ?_
  refine zv_callV0 (As := []) (rest := []) (q0 := 0) (ci := 0) C0 (c_clearCurrent l D ad cs w n nr hn hnr K V O M RL G (nI f) sp 1 (nI c0) op ck cv) zv_X0_X0_clearCurrent ⟨by decide, by decide⟩ ⟨rfl, rfl⟩ rfl hK hP hD hS hA rfl rfl rfl hl.1 rfl (Nat.le_of_ble_eq_true rfl) dX0_skipTo_11 ⟨Nat.zero_le _, Nat.zero_le _⟩ (fun G1 H locs hg hP hD hS => ?_)
  have hP : va_P D classes (xw ad cs w n nr K V O M RL G1 (nI f) sp 1 (nI c0) op 0 0) H := hP
  have hD : va_D A (xw ad cs w n nr K V O M RL G1 (nI f) sp 1 (nI c0) op 0 0) := hD
  refine lv_aload_n hx hb dX0_skipTo_14 rfl (lv_at hl 0 rfl) ?_
  refine z_get C0 zt_x0 hK hP 0 rfl rfl 10 (by decide) fl_X0_54 rfl dX0_skipTo_15 ?_
  refine lv_istore_n (lv' := [(2, .int (nI c0)), (0, .ref (ad 0)), (1, .int key)]) hx hb dX0_skipTo_18 rfl hl (by decide) rfl (fun ls hl => ?_)
  have loop : ∀ (NN : Nat) (mm : Nat) (RL2 : Nat → Int32) (op2 : Int32) (H : Heap) (locs : List Loc) (ls : Array Slot), (c0 + mm ≤ f ∧ (∀ i, i < mm → K (o (c0 + i)) < key) ∧ xR w r f (c0 + mm) o RL2 op2) → f - mm < NN → va_P D classes (xw ad cs w n nr K V O M RL2 G1 (nI f) sp 1 (nI (c0 + mm)) op2 0 0) H → va_D A (xw ad cs w n nr K V O M RL2 G1 (nI f) sp 1 (nI (c0 + mm)) op2 0 0) → va_S A s.heap H locs → lv_has ls 3 [(2, .int (nI c0)), (0, .ref (ad 0)), (1, .int key)] → W p l e rX_skipTo s m args below meth c H locs 0 0 Q (F0 m 19 ls []) := by
    intro N19
    induction N19 with
    | zero => intro mm RL2 op2 H locs ls hI hN; exact absurd hN (Nat.not_lt_zero _)
    | succ N19 ih19 =>
      intro mm RL2 op2 H locs ls hI hN19 hP hD hS hl
      obtain ⟨i1, i2, i4⟩ := hI
      refine lv_aload_n hx hb dX0_skipTo_19 rfl (lv_at hl 1 rfl) ?_
      refine z_get C0 zt_x0 hK hP 0 rfl rfl 10 (by decide) fl_X0_54 rfl dX0_skipTo_20 ?_
      refine lv_aload_n hx hb dX0_skipTo_23 rfl (lv_at hl 1 rfl) ?_
      refine z_get C0 zt_x0 hK hP 0 rfl rfl 7 (by decide) fl_X0_44 rfl dX0_skipTo_24 ?_
      refine lv_icmp_ge (tgt := 63) hx hb dX0_skipTo_27 (by decide) (fun c2 => ?_) (fun c2 => ?_)
      · have c2 := zle c2 (by omega) (by omega)
        have hend : c0 + mm = f ∨ ¬ K (o (c0 + mm)) < key := Or.inl (by omega)
        refine lv_aload_n hx hb dX0_skipTo_63 rfl (lv_at hl 1 rfl) ?_
        refine z_get C0 zt_x0 hK hP 0 rfl rfl 10 (by decide) fl_X0_54 rfl dX0_skipTo_64 ?_
        refine lv_iload_n hx hb dX0_skipTo_67 rfl (lv_at hl 0 rfl) ?_
        refine lv_isub hx hb dX0_skipTo_68 ?_
        refine z_eq (show ((nI (c0 + mm)) - (nI c0)) = nI mm from by rw [pk_sub (by omega), Nat.add_sub_cancel_left]) ?_
        exact hret _ ((G1, RL2, op2, mm)) _ _ _ _ hP hD hS (⟨rfl, i1, i2, hend, hg, i4⟩) dX0_skipTo_69
      · have c2 := znle c2 (by omega) (by omega)
        refine lv_aload_n hx hb dX0_skipTo_30 rfl (lv_at hl 1 rfl) ?_
        refine lv_aload_n hx hb dX0_skipTo_31 rfl (lv_at hl 1 rfl) ?_
        refine z_get C0 zt_x0 hK hP 0 rfl rfl 10 (by decide) fl_X0_54 rfl dX0_skipTo_32 ?_
        refine zr_callV (As := [.int (nI (c0 + mm))]) (rest := []) (q0 := 0) (ci := 0) C0 (c_keyOfRow l D ad cs w n nr hn hnr K V O M RL2 G1 (nI f) sp 1 (nI (c0 + mm)) op2 0 0 (nI (c0 + mm))) zv_X0_X0_keyOfRow ⟨by decide, by decide⟩ ⟨rfl, rfl⟩ rfl hK hP hD rfl rfl rfl hl.1 rfl (Nat.le_of_ble_eq_true rfl) dX0_skipTo_35 ⟨Nat.zero_le _, Nat.zero_le _⟩ (fun r1 er1 => ?_)
        subst er1
        refine z_eq (show (za n K (za n O (nI (c0 + mm)))) = K (o (c0 + mm)) from by rw [za_at (by omega) hn, hF.1 _ (by omega), za_at (by have := hF.rng (a := c0 + mm) (by omega); omega) hn]) ?_
        refine lv_iload_n hx hb dX0_skipTo_38 rfl (lv_at hl 2 rfl) ?_
        refine lv_icmp_ge (tgt := 63) hx hb dX0_skipTo_39 (by decide) (fun c3 => ?_) (fun c3 => ?_)
        · have hend : c0 + mm = f ∨ ¬ K (o (c0 + mm)) < key := Or.inr (Int32.not_lt.mpr c3)
          refine lv_aload_n hx hb dX0_skipTo_63 rfl (lv_at hl 1 rfl) ?_
          refine z_get C0 zt_x0 hK hP 0 rfl rfl 10 (by decide) fl_X0_54 rfl dX0_skipTo_64 ?_
          refine lv_iload_n hx hb dX0_skipTo_67 rfl (lv_at hl 0 rfl) ?_
          refine lv_isub hx hb dX0_skipTo_68 ?_
          refine z_eq (show ((nI (c0 + mm)) - (nI c0)) = nI mm from by rw [pk_sub (by omega), Nat.add_sub_cancel_left]) ?_
          exact hret _ ((G1, RL2, op2, mm)) _ _ _ _ hP hD hS (⟨rfl, i1, i2, hend, hg, i4⟩) dX0_skipTo_69
        · refine lv_aload_n hx hb dX0_skipTo_42 rfl (lv_at hl 1 rfl) ?_
          refine lv_aload_n hx hb dX0_skipTo_43 rfl (lv_at hl 1 rfl) ?_
          refine z_get C0 zt_x0 hK hP 0 rfl rfl 10 (by decide) fl_X0_54 rfl dX0_skipTo_44 ?_
          have hoc := hF.rng (a := c0 + mm) (by omega)
          obtain ⟨t1, t2, t3⟩ := xR_take i4 hw0 (show c0 + mm < f by omega) hfr hoc (by omega)
          refine zv_callV0 (As := [.int (nI (c0 + mm))]) (rest := []) (q0 := 0) (ci := 0) C0 (c_takeFromRun l D ad cs w n nr hn hnr K V O M RL2 G1 (nI f) sp 1 (nI (c0 + mm)) op2 0 0 (c0 + mm) (o (c0 + mm)) (px_cnt (rw_P w (o (c0 + mm) / w)) o (c0 + mm + 1) (f - (c0 + mm + 1))) hw0 hw1 (by omega) (hF.1 _ (by omega)) (by omega) (by have := px_cnt_le (P := rw_P w (o (c0 + mm) / w)) (o := o) (lo := c0 + mm + 1) (f - (c0 + mm + 1)); omega) (by omega) t2) zv_X0_X0_takeFromRun ⟨by decide, by decide⟩ ⟨rfl, rfl⟩ rfl hK hP hD hS hA rfl rfl rfl hl.1 rfl (Nat.le_of_ble_eq_true rfl) dX0_skipTo_47 ⟨Nat.zero_le _, Nat.zero_le _⟩ (fun op1 H locs ht hP hD hS => ?_)
          rw [← ht] at t3
          have hP : va_P D classes (xw ad cs w n nr K V O M (upd RL2 (o (c0 + mm) / w) (nI (px_cnt (rw_P w (o (c0 + mm) / w)) o (c0 + mm + 1) (f - (c0 + mm + 1))))) G1 (nI f) sp 1 (nI (c0 + mm)) op1 0 0) H := hP
          have hD : va_D A (xw ad cs w n nr K V O M (upd RL2 (o (c0 + mm) / w) (nI (px_cnt (rw_P w (o (c0 + mm) / w)) o (c0 + mm + 1) (f - (c0 + mm + 1))))) G1 (nI f) sp 1 (nI (c0 + mm)) op1 0 0) := hD
          refine lv_aload_n hx hb dX0_skipTo_50 rfl (lv_at hl 1 rfl) ?_
          refine lv_dup hx hb dX0_skipTo_51 rfl ?_
          refine z_get C0 zt_x0 hK hP 0 rfl rfl 10 (by decide) fl_X0_54 rfl dX0_skipTo_52 ?_
          refine lv_iconst (v := 1) hx hb dX0_skipTo_55 (by decide) ?_
          refine lv_iadd hx hb dX0_skipTo_56 ?_
          refine z_eq (show ((nI (c0 + mm)) + 1) = nI (c0 + (mm + 1)) from nI_1 _) ?_
          refine z_put (ty := .int) C0 zt_x0 tyX0 tyX0_ok nmX0 hK hP hD hS 0 rfl rfl 10 (by decide) fl_X0_54 rfl (by decide +kernel) rfl rfl (Nat.le_of_ble_eq_true rfl) dX0_skipTo_57 (fun H locs hP hD hS => ?_)
          have hP : va_P D classes (xw ad cs w n nr K V O M (upd RL2 (o (c0 + mm) / w) (nI (px_cnt (rw_P w (o (c0 + mm) / w)) o (c0 + mm + 1) (f - (c0 + mm + 1))))) G1 (nI f) sp 1 (nI (c0 + (mm + 1))) op1 0 0) H := hP
          have hD : va_D A (xw ad cs w n nr K V O M (upd RL2 (o (c0 + mm) / w) (nI (px_cnt (rw_P w (o (c0 + mm) / w)) o (c0 + mm + 1) (f - (c0 + mm + 1))))) G1 (nI f) sp 1 (nI (c0 + (mm + 1))) op1 0 0) := hD
          refine lv_goto (tgt := 19) hx hb dX0_skipTo_60 (by decide) ?_
          exact ih19 (mm + 1) (upd RL2 (o (c0 + mm) / w) (nI (px_cnt (rw_P w (o (c0 + mm) / w)) o (c0 + mm + 1) (f - (c0 + mm + 1))))) op1 _ _ _ (⟨by omega, fun i h => by rcases Nat.lt_or_ge i mm with q | q; (exact i2 i q); (rw [show i = mm by omega]; exact Int32.not_le.mp c3), t3⟩) (by omega) hP hD hS (lv_sub hl [0, 1, 2] rfl)
  exact loop _ 0 RL op _ _ _ (⟨by omega, fun i h => absurd h (Nat.not_lt_zero i), hR⟩) (Nat.lt_succ_self _) hP hD hS (lv_sub hl [0, 1, 2] (rfl))
set_option maxHeartbeats 4000000 in
set_option maxRecDepth 100000 in
theorem c_skipTo_u (l : Launch) (D : va_G) (ad : Nat → Nat) (cs : Nat → ClassId) (w n nr : Nat) (hn : n < 2 ^ 31) (hnr : nr < 2 ^ 31) (K V O M RL G : Nat → Int32) (fed sp co op ck cv : Int32) (key : Int32)  : ZI (S := Unit) l yX0_skipTo cX0_skipTo 3 rX_skipTo D classes (xt cs) [.ref (ad 0), .int key] (xw ad cs w n nr K V O M RL G fed sp 0 co op ck cv) (fun v _ => v = -4) (fun _ => xw ad cs w n nr K V O M RL G fed sp 0 co op ck cv) := by
  refine ZI.of (by decide +kernel) (Nat.le_of_ble_eq_true rfl) ?_
  intro p e s m args below meth c A Q ls C0 hK hP hD hS hA hl hret
  have hx := C0.1
  have hb := C0.2.1
  have hl : lv_has ls 3 [(0, .ref (ad 0)), (1, .int key)] := hl
  refine lv_aload_n hx hb dX0_skipTo_0 rfl (lv_at hl 0 rfl) ?_
  refine z_get C0 zt_x0 hK hP 0 rfl rfl 9 (by decide) fl_X0_50 rfl dX0_skipTo_1 ?_
  refine lv_if_ne (tgt := 10) hx hb dX0_skipTo_4 (by decide) (fun hz => False.elim (hz rfl)) (fun hz => ?_)
  refine lv_bipush (v := -4) hx hb dX0_skipTo_7 (by decide) ?_
  exact hret _ (()) _ _ _ _ hP hD hS (rfl) dX0_skipTo_9
