/-! LAW 4: the loop, the start -/
theorem lw_cl (x : Int32) (B : Nat) (h1 : 1 < B) (h2 : B < 2 ^ 31) : ∃ w : Nat, 0 < w ∧ w ≤ B ∧ (if 1 < (if x < nI B then x else nI B) then (if x < nI B then x else nI B) else 1) = nI w ∧ (if x < 1 then 1 else if nI B < x then nI B else x) = nI w := by
  by_cases a : x < 1
  · refine ⟨1, by omega, by omega, ?_, ?_⟩
    · have e1 : x < nI B := Int32.lt_of_lt_of_le a (nI_le (a := 1) (by omega) h2)
      rw [if_pos e1, if_neg (fun z => absurd (Int32.lt_trans z a) Int32.lt_irrefl)]
      rfl
    · rw [if_pos a]
      rfl
  · have hn : ¬ x < 0 := fun z => a (Int32.lt_trans z (by decide))
    obtain ⟨j, hj, rfl⟩ := nI_of hn
    have j1 : 1 ≤ j := znlt (b := 1) a hj (by decide)
    by_cases b : nI B < nI j
    · have b' := zlt b h2 hj
      refine ⟨B, by omega, by omega, ?_, ?_⟩
      · rw [if_neg (fun z => absurd (Int32.lt_trans z b) Int32.lt_irrefl), if_pos (show (1 : Int32) < nI B from nI_lt (a := 1) h1 h2)]
      · rw [if_neg a, if_pos b]
    · have b' := znlt b h2 hj
      refine ⟨j, by omega, b', ?_, ?_⟩
      · have e1 : (if nI j < nI B then nI j else nI B) = nI j := by
          by_cases q : nI j < nI B
          · rw [if_pos q]
          · have := znlt q hj h2
            rw [if_neg q, show j = B by omega]
        rw [e1]
        by_cases q : (1 : Int32) < nI j
        · rw [if_pos q]
        · have := znlt (a := 1) q (by decide) hj
          rw [if_neg q, show j = 1 by omega]
          rfl
      · rw [if_neg a, if_neg b]
theorem lw_sz {w sp : Nat} (h0 : 0 < w) (h1 : w ≤ 64) (h2 : sp ≤ 2000) : lS w (w * (sp / w + 1)) (sp / w + 1) := by
  have a1 : sp / w ≤ sp := Nat.div_le_self _ _
  have a2 : w * (sp / w) ≤ sp := Nat.mul_div_le _ _
  refine ⟨h0, h1, by omega, rfl, ?_⟩
  rw [Nat.mul_add, Nat.mul_one]
  omega
set_option maxHeartbeats 8000000 in
set_option maxRecDepth 100000 in
theorem law_loop {p : Program} {l : Launch} {e : Env} {s : State} {m : MethodId} {below : List Frame} {meth : Method} {c : Code} {b L : Nat} {xs : Nat → Int32} {D : va_G} {ad : Nat → Nat} {cs : Nat → ClassId} {bd : Nat → Nat} {cr : Nat → ClassId} {oa : Nat} {oc : ClassId} {w n nr : Nat} (hC : LC p s m c b L xs D cs cr oc) (hr : meth.sig.returnType = ret) (hlocks : meth.locks = false) (hl9 : l.stackTraces = false) (hL : L ≤ 2562) (hz : lS w n nr) : ∀ (N i : Nat), i ≤ 2567 → L - i < N → ∀ (K V O M RL G OM LF : Nat → Int32) (f r c0 : Nat) (se op ck cv th held cur nk nv gc gu gl gm : Int32) (g : Nat → Int64) (H : Heap) (locs : List Loc) (ls : Array Slot), li w n K O RL G OM f r c0 se op ck cv held cur nk nv gc gu gl gm → va_P D classes (lwd ad cs bd cr oa oc w n nr K V O M RL G OM LF f r c0 se op ck cv th held cur nk nv gc gu gl gm g) H → va_D (fun q => s.heap.size ≤ q) (lwd ad cs bd cr oa oc w n nr K V O M RL G OM LF f r c0 se op ck cv th held cur nk nv gc gu gl gm g) → va_S (fun q => s.heap.size ≤ q) s.heap H locs → lv_has ls 7 [(0, .ref b), (1, .ref (ad 0)), (2, .ref (bd 0)), (3, .ref oa), (4, .int (nI i))] → W p l e room_1 s m #[Value.ref b] below meth c H locs (14 + i) (20000 + 6 * i) (lw_Z below #[Value.ref b] s) (F0 m 43 ls []) := by
  intro N
  induction N with
  | zero => intro i _ hN; exact absurd hN (Nat.not_lt_zero _)
  | succ N ih =>
    intro i hi9 hN K V O M RL G OM LF f r c0 se op ck cv th held cur nk nv gc gu gl gm g H locs ls hI hP hD hS hl
    obtain ⟨C0, hX, hbl, hK, hxh⟩ := id hC
    have hx := C0.1
    have hb := C0.2.1
    have hbA : ¬ (fun q => s.heap.size ≤ q) b := Nat.not_le.mpr hbl
    refine lv_iload hx hb dL_law_43 (lv_at hl 4 rfl) ?_
    refine lv_aload_n hx hb dL_law_45 rfl (lv_at hl 0 rfl) ?_
    refine va_slen hx hb hX hbl hbA hS dL_law_46 ?_
    refine lv_iconst (v := 5) hx hb dL_law_47 (by decide) ?_
    refine lv_isub hx hb dL_law_48 ?_
    have hsub : (nI L - nI 5).toInt = (L : Int) - 5 := pk_sub_toInt (by omega) (by omega)
    have hii : (nI i).toInt = (i : Int) := nI_toInt (by omega)
    refine lv_icmp_gt (tgt := 464) hx hb dL_law_49 (by decide) (fun c1 => ?_) (fun c1 => ?_)
    · refine lv_iconst (v := 1) hx hb dL_law_464 (by decide) ?_
      refine va_forget hS.2.2 ?_
      refine W.widen (k := 601024) (n := 7293000) (by omega) (by omega) ?_
      exact lw_ret hx hb hr hlocks dL_law_465
    · have hi : i + 5 ≤ L := by
        have c2 : ¬ (nI L - nI 5).toInt < (nI i).toInt := fun z => c1 (Int32.lt_iff_toInt_lt.mpr z)
        rw [hsub, hii] at c2
        omega
      have hB : LB p l e s m below meth c b D ad cs bd cr oa oc w n nr i := by
        intro K V O M RL G OM LF f r c0 se op ck cv th held cur nk nv gc gu gl gm g H locs ls hI hP hD hS hl
        refine lv_iinc (v := nI (i + 5)) (lv' := [(4, .int (nI (i + 5))), (0, .ref b), (1, .ref (ad 0)), (2, .ref (bd 0)), (3, .ref oa)]) hx hb dL_law_458 hl (k := 4) rfl (show nI i + Int32.ofInt 5 = nI (i + 5) from (congrArg (nI i + ·) (by decide : Int32.ofInt 5 = 5)).trans (nI_add i 5)) (by decide) rfl (fun ls hl => ?_)
        refine lv_goto (tgt := 43) hx hb dL_law_461 (by decide) ?_
        refine W.widen (k := 14 + (i + 5)) (n := 20000 + 6 * (i + 5)) (by omega) (by omega) ?_
        exact ih (i + 5) (by omega) (by omega) K V O M RL G OM LF f r c0 se op ck cv th held cur nk nv gc gu gl gm g _ _ _ hI hP hD hS (lv_sub hl [1, 2, 3, 4, 0] rfl)
      refine lv_aload_n hx hb dL_law_52 rfl (lv_at hl 0 rfl) ?_
      refine lv_iload hx hb dL_law_53 (lv_at hl 4 rfl) ?_
      refine z_sld (j := i) C0 hX hbl hbA hS (by omega) (by omega) dL_law_55 ?_
      refine lv_bipush (v := 15) hx hb dL_law_56 (by decide) ?_
      refine lv_iand hx hb dL_law_58 ?_
      obtain ⟨j, hj, ej⟩ := pk_andE (xs i) (m := 15) 4 (by decide)
      refine z_eq ej ?_
      rcases (show j = 0 ∨ j = 1 ∨ j = 2 ∨ j = 3 ∨ j = 4 ∨ j = 5 ∨ j = 6 ∨ j = 7 ∨ j = 8 ∨ j = 9 ∨ j = 10 ∨ j = 11 ∨ j = 12 ∨ j = 13 ∨ j = 14 ∨ j = 15 by omega) with rfl | rfl | rfl | rfl | rfl | rfl | rfl | rfl | rfl | rfl | rfl | rfl | rfl | rfl | rfl | rfl
      · refine lv_tableIn (tgt := 116) hx hb dL_law_59 (by decide) (by decide) rfl (by decide) ?_
        exact law_0 hC hl9 hi hL hz hB K V O M RL G OM LF f r c0 se op ck cv th held cur nk nv gc gu gl gm g _ _ _ hI hP hD hS hl
      · refine lv_tableIn (tgt := 127) hx hb dL_law_59 (by decide) (by decide) rfl (by decide) ?_
        exact law_1 hC hl9 hi hL hz hB K V O M RL G OM LF f r c0 se op ck cv th held cur nk nv gc gu gl gm g _ _ _ hI hP hD hS hl
      · refine lv_tableIn (tgt := 164) hx hb dL_law_59 (by decide) (by decide) rfl (by decide) ?_
        exact law_2 hC hl9 hi hL hz hB K V O M RL G OM LF f r c0 se op ck cv th held cur nk nv gc gu gl gm g _ _ _ hI hP hD hS hl
      · refine lv_tableIn (tgt := 256) hx hb dL_law_59 (by decide) (by decide) rfl (by decide) ?_
        exact law_3 hC hl9 hi hL hz hB K V O M RL G OM LF f r c0 se op ck cv th held cur nk nv gc gu gl gm g _ _ _ hI hP hD hS hl
      · refine lv_tableIn (tgt := 269) hx hb dL_law_59 (by decide) (by decide) rfl (by decide) ?_
        exact law_4 hC hl9 hi hL hz hB K V O M RL G OM LF f r c0 se op ck cv th held cur nk nv gc gu gl gm g _ _ _ hI hP hD hS hl
      · refine lv_tableIn (tgt := 282) hx hb dL_law_59 (by decide) (by decide) rfl (by decide) ?_
        exact law_5 hC hl9 hi hL hz hB K V O M RL G OM LF f r c0 se op ck cv th held cur nk nv gc gu gl gm g _ _ _ hI hP hD hS hl
      · refine lv_tableIn (tgt := 295) hx hb dL_law_59 (by decide) (by decide) rfl (by decide) ?_
        exact law_6 hC hl9 hi hL hz hB K V O M RL G OM LF f r c0 se op ck cv th held cur nk nv gc gu gl gm g _ _ _ hI hP hD hS hl
      · refine lv_tableIn (tgt := 320) hx hb dL_law_59 (by decide) (by decide) rfl (by decide) ?_
        exact law_7 hC hl9 hi hL hz hB K V O M RL G OM LF f r c0 se op ck cv th held cur nk nv gc gu gl gm g _ _ _ hI hP hD hS hl
      · refine lv_tableIn (tgt := 333) hx hb dL_law_59 (by decide) (by decide) rfl (by decide) ?_
        exact law_8 hC hl9 hi hL hz hB K V O M RL G OM LF f r c0 se op ck cv th held cur nk nv gc gu gl gm g _ _ _ hI hP hD hS hl
      · refine lv_tableIn (tgt := 346) hx hb dL_law_59 (by decide) (by decide) rfl (by decide) ?_
        exact law_9 hC hl9 hi hL hz hB K V O M RL G OM LF f r c0 se op ck cv th held cur nk nv gc gu gl gm g _ _ _ hI hP hD hS hl
      · refine lv_tableIn (tgt := 402) hx hb dL_law_59 (by decide) (by decide) rfl (by decide) ?_
        exact law_10 hC hl9 hi hL hz hB K V O M RL G OM LF f r c0 se op ck cv th held cur nk nv gc gu gl gm g _ _ _ hI hP hD hS hl
      · refine lv_tableOut (tgt := 458) hx hb dL_law_59 (by decide) (by decide) ?_
        refine W.widen (k := 15 + i) (n := 20006 + 6 * i) (by omega) (by omega) ?_
        exact hB K V O M RL G OM LF f r c0 se op ck cv th held cur nk nv gc gu gl gm g _ _ _ hI hP hD hS hl
      · refine lv_tableOut (tgt := 458) hx hb dL_law_59 (by decide) (by decide) ?_
        refine W.widen (k := 15 + i) (n := 20006 + 6 * i) (by omega) (by omega) ?_
        exact hB K V O M RL G OM LF f r c0 se op ck cv th held cur nk nv gc gu gl gm g _ _ _ hI hP hD hS hl
      · refine lv_tableOut (tgt := 458) hx hb dL_law_59 (by decide) (by decide) ?_
        refine W.widen (k := 15 + i) (n := 20006 + 6 * i) (by omega) (by omega) ?_
        exact hB K V O M RL G OM LF f r c0 se op ck cv th held cur nk nv gc gu gl gm g _ _ _ hI hP hD hS hl
      · refine lv_tableOut (tgt := 458) hx hb dL_law_59 (by decide) (by decide) ?_
        refine W.widen (k := 15 + i) (n := 20006 + 6 * i) (by omega) (by omega) ?_
        exact hB K V O M RL G OM LF f r c0 se op ck cv th held cur nk nv gc gu gl gm g _ _ _ hI hP hD hS hl
      · refine lv_tableOut (tgt := 458) hx hb dL_law_59 (by decide) (by decide) ?_
        refine W.widen (k := 15 + i) (n := 20006 + 6 * i) (by omega) (by omega) ?_
        exact hB K V O M RL G OM LF f r c0 se op ck cv th held cur nk nv gc gu gl gm g _ _ _ hI hP hD hS hl
set_option maxRecDepth 20000 in
theorem zk_c8 : Cond.classLink RL 8 RX0 ∈ zt := zt_of (List.mem_append_left _ (by decide +kernel)) (by decide +kernel)
set_option maxRecDepth 20000 in
theorem zk_c31 : Cond.classLink RL 31 RX1 ∈ zt := zt_of (List.mem_append_left _ (by decide +kernel)) (by decide +kernel)
set_option maxRecDepth 20000 in
theorem zk_i0 : Cond.instantiable RX0 15 ∈ zt := zt_of (List.mem_append_left _ (by decide +kernel)) (by decide +kernel)
set_option maxRecDepth 20000 in
theorem zk_i1 : Cond.instantiable RX1 19 ∈ zt := zt_of (List.mem_append_left _ (by decide +kernel)) (by decide +kernel)
set_option maxRecDepth 20000 in
theorem zk_n0 : Cond.initialized RX0 ∈ zt := zt_of (List.mem_append_left _ (by decide +kernel)) (by decide +kernel)
set_option maxRecDepth 20000 in
theorem zk_n1 : Cond.initialized RX1 ∈ zt := zt_of (List.mem_append_left _ (by decide +kernel)) (by decide +kernel)
set_option maxRecDepth 20000 in
theorem zk_face : ∀ w ∈ iaeB, w ∈ lw_tbl := by decide +kernel
set_option maxRecDepth 20000 in
theorem zk_st1 : Cond.laysStatic Bundle.tN "UNASSIGNED_STACK" Bundle.steD ∈ lw_tbl := by decide +kernel
set_option maxRecDepth 20000 in
theorem zk_st2 : Cond.laysStatic Bundle.tN "SUPPRESSED_SENTINEL" Bundle.listD ∈ lw_tbl := by decide +kernel
set_option maxRecDepth 20000 in
theorem zk_tn : Cond.initialized Bundle.tN ∈ lw_tbl := by decide +kernel
set_option maxRecDepth 20000 in
theorem zk_s1 : Cond.stringRef RX0 69 "n is not in 0 .. 200" ∈ lw_tbl := by decide +kernel
set_option maxRecDepth 20000 in
theorem zk_s2 : Cond.stringRef RX0 103 "what is not in 0 .. 3" ∈ lw_tbl := by decide +kernel
theorem xh_start {s : State} {b : Nat} (hts : ∀ w ∈ lw_tbl, w.before #[Value.ref b] s = true) (hgv : (Jvm.Cond.and given_1 narrow_1).before #[Value.ref b] s = true) : xh s.heap.size s := by
  have hs := flat_of_before _ hgv
  have g1 : (Cond.isRef (.static Bundle.tN "UNASSIGNED_STACK" Bundle.steD)).before #[Value.ref b] s = true := hs _ (by decide +kernel)
  have g2 : (Cond.isRef (.static Bundle.tN "SUPPRESSED_SENTINEL" Bundle.listD)).before #[Value.ref b] s = true := hs _ (by decide +kernel)
  have g3 : (Cond.exactly (.string RX0 69) "java/lang/String").before #[Value.ref b] s = true := hs _ (by decide +kernel)
  have g4 : (Cond.exactly (.string RX0 103) "java/lang/String").before #[Value.ref b] s = true := hs _ (by decide +kernel)
  obtain ⟨sa, _, _, _, e1, -⟩ := Cond.exactly_spec (args := #[Value.ref b]) (first := s) (o := none) (s := s) (idx := []) g3
  obtain ⟨sb, _, _, _, e2, -⟩ := Cond.exactly_spec (args := #[Value.ref b]) (first := s) (o := none) (s := s) (idx := []) g4
  have hA : ∀ a : Nat, a < s.heap.size → ¬ (fun q : Nat => s.heap.size ≤ q) a := fun a h => Nat.not_le.mpr h
  exact ⟨vx_Zqof (hts _ zk_st1) (hts _ zk_tn) g1 hA, vx_Zqof (hts _ zk_st2) (hts _ zk_tn) g2 hA, xc_moved (Vm.Alike.refl s.vm) (fun w hw => hts w (zk_face w hw)), ⟨sa, vk_R.of (A := #[Value.ref b]) (hts _ zk_s1) e1⟩, sb, vk_R.of (A := #[Value.ref b]) (hts _ zk_s2) e2⟩
set_option maxHeartbeats 8000000 in
set_option maxRecDepth 100000 in
/-- THE LAW, from its entry -/
theorem whole_start {p : Program} {e : Env} {s : State} {m : MethodId} {below : List Frame} {meth : Method} {c : Code} (l : Launch) (hl9 : l.stackTraces = false) {b L : Nat} {xs : Nat → Int32} (hL : L ≤ 2562) (C0 : lw_At p s m meth c b L xs) : W p l e room_1 s m #[Value.ref b] below meth c s.heap [] 0 0 (lw_Z below #[Value.ref b] s) (entryFrame m ([Value.ref b] : List Value).toArray 7) := by
  obtain ⟨hx, hb, hr, hml, hown, hts, hX, hbl, hlocks, hgv⟩ := id C0
  have hxh := xh_start hts hgv
  have htz : ∀ w ∈ zt, w.before #[Value.ref b] s = true := fun w h => hts w (zt_in w h)
  have C1 : CallFix p m c cL_law 7 s #[Value.ref b] zt RL := ⟨hx, hb, hml, hown, htz⟩
  have hA : ∀ q : Nat, s.heap.size ≤ q → (fun q : Nat => s.heap.size ≤ q) q := fun _ h => h
  have hbA : ¬ (fun q : Nat => s.heap.size ≤ q) b := Nat.not_le.mpr hbl
  obtain ⟨k0, iS0, hKn0⟩ := u_known (C := RX0) (T := TX0) (N := 15) (n := 15) htz zt_x0 (htz _ zk_i0)
  obtain ⟨k1, iS1, hKn1⟩ := u_known (C := RX1) (T := TX1) (N := 19) (n := 19) htz zt_x1 (htz _ zk_i1)
  obtain ⟨D, hKc⟩ : ∃ D : va_G, ∀ (k : Nat) (q : vw_C), classes[k]? = some q → u_Kn s q.1 q.2.1 q.2.2 (D.1 k) (D.2 k) := by
    refine ⟨(fun k => if k = 0 then k0 else k1, fun k => if k = 0 then iS0 else iS1), ?_⟩
    intro k q hq
    match k, hq with
    | 0, hq => cases hq; exact hKn0
    | 1, hq => cases hq; exact hKn1
    | k + 2, hq => simp [classes] at hq
  have hS : va_S (fun q : Nat => s.heap.size ≤ q) s.heap s.heap [] := va_S.rf
  have hK : va_K D classes [] s := ⟨hKc, fun k q h => by simp at h⟩
  have hP : va_P D classes [] s.heap := fun k q h => by simp at h
  have hD : va_D (fun q : Nat => s.heap.size ≤ q) [] := ⟨fun i j p q h => by simp at h, fun k q h => by simp at h⟩
  have hl := lv_entry ([.ref b]) (n := 7) (Nat.le_of_ble_eq_true rfl)
  rw [lg_entry_eq]
  generalize (lg_sl ([.ref b]) ++ List.replicate (7 - (lg_sl ([.ref b])).length) Slot.unset).toArray = ls at hl ⊢
  have hl : lv_has ls 7 [(0, .ref b)] := hl
  refine va_new (ci := 0) (fs := [.int 0, .int 0, .null, .null, .null, .null, .null, .int 0, .int 0, .int 0, .int 0, .int 0, .int 0, .int 0, .null]) (C := RX0) (T := TX0) (N := 15) hx hb htz zt_x0 tyX0 tyX0_ok hown (htz _ zk_c8) (htz _ zk_i0) (htz _ zk_n0) hK hP hD hS hA rfl (fun j hj => by rcases (show j = 0 ∨ j = 1 ∨ j = 2 ∨ j = 3 ∨ j = 4 ∨ j = 5 ∨ j = 6 ∨ j = 7 ∨ j = 8 ∨ j = 9 ∨ j = 10 ∨ j = 11 ∨ j = 12 ∨ j = 13 ∨ j = 14 by omega) with rfl | rfl | rfl | rfl | rfl | rfl | rfl | rfl | rfl | rfl | rfl | rfl | rfl | rfl | rfl <;> rfl) (show 0 + 1 ≤ 601024 by decide) (show 0 + 15 ≤ 7293000 by decide) dL_law_0 (fun q0 H hP hD hS => ?_)
  have hP : va_P D classes [(q0, .inr (0, [.int 0, .int 0, .null, .null, .null, .null, .null, .int 0, .int 0, .int 0, .int 0, .int 0, .int 0, .int 0, .null]))] H := hP
  have hD : va_D (fun q : Nat => s.heap.size ≤ q) [(q0, .inr (0, [.int 0, .int 0, .null, .null, .null, .null, .null, .int 0, .int 0, .int 0, .int 0, .int 0, .int 0, .int 0, .null]))] := hD
  refine W.widen (k := 1) (n := 15) (by omega) (by omega) ?_
  refine lv_dup hx hb dL_law_3 rfl ?_
  refine lv_aload_n hx hb dL_law_4 rfl (lv_at hl 0 rfl) ?_
  refine lv_iconst (v := 0) hx hb dL_law_5 (by decide) ?_
  refine z_cell (j := 0) C1 hX hbl hbA hS (by omega) (by decide) hl.1 (Nat.le_of_ble_eq_true rfl) ⟨by decide, by decide⟩ dL_law_6 ⟨show 1 ≤ 601024 by decide, show 15 ≤ 7293000 by decide⟩ ?_
  refine lv_topi (fun w0 ew0 => ?_)
  refine lv_aload_n hx hb dL_law_9 rfl (lv_at hl 0 rfl) ?_
  refine lv_iconst (v := 1) hx hb dL_law_10 (by decide) ?_
  refine z_cell (j := 1) C1 hX hbl hbA hS (by omega) (by decide) hl.1 (Nat.le_of_ble_eq_true rfl) ⟨by decide, by decide⟩ dL_law_11 ⟨show 1 ≤ 601024 by decide, show 15 ≤ 7293000 by decide⟩ ?_
  refine lv_topi (fun s0 es0 => ?_)
  obtain ⟨w, ww1, ww2, ww3, ww4⟩ := lw_cl w0 64 (by decide) (by decide)
  obtain ⟨sp, ss1, ss2, ss3, ss4⟩ := lw_cl s0 2000 (by decide) (by decide)
  have hz := lw_sz ww1 ww2 ss2
  obtain ⟨nr, hnr⟩ : ∃ z, z = sp / w + 1 := ⟨_, rfl⟩
  obtain ⟨n, hnn⟩ : ∃ z, z = w * nr := ⟨_, rfl⟩
  rw [← hnr, ← hnn] at hz
  obtain ⟨z1, z2, z3, z4, z5⟩ := id hz
  refine zn_call (As := [.int w0, .int s0]) (rest := [.ref q0]) [] C1 (c_init l D q0 w0 s0 w sp nr n ww3 ss3 z1 z2 ss2 hnr hnn z5 z3) zi_L_X0_init rfl ⟨by decide, by decide⟩ rfl hK hP hD hS hA hl.1 rfl (Nat.le_of_ble_eq_true rfl) dL_law_14 ⟨show 7 ≤ 601024 by decide, show 10276 ≤ 7293000 by decide⟩ (fun u H locs hu hKn hPn hDn hS => ?_)
  obtain ⟨ad, cs⟩ := u
  dsimp only at hu hKn hPn hDn
  subst hu
  have hP : va_P D classes (xw ad cs w n nr (fun _ => 0) (fun _ => 0) (fun _ => 0) (fun _ => 0) (fun _ => 0) (fun _ => 0) 0 0 0 0 0 0 0) H := hPn
  have hD : va_D (fun q : Nat => s.heap.size ≤ q) (xw ad cs w n nr (fun _ => 0) (fun _ => 0) (fun _ => 0) (fun _ => 0) (fun _ => 0) (fun _ => 0) 0 0 0 0 0 0 0) := hDn
  have hK : va_K D classes (xt cs) s := hKn
  refine W.widen (k := 7) (n := 10276) (by decide) (by decide) ?_
  refine lv_astore_n (lv' := [(1, .ref (ad 0)), (0, .ref b)]) hx hb dL_law_17 rfl hl (by decide) rfl (fun ls hl => ?_)
  refine va_new (ci := 1) (fs := [.int 0, .int 0, .int 0, .int 0, .int 0, .int 0, .int 0, .int 0, .int 0, .int 0, .int 0, .int 0, .int 0, .int 0, .int 0, .null, .null, .null, .null]) (C := RX1) (T := TX1) (N := 19) hx hb htz zt_x1 tyX1 tyX1_ok hown (htz _ zk_c31) (htz _ zk_i1) (htz _ zk_n1) hK hP hD hS hA rfl (fun j hj => by rcases (show j = 0 ∨ j = 1 ∨ j = 2 ∨ j = 3 ∨ j = 4 ∨ j = 5 ∨ j = 6 ∨ j = 7 ∨ j = 8 ∨ j = 9 ∨ j = 10 ∨ j = 11 ∨ j = 12 ∨ j = 13 ∨ j = 14 ∨ j = 15 ∨ j = 16 ∨ j = 17 ∨ j = 18 by omega) with rfl | rfl | rfl | rfl | rfl | rfl | rfl | rfl | rfl | rfl | rfl | rfl | rfl | rfl | rfl | rfl | rfl | rfl | rfl <;> rfl) (show 7 + 1 ≤ 601024 by decide) (show 10276 + 19 ≤ 7293000 by decide) dL_law_18 (fun q1 H hP hD hS => ?_)
  have hP : va_P D classes ((xw ad cs w n nr (fun _ => 0) (fun _ => 0) (fun _ => 0) (fun _ => 0) (fun _ => 0) (fun _ => 0) 0 0 0 0 0 0 0) ++ ([(q1, .inr (1, [.int 0, .int 0, .int 0, .int 0, .int 0, .int 0, .int 0, .int 0, .int 0, .int 0, .int 0, .int 0, .int 0, .int 0, .int 0, .null, .null, .null, .null]))] ++ [])) H := hP
  have hD : va_D (fun q : Nat => s.heap.size ≤ q) ((xw ad cs w n nr (fun _ => 0) (fun _ => 0) (fun _ => 0) (fun _ => 0) (fun _ => 0) (fun _ => 0) 0 0 0 0 0 0 0) ++ ([(q1, .inr (1, [.int 0, .int 0, .int 0, .int 0, .int 0, .int 0, .int 0, .int 0, .int 0, .int 0, .int 0, .int 0, .int 0, .int 0, .int 0, .null, .null, .null, .null]))] ++ [])) := hD
  refine W.widen (k := 8) (n := 10295) (by decide) (by decide) ?_
  refine lv_dup hx hb dL_law_21 rfl ?_
  refine lv_aload_n hx hb dL_law_22 rfl (lv_at hl 1 rfl) ?_
  refine lv_iconst (v := 0) hx hb dL_law_23 (by decide) ?_
  refine z_cell (j := 0) C1 hX hbl hbA hS (by omega) (by decide) hl.1 (Nat.le_of_ble_eq_true rfl) ⟨by decide, by decide⟩ dL_law_24 ⟨show 8 ≤ 601024 by decide, show 10295 ≤ 7293000 by decide⟩ ?_
  refine lv_topi (fun w1 ew1 => ?_)
  refine lv_aload_n hx hb dL_law_27 rfl (lv_at hl 1 rfl) ?_
  refine lv_iconst (v := 1) hx hb dL_law_28 (by decide) ?_
  refine z_cell (j := 1) C1 hX hbl hbA hS (by omega) (by decide) hl.1 (Nat.le_of_ble_eq_true rfl) ⟨by decide, by decide⟩ dL_law_29 ⟨show 8 ≤ 601024 by decide, show 10295 ≤ 7293000 by decide⟩ ?_
  refine lv_topi (fun s1 es1 => ?_)
  have ew : w1 = w0 := by rw [ew1, ew0]
  have es : s1 = s0 := by rw [es1, es0]
  subst ew
  subst es
  refine zn_call (As := [.int w1, .int s1]) (rest := [.ref q1]) (xw ad cs w n nr (fun _ => 0) (fun _ => 0) (fun _ => 0) (fun _ => 0) (fun _ => 0) (fun _ => 0) 0 0 0 0 0 0 0) C1 (m_init l D q1 w1 s1 w sp nr n ww4 ss4 z1 z2 ss2 hnr hnn z5) zi_L_X1_init rfl ⟨by decide, by decide⟩ rfl hK hP hD hS hA hl.1 rfl (Nat.le_of_ble_eq_true rfl) dL_law_32 ⟨show 12 ≤ 601024 by decide, show 18551 ≤ 7293000 by decide⟩ (fun u H locs hu hKn hPn hDn hS => ?_)
  obtain ⟨bd, cr⟩ := u
  dsimp only at hu hKn hPn hDn
  subst hu
  have hP : va_P D classes ((xw ad cs w n nr (fun _ => 0) (fun _ => 0) (fun _ => 0) (fun _ => 0) (fun _ => 0) (fun _ => 0) 0 0 0 0 0 0 0) ++ (mw bd cr w n (fun _ => 0) (fun _ => 0) (fun _ => 0) (fun _ => 0) 0 0 0 0 0 0 0 0 0 0 0 0 0)) H := hPn
  have hD : va_D (fun q : Nat => s.heap.size ≤ q) ((xw ad cs w n nr (fun _ => 0) (fun _ => 0) (fun _ => 0) (fun _ => 0) (fun _ => 0) (fun _ => 0) 0 0 0 0 0 0 0) ++ (mw bd cr w n (fun _ => 0) (fun _ => 0) (fun _ => 0) (fun _ => 0) 0 0 0 0 0 0 0 0 0 0 0 0 0)) := hDn
  have hK : va_K D classes (xt cs ++ mt cr) s := hKn
  refine W.widen (k := 12) (n := 18551) (by decide) (by decide) ?_
  refine lv_astore_n (lv' := [(2, .ref (bd 0)), (1, .ref (ad 0)), (0, .ref b)]) hx hb dL_law_35 rfl hl (by decide) rfl (fun ls hl => ?_)
  refine lv_iconst (v := 1) hx hb dL_law_36 (by decide) ?_
  refine va_newa (atype := .long) (ty := .long) (a0 := (1, .inr (.inl (fun _ => 0)))) (N' := 1) hx hb (htz _ zk_al) rfl hK hP hD hS hA (fun _ => rfl) (by decide) (by decide) (by decide) (show 12 + 1 ≤ 601024 by decide) (show 18551 + 1 ≤ 7293000 by decide) dL_law_37 (fun oa oc H hK hP hD hS => ?_)
  refine W.widen (k := 16) (n := 20012) (by decide) (by decide) ?_
  refine lv_astore_n (lv' := [(3, .ref oa), (2, .ref (bd 0)), (1, .ref (ad 0)), (0, .ref b)]) hx hb dL_law_39 rfl hl (by decide) rfl (fun ls hl => ?_)
  refine lv_iconst (v := 2) hx hb dL_law_40 (by decide) ?_
  refine lv_istore (lv' := [(4, .int 2), (3, .ref oa), (2, .ref (bd 0)), (1, .ref (ad 0)), (0, .ref b)]) hx hb dL_law_41 hl (by decide) rfl (fun ls hl => ?_)
  have hP9 := hP.sub (ws' := lwd ad cs bd cr oa oc w n nr (fun _ => 0) (fun _ => 0) (fun _ => 0) (fun _ => 0) (fun _ => 0) (fun _ => 0) (fun _ => 0) (fun _ => 0) 0 0 0 0 0 0 0 0 0 0 0 0 0 0 0 0 (fun _ => 0)) [12, 0, 1, 2, 3, 4, 5, 6, 7, 8, 9, 10, 11] rfl
  have hD9 := hD.sub (ws' := lwd ad cs bd cr oa oc w n nr (fun _ => 0) (fun _ => 0) (fun _ => 0) (fun _ => 0) (fun _ => 0) (fun _ => 0) (fun _ => 0) (fun _ => 0) 0 0 0 0 0 0 0 0 0 0 0 0 0 0 0 0 (fun _ => 0)) [12, 0, 1, 2, 3, 4, 5, 6, 7, 8, 9, 10, 11] (by decide) rfl
  have hK9 := hK.sub (tys' := lt9 cs cr oc) [10, 0, 1, 2, 3, 4, 5, 6, 7, 8, 9] rfl
  exact law_loop (hC := ⟨C1, hX, hbl, hK9, hxh⟩) (hr := hr) (hlocks := hlocks) (hl9 := hl9) (hL := hL) (hz := hz) (L + 1) 2 (by decide) (by omega) (fun _ => 0) (fun _ => 0) (fun _ => 0) (fun _ => 0) (fun _ => 0) (fun _ => 0) (fun _ => 0) (fun _ => 0) 0 0 0 0 0 0 0 0 0 0 0 0 0 0 0 0 (fun _ => 0) _ _ _ ⟨Nat.zero_le _, ⟨by omega, by omega⟩, fun h => absurd h (Nat.lt_irrefl 0), by rw [Nat.zero_mul]; rfl, Or.inl ⟨rfl, rfl, rfl, fun _ _ => rfl⟩, Or.inl ⟨rfl, rfl, rfl, xO_0 w n _ _⟩⟩ hP9 hD9 hS (lv_sub hl [4, 3, 2, 1, 0] rfl)
