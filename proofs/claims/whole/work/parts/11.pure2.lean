/-! PURE 2: numbers, the order array in the class's states, runs that still have rows -/
theorem zle {a b : Nat} (h : nI a ≤ nI b) (ha : a < 2 ^ 31) (hb : b < 2 ^ 31) : a ≤ b := (nI_leI ha hb).mp h
theorem znle {a b : Nat} (h : ¬ nI a ≤ nI b) (ha : a < 2 ^ 31) (hb : b < 2 ^ 31) : b < a := by
  have := mt (nI_leI ha hb).mpr h
  omega
theorem zlt {a b : Nat} (h : nI a < nI b) (ha : a < 2 ^ 31) (hb : b < 2 ^ 31) : a < b := (nI_ltI ha hb).mp h
theorem znlt {a b : Nat} (h : ¬ nI a < nI b) (ha : a < 2 ^ 31) (hb : b < 2 ^ 31) : b ≤ a := by
  have := mt (nI_ltI ha hb).mpr h
  omega
theorem zne {a b : Nat} (h : ¬ nI a = nI b) : a ≠ b := fun e => h (by rw [e])
theorem zeq {a b : Nat} (h : nI a = nI b) (ha : a < 2 ^ 31) (hb : b < 2 ^ 31) : a = b := (nI_eq ha hb).mp h
def kz (K : Nat → Int32) : Nat → Int := fun i => (K i).toInt
theorem kz_lt {K : Nat → Int32} {i j : Nat} (h : K i < K j) : kz K i < kz K j := Int32.lt_iff_toInt_lt.mp h
theorem kz_le {K : Nat → Int32} {i j : Nat} (h : K i ≤ K j) : kz K i ≤ kz K j := Int32.le_iff_toInt_le.mp h
theorem kz_nlt {K : Nat → Int32} {i j : Nat} (h : ¬ K i < K j) : kz K j ≤ kz K i := by
  have := mt Int32.lt_iff_toInt_lt.mpr h
  unfold kz
  omega
theorem kz_nle {K : Nat → Int32} {i j : Nat} (h : ¬ K i ≤ K j) : kz K j < kz K i := by
  have := mt Int32.le_iff_toInt_le.mpr h
  unfold kz
  omega
/-- insertion under way: the places from t to row are free to be written at t -/
def px_sh (o : Nat → Nat) (t row : Nat) : Nat → Nat := fun a => if t < a ∧ a ≤ row then o (a - 1) else o a
theorem px_sh_0 {o : Nat → Nat} {row a : Nat} : px_sh o row row a = o a := by
  unfold px_sh
  rw [if_neg (by omega)]
theorem px_sh_lo {o : Nat → Nat} {t row a : Nat} (h : a ≤ t) : px_sh o t row a = o a := by
  unfold px_sh
  rw [if_neg (by omega)]
theorem px_sh_step {o : Nat → Nat} {OC : Nat → Int32} {f0 t row : Nat} (ht : f0 < t) (htr : t ≤ row) (h : ∀ a, f0 ≤ a → a ≤ row → OC a = nI (px_sh o t row a)) : ∀ a, f0 ≤ a → a ≤ row → upd OC t (nI (o (t - 1))) a = nI (px_sh o (t - 1) row a) := by
  intro a h1 h2
  by_cases e : a = t
  · subst e
    rw [upd_eq]
    unfold px_sh
    rw [if_pos (by omega)]
  · rw [upd_ne e, h a h1 h2]
    unfold px_sh
    by_cases q : t < a ∧ a ≤ row
    · rw [if_pos q, if_pos (by omega)]
    · rw [if_neg q, if_neg (by omega)]
theorem px_sh_end {o : Nat → Nat} {OC : Nat → Int32} {f0 t row : Nat} (h : ∀ a, f0 ≤ a → a ≤ row → OC a = nI (px_sh o t row a)) : ∀ a, f0 ≤ a → a ≤ row → upd OC t (nI (o row)) a = nI (px_ins o t row a) := by
  intro a h1 h2
  by_cases e : a = t
  · subst e
    rw [upd_eq, px_ins_eq]
  · rw [upd_ne e, h a h1 h2]
    unfold px_sh px_ins
    rw [if_neg e]
/-- the order array while feeding: r runs spilled, f pairs fed -/
def xO (w n : Nat) (K O : Nat → Int32) (r f : Nat) : Prop := r * w ≤ f ∧ f ≤ r * w + w ∧ f ≤ n ∧ ∃ o : Nat → Nat, (∀ a, a < f → O a = nI (o a)) ∧ (∀ j, j < r → px_srt (kz K) o (j * w) (j * w + w) ∧ px_prm o (j * w) w) ∧ (∀ a, r * w ≤ a → a < f → o a = a)
/-- the work area is sorted -/
def xS (w : Nat) (K O O1 : Nat → Int32) (r f : Nat) : Prop := ∃ o : Nat → Nat, (∀ a, r * w ≤ a → a < f → O1 a = nI (o a)) ∧ px_srt (kz K) o (r * w) f ∧ px_prm o (r * w) (f - r * w) ∧ ∀ a, a < r * w → O1 a = O a
theorem px_srt_sub {k : Nat → Int} {o : Nat → Nat} {lo hi hi' : Nat} (h : px_srt k o lo hi) (hh : hi' ≤ hi) : px_srt k o lo hi' := fun a b h1 h2 h3 => h a b h1 h2 (by omega)
theorem xO_0 (w n : Nat) (K O : Nat → Int32) : xO w n K O 0 0 := ⟨by omega, by omega, by omega, fun a => a, fun a h => absurd h (Nat.not_lt_zero a), fun j h => absurd h (Nat.not_lt_zero j), fun a _ h => absurd h (Nat.not_lt_zero a)⟩
theorem xO_id {w n : Nat} {K O : Nat → Int32} {r f : Nat} (h : xO w n K O r f) : ∀ a, r * w ≤ a → a < f → O a = nI a := by
  obtain ⟨h1, h2, h3, o, h4, h5, h6⟩ := h
  intro a a1 a2
  rw [h4 a a2, h6 a a1 a2]
/-- a sorted work area, joined to the runs before it -/
theorem xO_glue {w n : Nat} {K O O1 : Nat → Int32} {r f : Nat} (h : xO w n K O r f) (hs : xS w K O O1 r f) : ∃ o : Nat → Nat, (∀ a, a < f → O1 a = nI (o a)) ∧ (∀ j, j < r → px_srt (kz K) o (j * w) (j * w + w) ∧ px_prm o (j * w) w) ∧ px_srt (kz K) o (r * w) f ∧ px_prm o (r * w) (f - r * w) := by
  obtain ⟨h1, h2, h3, o, h4, h5, h6⟩ := h
  obtain ⟨o1, s1, s2, s3, s4⟩ := hs
  refine ⟨fun a => if a < r * w then o a else o1 a, fun a ha => ?_, fun j hj => ?_, s2.cg (fun a q1 q2 => if_neg (by omega)) (fun _ _ _ => rfl), s3.cg (fun a q1 q2 => if_neg (by omega))⟩
  · by_cases q : a < r * w
    · show O1 a = nI (if a < r * w then o a else o1 a)
      rw [if_pos q, s4 a q, h4 a ha]
    · show O1 a = nI (if a < r * w then o a else o1 a)
      rw [if_neg q, s1 a (by omega) ha]
  · obtain ⟨g1, g2⟩ := h5 j hj
    have hb : (j + 1) * w ≤ r * w := Nat.mul_le_mul_right _ hj
    rw [Nat.succ_mul] at hb
    exact ⟨g1.cg (fun a q1 q2 => if_pos (by omega)) (fun _ _ _ => rfl), g2.cg (fun a q1 q2 => if_pos (by omega))⟩
theorem xO_sp {w n : Nat} {K O O1 : Nat → Int32} {r f : Nat} (h : xO w n K O r f) (hs : xS w K O O1 r f) (hf : f = r * w + w) : xO w n K O1 (r + 1) f := by
  obtain ⟨o, g1, g2, g3, g4⟩ := xO_glue h hs
  have e : (r + 1) * w = r * w + w := Nat.succ_mul r w
  refine ⟨by omega, by omega, h.2.2.1, o, g1, fun j hj => ?_, fun a q1 q2 => by omega⟩
  rcases Nat.lt_or_ge j r with q | q
  · exact g2 j q
  · have ej : j = r := by omega
    subst ej
    rw [show f - j * w = w by omega] at g4
    rw [hf] at g3
    exact ⟨g3, g4⟩
theorem xO_add {w n : Nat} {K O : Nat → Int32} {r f : Nat} (h : xO w n K O r f) (hf : f < r * w + w) (hn : f < n) (key : Int32) : xO w n (upd K f key) (upd O f (nI f)) r (f + 1) := by
  obtain ⟨h1, h2, h3, o, h4, h5, h6⟩ := h
  refine ⟨by omega, by omega, by omega, px_up o f f, fun a ha => ?_, fun j hj => ?_, fun a q1 q2 => ?_⟩
  · by_cases q : a = f
    · subst q
      rw [upd_eq, px_up_eq]
    · rw [upd_ne q, px_up_ne q, h4 a (by omega)]
  · obtain ⟨g1, g2⟩ := h5 j hj
    have hb : (j + 1) * w ≤ r * w := Nat.mul_le_mul_right _ hj
    rw [Nat.succ_mul] at hb
    refine ⟨g1.cg (fun a q1 q2 => px_up_ne (by omega)) (fun a q1 q2 => ?_), g2.cg (fun a q1 q2 => px_up_ne (by omega))⟩
    have := (g2.rng q1 q2).2
    unfold kz
    rw [upd_ne (by omega)]
  · by_cases q : a = f
    · subst q
      exact px_up_eq
    · rw [px_up_ne q, h6 a q1 (by omega)]
/-- how many runs there are behind one pair more -/
def rnx (w r f : Nat) : Nat := if f < r * w + w then r else r + 1
/-- blocks -/
def xM (K O : Nat → Int32) (wd f : Nat) : Prop := ∃ o : Nat → Nat, (∀ a, a < f → O a = nI (o a)) ∧ px_blk (kz K) o wd f 0 f
theorem xM_of {w n : Nat} {K O O1 : Nat → Int32} {r f : Nat} (h : xO w n K O r f) (hs : xS w K O O1 r f) : xM K O1 w f := by
  obtain ⟨o, g1, g2, g3, g4⟩ := xO_glue h hs
  obtain ⟨h1, h2, h3, -⟩ := h
  refine ⟨o, g1, fun j _ hj => ?_⟩
  rcases Nat.lt_or_ge j r with q | q
  · have hb : (j + 1) * w ≤ r * w := Nat.mul_le_mul_right _ q
    rw [Nat.succ_mul] at hb
    have m1 : min (j * w + w) f = j * w + w := by omega
    rw [m1, show j * w + w - j * w = w by omega]
    exact g2 j q
  · have hb : r * w ≤ j * w := Nat.mul_le_mul_right _ q
    have ej : j = r := by
      rcases Nat.lt_or_ge r j with z | z
      · exfalso
        have hc : (r + 1) * w ≤ j * w := Nat.mul_le_mul_right _ z
        rw [Nat.succ_mul] at hc
        omega
      · omega
    subst ej
    have m1 : min (j * w + w) f = f := by omega
    rw [m1]
    exact ⟨g3, g4⟩
/-- sorted altogether -/
def xF (K O : Nat → Int32) (f : Nat) (o : Nat → Nat) : Prop := (∀ a, a < f → O a = nI (o a)) ∧ px_srt (kz K) o 0 f ∧ px_prm o 0 f
theorem xF.rng {K O : Nat → Int32} {f : Nat} {o : Nat → Nat} (h : xF K O f o) {a : Nat} (ha : a < f) : o a < f := by
  have := (h.2.2.rng (Nat.zero_le a) (by omega)).2
  omega
theorem xF_uniq {K O O' : Nat → Int32} {f : Nat} {o o' : Nat → Nat} (h : xF K O f o) (h' : xF K O' f o') : xF K O' f o := by
  refine ⟨fun a ha => ?_, h.2.1, h.2.2⟩
  have e := px_uniq (k := kz K) (lo := 0) (n := f) (by rw [Nat.zero_add]; exact h.2.1) h.2.2 (by rw [Nat.zero_add]; exact h'.2.1) h'.2.2 a (Nat.zero_le a) (by omega)
  rw [h'.1 a ha, e]
/-- the rows of one run -/
def rw_P (w j : Nat) : Nat → Bool := fun i => decide (i / w = j)
theorem rw_iff {w i j : Nat} (hw : 0 < w) : i / w = j ↔ j * w ≤ i ∧ i < j * w + w := by
  constructor
  · intro h
    subst h
    exact ⟨Nat.div_mul_le_self i w, Nat.lt_div_mul_add hw⟩
  · intro ⟨h1, h2⟩
    have a1 : j ≤ i / w := (Nat.le_div_iff_mul_le hw).mpr h1
    have a2 : i / w < j + 1 := (Nat.div_lt_iff_lt_mul hw).mpr (by rw [Nat.succ_mul]; exact h2)
    omega
theorem rw_cnt {w j : Nat} (hw : 0 < w) : ∀ f, px_cnt (rw_P w j) (fun a => a) 0 f = min w (f - j * w)
  | 0 => by simp [px_cnt]
  | f + 1 => by
    simp only [px_cnt]
    rw [rw_cnt hw f, Nat.zero_add]
    unfold rw_P
    by_cases h : f / w = j
    · have := (rw_iff hw).mp h
      rw [if_pos (by simpa using h)]
      omega
    · have := mt (rw_iff hw).mpr h
      rw [if_neg (by simpa using h)]
      omega
/-- how many runs below rn have rows among those from c on -/
def rw_open (w rn : Nat) (o : Nat → Nat) (c m : Nat) : Nat := px_cnt (fun j => decide (0 < px_cnt (rw_P w j) o c m)) (fun a => a) 0 rn
theorem px_cnt_cgP {P P' : Nat → Bool} {o : Nat → Nat} {lo : Nat} : ∀ n, (∀ k, k < n → P (o (lo + k)) = P' (o (lo + k))) → px_cnt P o lo n = px_cnt P' o lo n
  | 0, _ => rfl
  | n + 1, h => by
    simp only [px_cnt]
    rw [px_cnt_cgP n (fun k hk => h k (by omega)), h n (by omega)]
theorem px_cnt_flip {P P' : Nat → Bool} {j0 : Nat} (h1 : P j0 = true) (h2 : P' j0 = false) (h3 : ∀ j, j ≠ j0 → P j = P' j) : ∀ n, j0 < n → px_cnt P (fun a => a) 0 n = px_cnt P' (fun a => a) 0 n + 1
  | 0, h => absurd h (Nat.not_lt_zero j0)
  | n + 1, h => by
    simp only [px_cnt]
    rw [Nat.zero_add]
    by_cases e : n = j0
    · subst e
      rw [h1, h2, px_cnt_cgP (P := P) (P' := P') n (fun k hk => h3 _ (by omega))]
      simp
    · rw [px_cnt_flip h1 h2 h3 n (by omega), h3 n e]
      omega
/-- one row is taken from the front -/
theorem rw_take {w rn c m : Nat} {o : Nat → Nat} (hj : o c / w < rn) :
    (∀ j, px_cnt (rw_P w j) o c (m + 1) = px_cnt (rw_P w j) o (c + 1) m + (if j = o c / w then 1 else 0)) ∧
    rw_open w rn o c (m + 1) = rw_open w rn o (c + 1) m + (if px_cnt (rw_P w (o c / w)) o (c + 1) m = 0 then 1 else 0) := by
  have h1 : ∀ j, px_cnt (rw_P w j) o c (m + 1) = px_cnt (rw_P w j) o (c + 1) m + (if j = o c / w then 1 else 0) := by
    intro j
    rw [px_cnt_hd, Nat.add_comm]
    unfold rw_P
    by_cases h : o c / w = j
    · rw [if_pos (by simpa using h), if_pos h.symm]
    · rw [if_neg (by simpa using h), if_neg (fun e => h e.symm)]
  refine ⟨h1, ?_⟩
  unfold rw_open
  by_cases q : px_cnt (rw_P w (o c / w)) o (c + 1) m = 0
  · rw [if_pos q]
    refine px_cnt_flip (j0 := o c / w) ?_ ?_ ?_ rn hj
    · rw [h1, if_pos rfl]
      simp
    · rw [q]
      simp
    · intro j hne
      rw [h1, if_neg hne, Nat.add_zero]
  · rw [if_neg q, Nat.add_zero]
    refine px_cnt_cgP rn (fun k _ => ?_)
    show decide (0 < px_cnt (rw_P w (0 + k)) o c (m + 1)) = decide (0 < px_cnt (rw_P w (0 + k)) o (c + 1) m)
    rw [h1]
    by_cases e : 0 + k = o c / w
    · rw [e, if_pos rfl]
      have : 0 < px_cnt (rw_P w (o c / w)) o (c + 1) m := by omega
      simp [this]
    · rw [if_neg e, Nat.add_zero]
/-- one row more at the end -/
theorem rw_more {w rn c m : Nat} {o : Nat → Nat} (hj : o (c + m) / w < rn) :
    (∀ j, px_cnt (rw_P w j) o c (m + 1) = px_cnt (rw_P w j) o c m + (if j = o (c + m) / w then 1 else 0)) ∧
    rw_open w rn o c (m + 1) = rw_open w rn o c m + (if px_cnt (rw_P w (o (c + m) / w)) o c m = 0 then 1 else 0) := by
  have h1 : ∀ j, px_cnt (rw_P w j) o c (m + 1) = px_cnt (rw_P w j) o c m + (if j = o (c + m) / w then 1 else 0) := by
    intro j
    show px_cnt (rw_P w j) o c m + (if rw_P w j (o (c + m)) = true then 1 else 0) = _
    unfold rw_P
    by_cases h : o (c + m) / w = j
    · rw [if_pos (by simpa using h), if_pos h.symm]
    · rw [if_neg (by simpa using h), if_neg (fun e => h e.symm)]
  refine ⟨h1, ?_⟩
  unfold rw_open
  by_cases q : px_cnt (rw_P w (o (c + m) / w)) o c m = 0
  · rw [if_pos q]
    refine px_cnt_flip (j0 := o (c + m) / w) ?_ ?_ ?_ rn hj
    · rw [h1, if_pos rfl]
      simp
    · rw [q]
      simp
    · intro j hne
      rw [h1, if_neg hne, Nat.add_zero]
  · rw [if_neg q, Nat.add_zero]
    refine px_cnt_cgP rn (fun k _ => ?_)
    show decide (0 < px_cnt (rw_P w (0 + k)) o c (m + 1)) = decide (0 < px_cnt (rw_P w (0 + k)) o c m)
    rw [h1]
    by_cases e : 0 + k = o (c + m) / w
    · rw [e, if_pos rfl]
      have : 0 < px_cnt (rw_P w (o (c + m) / w)) o c m := by omega
      simp [this]
    · rw [if_neg e, Nat.add_zero]
def rnn (r f : Nat) : Nat := if f = 0 then 0 else r + 1
/-- what is kept of the runs while reading -/
def xR (w r f c : Nat) (o : Nat → Nat) (RL : Nat → Int32) (op : Int32) : Prop := (∀ j, j < rnn r f → RL j = nI (px_cnt (rw_P w j) o c (f - c))) ∧ op = nI (rw_open w (rnn r f) o c (f - c))
theorem xR_0 {w r f : Nat} {K O : Nat → Int32} {o : Nat → Nat} {RL : Nat → Int32} (hw : 0 < w) (hf : xF K O f o) (hr : 0 < f → r * w < f) (hR : ∀ j, j < rnn r f → RL j = nI (min w (f - j * w))) : xR w r f 0 o RL (nI (rnn r f)) := by
  have h1 : ∀ j, px_cnt (rw_P w j) o 0 f = min w (f - j * w) := fun j => by rw [hf.2.2 (rw_P w j), rw_cnt hw f]
  refine ⟨fun j hj => by rw [Nat.sub_zero, h1 j, hR j hj], ?_⟩
  have h2 : ∀ n, n ≤ rnn r f → px_cnt (fun j => decide (0 < px_cnt (rw_P w j) o 0 (f - 0))) (fun a => a) 0 n = n := by
    intro n
    induction n with
    | zero => intro _; rfl
    | succ n ih =>
      intro hn
      have hp : 0 < px_cnt (rw_P w n) o 0 f := by
        rw [h1 n]
        unfold rnn at hn
        by_cases e : f = 0
        · rw [if_pos e] at hn
          omega
        · rw [if_neg e] at hn
          have := hr (by omega)
          have hb : n * w ≤ r * w := Nat.mul_le_mul_right _ (by omega)
          omega
      simp only [px_cnt]
      rw [ih (by omega), Nat.zero_add, Nat.sub_zero, if_pos (by simpa using hp)]
  unfold rw_open
  rw [h2 _ (Nat.le_refl _)]
/-- a row is consumed -/
theorem xR_take {w r f c : Nat} {o : Nat → Nat} {RL : Nat → Int32} {op : Int32} (h : xR w r f c o RL op) (hw : 0 < w) (hc : c < f) (hf : f ≤ r * w + w) (ho : o c < f) (hn : f < 2 ^ 31) :
    o c / w < rnn r f ∧ RL (o c / w) = nI (px_cnt (rw_P w (o c / w)) o (c + 1) (f - (c + 1)) + 1) ∧
    xR w r f (c + 1) o (upd RL (o c / w) (nI (px_cnt (rw_P w (o c / w)) o (c + 1) (f - (c + 1))))) (if px_cnt (rw_P w (o c / w)) o (c + 1) (f - (c + 1)) = 0 then op - 1 else op) := by
  obtain ⟨h1, h2⟩ := h
  have e0 : rnn r f = r + 1 := by
    unfold rnn
    rw [if_neg (by omega)]
  have hj : o c / w < rnn r f := by
    rw [e0]
    exact (Nat.div_lt_iff_lt_mul hw).mpr (by rw [Nat.succ_mul]; omega)
  obtain ⟨t1, t2⟩ := rw_take (w := w) (rn := rnn r f) (c := c) (m := f - (c + 1)) (o := o) hj
  have em : f - c = f - (c + 1) + 1 := by omega
  rw [em] at h1 h2
  refine ⟨hj, by rw [h1 _ hj, t1, if_pos rfl], fun j hjj => ?_, ?_⟩
  · by_cases e : j = o c / w
    · rw [e, upd_eq]
    · rw [upd_ne e, h1 j hjj, t1, if_neg e, Nat.add_zero]
  · rw [h2, t2]
    by_cases q : px_cnt (rw_P w (o c / w)) o (c + 1) (f - (c + 1)) = 0
    · rw [if_pos q, if_pos q]
      exact nI_pred _
    · rw [if_neg q, if_neg q, Nat.add_zero]
/-- a group, row by row -/
def gs_P (g : Int32 × Int32 × Int32 × Int32) (v : Int32) : Int32 × Int32 × Int32 × Int32 := (g.1 + 1, g.2.1 + v, (if g.1 = 0 then v else if v < g.2.2.1 then v else g.2.2.1), (if g.1 = 0 then v else if g.2.2.2 < v then v else g.2.2.2))
def gs_F (V : Nat → Int32) (o : Nat → Nat) (c : Nat) : Nat → Int32 × Int32 × Int32 × Int32
  | 0 => (0, 0, 0, 0)
  | m + 1 => gs_P (gs_F V o c m) (V (o (c + m)))
theorem gs_cnt {V : Nat → Int32} {o : Nat → Nat} {c : Nat} : ∀ m, (gs_F V o c m).1 = nI m
  | 0 => rfl
  | m + 1 => by
    show (gs_F V o c m).1 + 1 = _
    rw [gs_cnt m, nI_1]
