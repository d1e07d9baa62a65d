/-! PURE: counting, sorted orders of places, insertion, merging -/
/-- how many k below n have P (o (lo + k)) -/
def px_cnt (P : Nat → Bool) (o : Nat → Nat) (lo : Nat) : Nat → Nat
  | 0 => 0
  | n + 1 => px_cnt P o lo n + (if P (o (lo + n)) = true then 1 else 0)
theorem px_cnt_map {P : Nat → Bool} {o o' : Nat → Nat} {lo lo' : Nat} : ∀ n, (∀ k, k < n → o' (lo' + k) = o (lo + k)) → px_cnt P o' lo' n = px_cnt P o lo n
  | 0, _ => rfl
  | n + 1, h => by
    simp only [px_cnt]
    rw [px_cnt_map n (fun k hk => h k (by omega)), h n (by omega)]
theorem px_cnt_add {P : Nat → Bool} {o : Nat → Nat} (lo a : Nat) : ∀ b, px_cnt P o lo (a + b) = px_cnt P o lo a + px_cnt P o (lo + a) b
  | 0 => rfl
  | b + 1 => by
    show px_cnt P o lo (a + b + 1) = _
    simp only [px_cnt]
    rw [px_cnt_add lo a b, Nat.add_assoc lo a b]
    omega
theorem px_cnt_1 {P : Nat → Bool} {o : Nat → Nat} (lo : Nat) : px_cnt P o lo 1 = if P (o lo) = true then 1 else 0 := by
  simp [px_cnt]
theorem px_cnt_hd {P : Nat → Bool} {o : Nat → Nat} (lo n : Nat) : px_cnt P o lo (n + 1) = (if P (o lo) = true then 1 else 0) + px_cnt P o (lo + 1) n := by
  rw [Nat.add_comm n 1, px_cnt_add, px_cnt_1]
theorem px_cnt_le {P : Nat → Bool} {o : Nat → Nat} {lo : Nat} : ∀ n, px_cnt P o lo n ≤ n
  | 0 => Nat.le_refl _
  | n + 1 => by
    have := px_cnt_le (P := P) (o := o) (lo := lo) n
    simp only [px_cnt]
    split <;> omega
theorem px_cnt_0 {P : Nat → Bool} {o : Nat → Nat} {lo : Nat} : ∀ n, (∀ k, k < n → P (o (lo + k)) = false) → px_cnt P o lo n = 0
  | 0, _ => rfl
  | n + 1, h => by
    simp only [px_cnt]
    rw [px_cnt_0 n (fun k hk => h k (by omega)), h n (by omega)]
    rfl
theorem px_cnt_0' {P : Nat → Bool} {o : Nat → Nat} {lo : Nat} : ∀ n, px_cnt P o lo n = 0 → ∀ k, k < n → P (o (lo + k)) = false
  | 0, _, k, hk => absurd hk (Nat.not_lt_zero k)
  | n + 1, h, k, hk => by
    simp only [px_cnt] at h
    rcases Nat.lt_or_ge k n with q | q
    · exact px_cnt_0' n (by omega) k q
    · have e : k = n := by omega
      subst e
      cases hP : P (o (lo + k)) with
      | false => rfl
      | true => rw [hP] at h; simp at h
theorem px_cnt_pos {P : Nat → Bool} {o : Nat → Nat} {lo : Nat} : ∀ n, 0 < px_cnt P o lo n → ∃ k, k < n ∧ P (o (lo + k)) = true
  | 0, h => absurd h (Nat.lt_irrefl 0)
  | n + 1, h => by
    simp only [px_cnt] at h
    cases hP : P (o (lo + n)) with
    | true => exact ⟨n, by omega, hP⟩
    | false =>
      rw [hP] at h
      obtain ⟨k, h1, h2⟩ := px_cnt_pos n (by simpa using h)
      exact ⟨k, by omega, h2⟩
theorem px_cnt_pos' {P : Nat → Bool} {o : Nat → Nat} {lo n k : Nat} (hk : k < n) (h : P (o (lo + k)) = true) : 0 < px_cnt P o lo n := by
  rcases Nat.eq_zero_or_pos (px_cnt P o lo n) with q | q
  · have := px_cnt_0' n q k hk
    rw [h] at this
    cases this
  · exact q
/-- places by their keys, those of one key by themselves -/
def px_lt (k : Nat → Int) (i j : Nat) : Prop := k i < k j ∨ (k i = k j ∧ i < j)
def px_srt (k : Nat → Int) (o : Nat → Nat) (lo hi : Nat) : Prop := ∀ a b, lo ≤ a → a < b → b < hi → px_lt k (o a) (o b)
def px_prm (o : Nat → Nat) (lo n : Nat) : Prop := ∀ P : Nat → Bool, px_cnt P o lo n = px_cnt P (fun a => a) lo n
theorem px_lt.tr {k : Nat → Int} {a b c : Nat} (h : px_lt k a b) (h2 : px_lt k b c) : px_lt k a c := by
  unfold px_lt at *
  omega
theorem px_lt.irr {k : Nat → Int} {a : Nat} (h : px_lt k a a) : False := by
  unfold px_lt at h
  omega
theorem px_lt.tri (k : Nat → Int) (a b : Nat) : px_lt k a b ∨ a = b ∨ px_lt k b a := by
  unfold px_lt
  omega
theorem px_lt.le {k : Nat → Int} {a b : Nat} (h : px_lt k a b) : k a ≤ k b := by
  unfold px_lt at h
  omega
theorem px_prm.rng {o : Nat → Nat} {lo n : Nat} (h : px_prm o lo n) {a : Nat} (h1 : lo ≤ a) (h2 : a < lo + n) : lo ≤ o a ∧ o a < lo + n := by
  have e := h (fun i => !decide (lo ≤ i ∧ i < lo + n))
  rw [px_cnt_0 (o := fun a => a) n (fun k hk => by simp; omega)] at e
  have := px_cnt_0' n e (a - lo) (by omega)
  rw [show lo + (a - lo) = a by omega] at this
  simpa using this
theorem px_prm.hit {o : Nat → Nat} {lo n : Nat} (h : px_prm o lo n) {i : Nat} (h1 : lo ≤ i) (h2 : i < lo + n) : ∃ a, lo ≤ a ∧ a < lo + n ∧ o a = i := by
  have e := h (fun j => decide (j = i))
  have hp : 0 < px_cnt (fun j => decide (j = i)) (fun a => a) lo n := px_cnt_pos' (k := i - lo) (by omega) (by simp; omega)
  rw [← e] at hp
  obtain ⟨k, hk, hP⟩ := px_cnt_pos n hp
  exact ⟨lo + k, by omega, by omega, by simpa using hP⟩
theorem px_prm.id (lo n : Nat) : px_prm (fun a => a) lo n := fun _ => rfl
theorem px_prm.cg {o o' : Nat → Nat} {lo n : Nat} (h : px_prm o lo n) (e : ∀ a, lo ≤ a → a < lo + n → o' a = o a) : px_prm o' lo n := fun P => by
  rw [px_cnt_map (o := o) (o' := o') n (fun k hk => e _ (by omega) (by omega))]
  exact h P
theorem px_prm.app {o : Nat → Nat} {lo a b : Nat} (h : px_prm o lo a) (h2 : px_prm o (lo + a) b) : px_prm o lo (a + b) := fun P => by
  rw [px_cnt_add, px_cnt_add, h P, h2 P]
theorem px_srt.cg {k k' : Nat → Int} {o o' : Nat → Nat} {lo hi : Nat} (h : px_srt k o lo hi) (e : ∀ a, lo ≤ a → a < hi → o' a = o a) (ek : ∀ a, lo ≤ a → a < hi → k' (o a) = k (o a)) : px_srt k' o' lo hi := fun a b h1 h2 h3 => by
  have := h a b h1 h2 h3
  rw [e a h1 (by omega), e b (by omega) h3]
  unfold px_lt at *
  rw [ek a h1 (by omega), ek b (by omega) h3]
  exact this
/-- two sorted orders of the same places are one -/
theorem px_uniq {k : Nat → Int} {o o' : Nat → Nat} {lo n : Nat} (hs : px_srt k o lo (lo + n)) (hp : px_prm o lo n) (hs' : px_srt k o' lo (lo + n)) (hp' : px_prm o' lo n) : ∀ a, lo ≤ a → a < lo + n → o a = o' a := by
  intro a
  induction a using Nat.strongRecOn with
  | ind a ih =>
    intro h1 h2
    rcases px_lt.tri k (o a) (o' a) with q | q | q
    · exfalso
      obtain ⟨h3, h4⟩ := hp.rng h1 h2
      obtain ⟨b, b1, b2, b3⟩ := hp'.hit h3 h4
      rcases Nat.lt_trichotomy b a with r | r | r
      · have e := ih b r b1 b2
        have := hs b a b1 r h2
        rw [e, b3] at this
        exact this.irr
      · subst r
        rw [b3] at q
        exact q.irr
      · have := hs' a b h1 r b2
        rw [b3] at this
        exact (q.tr this).irr
    · exact q
    · exfalso
      obtain ⟨h3, h4⟩ := hp'.rng h1 h2
      obtain ⟨b, b1, b2, b3⟩ := hp.hit h3 h4
      rcases Nat.lt_trichotomy b a with r | r | r
      · have e := ih b r b1 b2
        have := hs' b a b1 r h2
        rw [← e, b3] at this
        exact this.irr
      · subst r
        rw [b3] at q
        exact q.irr
      · have := hs a b h1 r b2
        rw [b3] at this
        exact (q.tr this).irr
/-- the place at row is put in at t, those from t on move up by one -/
def px_ins (o : Nat → Nat) (t row : Nat) : Nat → Nat := fun a => if a = t then o row else if t < a ∧ a ≤ row then o (a - 1) else o a
theorem px_ins_lo {o : Nat → Nat} {t row a : Nat} (h : a < t) : px_ins o t row a = o a := by
  unfold px_ins
  rw [if_neg (by omega), if_neg (by omega)]
theorem px_ins_eq {o : Nat → Nat} {t row : Nat} : px_ins o t row t = o row := by
  unfold px_ins
  rw [if_pos rfl]
theorem px_ins_mid {o : Nat → Nat} {t row a : Nat} (h : t < a) (h2 : a ≤ row) : px_ins o t row a = o (a - 1) := by
  unfold px_ins
  rw [if_neg (by omega), if_pos ⟨h, h2⟩]
theorem px_ins_hi {o : Nat → Nat} {t row a : Nat} (ht : t ≤ row) (h : row < a) : px_ins o t row a = o a := by
  unfold px_ins
  rw [if_neg (by omega), if_neg (by omega)]
theorem px_ins_cnt {P : Nat → Bool} {o : Nat → Nat} {lo t row : Nat} (hlo : lo ≤ t) (ht : t ≤ row) : px_cnt P (px_ins o t row) lo (row + 1 - lo) = px_cnt P o lo (row + 1 - lo) := by
  obtain ⟨e, rfl⟩ := Nat.exists_eq_add_of_le hlo
  obtain ⟨d, rfl⟩ := Nat.exists_eq_add_of_le ht
  have h1 : px_cnt P (px_ins o (lo + e) (lo + e + d)) lo (e + (1 + d)) = px_cnt P o lo e + ((if P (o (lo + e + d)) = true then 1 else 0) + px_cnt P o (lo + e) d) := by
    rw [px_cnt_add, px_cnt_add, px_cnt_1, px_ins_eq]
    rw [px_cnt_map (o := o) (o' := px_ins o (lo + e) (lo + e + d)) (lo := lo) (lo' := lo) e (fun k hk => px_ins_lo (by omega))]
    rw [px_cnt_map (o := o) (o' := px_ins o (lo + e) (lo + e + d)) (lo := lo + e) (lo' := lo + e + 1) d (fun k hk => by
      rw [px_ins_mid (by omega) (by omega), show lo + e + 1 + k - 1 = lo + e + k by omega])]
  have h2 : px_cnt P o lo (e + (d + 1)) = px_cnt P o lo e + (px_cnt P o (lo + e) d + (if P (o (lo + e + d)) = true then 1 else 0)) := by
    rw [px_cnt_add]
    rfl
  rw [show lo + e + d + 1 - lo = e + (1 + d) by omega, h1, Nat.add_comm 1 d, h2]
  omega
theorem px_ins_prm {o : Nat → Nat} {lo t row : Nat} (hlo : lo ≤ t) (ht : t ≤ row) (hp : px_prm o lo (row - lo)) (hr : o row = row) : px_prm (px_ins o t row) lo (row + 1 - lo) := fun P => by
  rw [px_ins_cnt hlo ht, show row + 1 - lo = (row - lo) + 1 by omega, px_cnt_add, px_cnt_add, px_cnt_1, px_cnt_1, hp P, show lo + (row - lo) = row by omega, hr]
theorem px_ins_srt {k : Nat → Int} {o : Nat → Nat} {lo t row : Nat} (hlo : lo ≤ t) (ht : t ≤ row) (hs : px_srt k o lo row) (hp : px_prm o lo (row - lo)) (hr : o row = row) (hb : ∀ a, t ≤ a → a < row → k (o row) < k (o a)) (he : t = lo ∨ k (o (t - 1)) ≤ k (o row)) : px_srt k (px_ins o t row) lo (row + 1) := by
  intro a b h1 h2 h3
  rcases Nat.lt_trichotomy b t with q | q | q
  · rw [px_ins_lo (by omega), px_ins_lo q]
    exact hs a b h1 h2 (by omega)
  · subst q
    rw [px_ins_lo h2, px_ins_eq]
    have h4 : k (o (b - 1)) ≤ k (o row) := by
      rcases he with e | e
      · omega
      · exact e
    have h5 : k (o a) ≤ k (o (b - 1)) := by
      rcases Nat.lt_or_ge a (b - 1) with r | r
      · exact (hs a (b - 1) h1 r (by omega)).le
      · rw [show a = b - 1 by omega]
        exact Int.le_refl _
    have h6 := (hp.rng (a := a) h1 (by omega)).2
    unfold px_lt
    omega
  · rw [px_ins_mid (a := b) q (by omega)]
    rcases Nat.lt_trichotomy a t with r | r | r
    · rw [px_ins_lo r]
      exact hs a (b - 1) h1 (by omega) (by omega)
    · subst r
      rw [px_ins_eq]
      exact Or.inl (hb (b - 1) (by omega) (by omega))
    · rw [px_ins_mid r (by omega)]
      exact hs (a - 1) (b - 1) (by omega) (by omega) (by omega)
/-- one place is written -/
def px_up (M : Nat → Nat) (t x : Nat) : Nat → Nat := fun a => if a = t then x else M a
theorem px_up_eq {M : Nat → Nat} {t x : Nat} : px_up M t x t = x := by unfold px_up; rw [if_pos rfl]
theorem px_up_ne {M : Nat → Nat} {t x a : Nat} (h : a ≠ t) : px_up M t x a = M a := by unfold px_up; rw [if_neg h]
/-- a merge under way: L and R are the next ones of both stretches, T the next place to be written -/
def px_mg (k : Nat → Int) (o M : Nat → Nat) (low mid high L R T : Nat) : Prop :=
  (low ≤ L ∧ L ≤ mid ∧ mid ≤ R ∧ R ≤ high ∧ T + mid = L + R) ∧ (∀ P : Nat → Bool, px_cnt P M low (T - low) = px_cnt P o low (L - low) + px_cnt P o mid (R - mid)) ∧ px_srt k M low T ∧
  (∀ a b, low ≤ a → a < T → (L ≤ b ∧ b < mid ∨ R ≤ b ∧ b < high) → px_lt k (M a) (o b))
theorem px_mg_0 {k : Nat → Int} {o M : Nat → Nat} {low mid high : Nat} (h1 : low ≤ mid) (h2 : mid ≤ high) : px_mg k o M low mid high low mid low :=
  ⟨⟨Nat.le_refl _, h1, Nat.le_refl _, h2, by omega⟩, fun P => by simp [px_cnt], fun a b _ _ _ => by omega, fun a b _ _ _ => by omega⟩
theorem px_mg_wr {k : Nat → Int} {o M : Nat → Nat} {low mid high L R T x : Nat} (h : px_mg k o M low mid high L R T) (hlT : low ≤ T) (hx : ∀ a, low ≤ a → a < T → px_lt k (M a) x) : px_srt k (px_up M T x) low (T + 1) := by
  intro a b h1 h2 h3
  rw [px_up_ne (by omega)]
  rcases Nat.lt_or_ge b T with q | q
  · rw [px_up_ne (by omega)]
    exact h.2.2.1 a b h1 h2 q
  · have e : b = T := by omega
    subst e
    rw [px_up_eq]
    exact hx a h1 h2
theorem px_mg_cw {P : Nat → Bool} {M : Nat → Nat} {low T x : Nat} (h : low ≤ T) : px_cnt P (px_up M T x) low (T + 1 - low) = px_cnt P M low (T - low) + (if P x = true then 1 else 0) := by
  rw [show T + 1 - low = (T - low) + 1 by omega, px_cnt_add, px_cnt_1, show low + (T - low) = T by omega, px_up_eq]
  rw [px_cnt_map (o := M) (o' := px_up M T x) (T - low) (fun k hk => px_up_ne (by omega))]
theorem px_mg_l {k : Nat → Int} {o M : Nat → Nat} {low mid high L R T : Nat} (h : px_mg k o M low mid high L R T) (hs : px_srt k o low mid) (hs2 : px_srt k o mid high) (hL : L < mid) (hc : R = high ∨ (R < high ∧ px_lt k (o L) (o R))) : px_mg k o (px_up M T (o L)) low mid high (L + 1) R (T + 1) := by
  obtain ⟨⟨a1, a2, a3, a4, a5⟩, hcn, hsr, hbl⟩ := id h
  refine ⟨⟨by omega, by omega, a3, a4, by omega⟩, fun P => ?_, px_mg_wr h (by omega) (fun a q1 q2 => hbl a L q1 q2 (Or.inl ⟨Nat.le_refl _, hL⟩)), fun a b q1 q2 q3 => ?_⟩
  · rw [px_mg_cw (by omega), hcn P, show L + 1 - low = (L - low) + 1 by omega, px_cnt_add (o := o) low (L - low) 1, px_cnt_1, show low + (L - low) = L by omega]
    omega
  · have key : px_lt k (o L) (o b) := by
      rcases q3 with ⟨r1, r2⟩ | ⟨r1, r2⟩
      · exact hs L b a1 (by omega) r2
      · rcases hc with e | ⟨e1, e2⟩
        · omega
        · rcases Nat.lt_or_ge R b with z | z
          · exact e2.tr (hs2 R b a3 z r2)
          · rw [show b = R by omega]
            exact e2
    rcases Nat.lt_or_ge a T with z | z
    · rw [px_up_ne (by omega)]
      exact hbl a b q1 z (by omega)
    · rw [show a = T by omega, px_up_eq]
      exact key
theorem px_mg_r {k : Nat → Int} {o M : Nat → Nat} {low mid high L R T : Nat} (h : px_mg k o M low mid high L R T) (hs : px_srt k o low mid) (hs2 : px_srt k o mid high) (hR : R < high) (hc : L = mid ∨ (L < mid ∧ px_lt k (o R) (o L))) : px_mg k o (px_up M T (o R)) low mid high L (R + 1) (T + 1) := by
  obtain ⟨⟨a1, a2, a3, a4, a5⟩, hcn, hsr, hbl⟩ := id h
  refine ⟨⟨a1, a2, by omega, by omega, by omega⟩, fun P => ?_, px_mg_wr h (by omega) (fun a q1 q2 => hbl a R q1 q2 (Or.inr ⟨Nat.le_refl _, hR⟩)), fun a b q1 q2 q3 => ?_⟩
  · rw [px_mg_cw (by omega), hcn P, show R + 1 - mid = (R - mid) + 1 by omega, px_cnt_add (o := o) mid (R - mid) 1, px_cnt_1, show mid + (R - mid) = R by omega]
    omega
  · have key : px_lt k (o R) (o b) := by
      rcases q3 with ⟨r1, r2⟩ | ⟨r1, r2⟩
      · rcases hc with e | ⟨e1, e2⟩
        · omega
        · rcases Nat.lt_or_ge L b with z | z
          · exact e2.tr (hs L b a1 z r2)
          · rw [show b = L by omega]
            exact e2
      · exact hs2 R b a3 (by omega) r2
    rcases Nat.lt_or_ge a T with z | z
    · rw [px_up_ne (by omega)]
      exact hbl a b q1 z (by omega)
    · rw [show a = T by omega, px_up_eq]
      exact key
theorem px_mg_end {k : Nat → Int} {o M : Nat → Nat} {low mid high L R : Nat} (h : px_mg k o M low mid high L R high) (hp : px_prm o low (mid - low)) (hp2 : px_prm o mid (high - mid)) : px_srt k M low high ∧ px_prm M low (high - low) := by
  obtain ⟨⟨a1, a2, a3, a4, a5⟩, hcn, hsr, hbl⟩ := h
  have eL : L = mid := by omega
  have eR : R = high := by omega
  subst eL; subst eR
  refine ⟨hsr, fun P => ?_⟩
  rw [hcn P, hp P, hp2 P, show R - low = (L - low) + (R - L) by omega, px_cnt_add, show low + (L - low) = L by omega]
/-- sorted by blocks of so many -/
def px_blk (k : Nat → Int) (o : Nat → Nat) (wd f lo hi : Nat) : Prop := ∀ j, lo ≤ j * wd → j * wd < hi → px_srt k o (j * wd) (min (j * wd + wd) f) ∧ px_prm o (j * wd) (min (j * wd + wd) f - j * wd)
theorem px_blk_step {k : Nat → Int} {o o' : Nat → Nat} {wd f i : Nat} (hmid : i * (2 * wd) + wd < f) (hA : px_blk k o (2 * wd) f 0 (i * (2 * wd))) (hB : px_blk k o wd f (i * (2 * wd)) f)
    (he : ∀ a, (a < i * (2 * wd) ∨ min (i * (2 * wd) + 2 * wd) f ≤ a) → o' a = o a) (hs : px_srt k o' (i * (2 * wd)) (min (i * (2 * wd) + 2 * wd) f)) (hp : px_prm o' (i * (2 * wd)) (min (i * (2 * wd) + 2 * wd) f - i * (2 * wd))) :
    px_blk k o' (2 * wd) f 0 ((i + 1) * (2 * wd)) ∧ px_blk k o' wd f ((i + 1) * (2 * wd)) f := by
  have e1 : (i + 1) * (2 * wd) = i * (2 * wd) + 2 * wd := Nat.succ_mul i (2 * wd)
  constructor
  · intro j _ hj
    rcases Nat.lt_or_ge j i with q | q
    · have h1 : (j + 1) * (2 * wd) ≤ i * (2 * wd) := Nat.mul_le_mul_right _ q
      rw [Nat.succ_mul] at h1
      obtain ⟨g1, g2⟩ := hA j (Nat.zero_le _) (by
        rcases Nat.eq_zero_or_pos wd with z | z
        · subst z; simp at hj
        · omega)
      exact ⟨g1.cg (fun a _ h => he a (by omega)) (fun _ _ _ => rfl), g2.cg (fun a _ h => he a (by omega))⟩
    · have h2 : j < i + 1 := Nat.lt_of_mul_lt_mul_right hj
      have e : j = i := by omega
      subst e
      exact ⟨hs, hp⟩
  · intro j hj hf
    obtain ⟨g1, g2⟩ := hB j (by omega) hf
    exact ⟨g1.cg (fun a h _ => he a (by omega)) (fun _ _ _ => rfl), g2.cg (fun a h _ => he a (by omega))⟩
theorem px_blk_end {k : Nat → Int} {o : Nat → Nat} {wd f i : Nat} (hend : f ≤ i * (2 * wd) + wd) (hA : px_blk k o (2 * wd) f 0 (i * (2 * wd))) (hB : px_blk k o wd f (i * (2 * wd)) f) : px_blk k o (2 * wd) f 0 f := by
  intro j _ hj
  rcases Nat.lt_or_ge j i with q | q
  · refine hA j (Nat.zero_le _) ?_
    rcases Nat.eq_zero_or_pos wd with z | z
    · subst z; omega
    · exact Nat.mul_lt_mul_of_lt_of_le q (Nat.le_refl _) (by omega)
  · have h1 : i * (2 * wd) ≤ j * (2 * wd) := Nat.mul_le_mul_right _ q
    have e : j = i := by
      rcases Nat.lt_or_ge i j with r | r
      · exfalso
        have h2 : (i + 1) * (2 * wd) ≤ j * (2 * wd) := Nat.mul_le_mul_right _ r
        rw [Nat.succ_mul] at h2
        omega
      · omega
    subst e
    have e2 : 2 * j * wd = j * (2 * wd) := by rw [Nat.mul_comm 2 j, Nat.mul_assoc]
    obtain ⟨g1, g2⟩ := hB (2 * j) (by omega) (by omega)
    rw [e2] at g1 g2
    have m1 : min (j * (2 * wd) + wd) f = f := by omega
    have m2 : min (j * (2 * wd) + 2 * wd) f = f := by omega
    rw [m1] at g1 g2
    rw [m2]
    exact ⟨g1, g2⟩
theorem px_blk_all {k : Nat → Int} {o : Nat → Nat} {wd f : Nat} (h : px_blk k o wd f 0 f) (hw : f ≤ wd) : px_srt k o 0 f ∧ px_prm o 0 f := by
  rcases Nat.eq_zero_or_pos f with z | z
  · subst z
    exact ⟨fun a b _ _ h => absurd h (Nat.not_lt_zero b), fun P => rfl⟩
  · obtain ⟨g1, g2⟩ := h 0 (Nat.zero_le _) (by omega)
    have m1 : min (0 * wd + wd) f = f := by omega
    rw [m1] at g1 g2
    simp only [Nat.zero_mul, Nat.sub_zero] at g1 g2
    exact ⟨g1, g2⟩
