/-! ===== journeys seen from their end (no machine here) ===== -/
/-- arrived by a ride at s at a time, B tells from when one can ride on: in time at the goal by D -/
def OAof (c : Int → Int) (W : Int → Int → Int → Prop) (d D : Int) (B : Int → Int → Prop) (x : Int) (s t : Int) : Prop := (s = d ∧ t ≤ D) ∨ B s (t + x) ∨ ∃ s' m, W s s' m ∧ ((s' = d ∧ t + m ≤ D) ∨ B s' (t + m))
/-- ready to ride at s at a time: with k rides more at most one is at d by D -/
def OB (c : Int → Int) (W : Int → Int → Int → Prop) (R : Rn → Prop) (d D : Int) : Nat → Int → Int → Prop
  | 0 => fun _ _ => False
  | k + 1 => fun s t => ∃ r i j, R r ∧ 0 ≤ i ∧ i < j ∧ j < rz r ∧ rs r i = s ∧ t ≤ rd r i ∧ OAof c W d D (OB c W R d D k) (c (rs r j)) (rs r j) (ra r j)
abbrev OA (c : Int → Int) (W : Int → Int → Int → Prop) (R : Rn → Prop) (d D : Int) (k : Nat) (s t : Int) : Prop := OAof c W d D (OB c W R d D k) (c s) s t
/-- at the start: as behind a ride, without a change -/
abbrev OS (c : Int → Int) (W : Int → Int → Int → Prop) (R : Rn → Prop) (d D : Int) (k : Nat) (s t : Int) : Prop := OAof c W d D (OB c W R d D k) 0 s t
section BCK
variable {n : Int} {c : Int → Int} {W : Int → Int → Int → Prop} {R : Rn → Prop} {o T L d D : Int}
theorem OAof.mono {B B' : Int → Int → Prop} (hB : ∀ s t, B s t → B' s t) {x s t : Int} (h : OAof c W d D B x s t) : OAof c W d D B' x s t := by
  rcases h with h | h | ⟨s', m, hw, h | h⟩
  · exact Or.inl h
  · exact Or.inr (Or.inl (hB _ _ h))
  · exact Or.inr (Or.inr ⟨s', m, hw, Or.inl h⟩)
  · exact Or.inr (Or.inr ⟨s', m, hw, Or.inr (hB _ _ h)⟩)
theorem OB.step : ∀ (k : Nat) (s t : Int), OB c W R d D k s t → OB c W R d D (k + 1) s t := by
  intro k
  induction k with
  | zero => intro s t h; exact h.elim
  | succ k ih =>
    rintro s t ⟨r, i, j, hR, h0, h1, h2, h3, h4, h5⟩
    exact ⟨r, i, j, hR, h0, h1, h2, h3, h4, h5.mono ih⟩
theorem OB.mono {j k : Nat} (h : j ≤ k) {s t : Int} (q : OB c W R d D j s t) : OB c W R d D k s t := by
  induction k with
  | zero => obtain rfl : j = 0 := by omega
            exact q
  | succ k ih =>
    by_cases hj : j ≤ k
    · exact OB.step _ _ _ (ih hj)
    · obtain rfl : j = k + 1 := by omega
      exact q
theorem OB.early {k : Nat} {s t t' : Int} (h : t' ≤ t) (q : OB c W R d D k s t) : OB c W R d D k s t' := by
  cases k with
  | zero => exact q.elim
  | succ k =>
    obtain ⟨r, i, j, hR, h0, h1, h2, h3, h4, h5⟩ := q
    exact ⟨r, i, j, hR, h0, h1, h2, h3, by omega, h5⟩
theorem OB.range (N : Net n c W R) {k : Nat} {s t : Int} (q : OB c W R d D k s t) : 0 ≤ s ∧ s < n := by
  cases k with
  | zero => exact q.elim
  | succ k =>
    obtain ⟨r, i, j, hR, h0, h1, h2, rfl, h4, h5⟩ := q
    exact ((N.2.2.2 r hR).2.1 i h0 (by omega)).1
/-- who arrives in time arrives by D -/
theorem OA.le (N : Net n c W R) : ∀ (k : Nat) (x s t : Int), 0 ≤ x → OAof c W d D (OB c W R d D k) x s t → t ≤ D := by
  intro k
  induction k with
  | zero =>
    rintro x s t hx (⟨-, h⟩ | h | ⟨s', m, hw, ⟨-, h⟩ | h⟩)
    · exact h
    · exact h.elim
    · have := (N.2.1 _ _ _ hw).2.2.1
      omega
    · exact h.elim
  | succ k ih =>
    have hb : ∀ s t, OB c W R d D (k + 1) s t → t ≤ D := by
      rintro s t ⟨r, i, j, hR, h0, h1, h2, -, h4, h5⟩
      have b := (N.2.2.2 r hR).2.1 j (by omega) h2
      have := ih _ _ _ (N.1 _ b.1.1 b.1.2).1 h5
      have := (N.2.2.2 r hR).2.2 i j h0 h1 h2
      omega
    rintro x s t hx (⟨-, h⟩ | h | ⟨s', m, hw, ⟨-, h⟩ | h⟩)
    · exact h
    · have := hb _ _ h
      omega
    · have := (N.2.1 _ _ _ hw).2.2.1
      omega
    · have := (N.2.1 _ _ _ hw).2.2.1
      have := hb _ _ h
      omega
theorem OB.le (N : Net n c W R) {k : Nat} {s t : Int} (q : OB c W R d D k s t) : t ≤ D := by
  cases k with
  | zero => exact q.elim
  | succ k =>
    obtain ⟨r, i, j, hR, h0, h1, h2, -, h4, h5⟩ := q
    have b := (N.2.2.2 r hR).2.1 j (by omega) h2
    have := OA.le N _ _ _ _ (N.1 _ b.1.1 b.1.2).1 h5
    have := (N.2.2.2 r hR).2.2 i j h0 h1 h2
    omega
/-- from its start on, a journey that ends by D is one that is in time -/
theorem OS.of_AT : ∀ (k m : Nat) (s t p : Int), JA c W R o T L k s t p → OAof c W d D (OB c W R d D m) (if k = 0 then 0 else c s) s t → OS c W R d D (k + m) o T := by
  intro k
  induction k with
  | zero =>
    rintro m s t p ⟨rfl, rfl, -⟩ h
    rw [Nat.zero_add]
    exact h
  | succ k ih =>
    rintro m s t p ⟨s0, t0, p0, r, i, j, ⟨s', t', ha, hb⟩, hR, h0, h1, h2, rfl, h4, rfl, rfl, h6, -⟩ h
    rw [if_neg (by omega)] at h
    have hB : OB c W R d D (m + 1) (rs r i) t0 := ⟨r, i, j, hR, h0, h1, h2, rfl, h4, h⟩
    have := ih (m + 1) s' t' p0 ha (by
      rcases hb with ⟨rfl, rfl⟩ | ⟨q, hw, rfl, -⟩
      · exact Or.inr (Or.inl hB)
      · exact Or.inr (Or.inr ⟨_, q, hw, Or.inr hB⟩))
    rwa [show k + 1 + m = k + (m + 1) by omega]
theorem OS.of_EN {k : Nat} {t p : Int} (h : JE c W R o T L k d t p) (hD : t ≤ D) : OS c W R d D k o T := by
  rcases h with h | ⟨s', t', m, ha, hw, rfl, -⟩
  · have := OS.of_AT (d := d) (D := D) k 0 _ _ _ h (Or.inl ⟨rfl, hD⟩)
    rwa [Nat.add_zero] at this
  · have := OS.of_AT (d := d) (D := D) k 0 _ _ _ ha (Or.inr (Or.inr ⟨d, m, hw, Or.inl ⟨rfl, hD⟩⟩))
    rwa [Nat.add_zero] at this
/-- and back: who is in time has a journey -/
theorem JE.of_OA (N : Net n c W R) (hDL : D ≤ L) : ∀ (m k : Nat) (s t p : Int), JA c W R o T L k s t p → OAof c W d D (OB c W R d D m) (if k = 0 then 0 else c s) s t → ∃ j e q, j ≤ k + m ∧ JE c W R o T L j d e q ∧ e ≤ D := by
  intro m
  induction m with
  | zero =>
    rintro k s t p ha (⟨rfl, h⟩ | h | ⟨s', q, hw, ⟨rfl, h⟩ | h⟩)
    · exact ⟨k, t, p, by omega, Or.inl ha, h⟩
    · exact h.elim
    · exact ⟨k, t + q, p, by omega, Or.inr ⟨s, t, q, ha, hw, rfl, by omega⟩, h⟩
    · exact h.elim
  | succ m ih =>
    have go : ∀ k s t p, JR c W R o T L k s t p → OB c W R d D (m + 1) s t → ∃ j e q, j ≤ k + (m + 1) ∧ JE c W R o T L j d e q ∧ e ≤ D := by
      rintro k s t p hrd ⟨r, i, j, hR, h0, h1, h2, h3, h4, h5⟩
      have b := (N.2.2.2 r hR).2.1 j (by omega) h2
      have hl := OA.le N _ _ _ _ (N.1 _ b.1.1 b.1.2).1 h5
      obtain ⟨j9, e, q, g1, g2, g3⟩ := ih (k + 1) (rs r j) (ra r j) (p + rp r) ⟨s, t, p, r, i, j, hrd, hR, h0, h1, h2, h3, h4, rfl, rfl, by omega, rfl⟩ (by rw [if_neg (by omega)]; exact h5)
      exact ⟨j9, e, q, by omega, g2, g3⟩
    rintro k s t p ha (⟨rfl, h⟩ | h | ⟨s', q, hw, ⟨rfl, h⟩ | h⟩)
    · exact ⟨k, t, p, by omega, Or.inl ha, h⟩
    · exact go k s _ p ⟨s, t, ha, Or.inl ⟨rfl, rfl⟩⟩ h
    · exact ⟨k, t + q, p, by omega, Or.inr ⟨s, t, q, ha, hw, rfl, by omega⟩, h⟩
    · exact go k s' _ p ⟨s, t, ha, Or.inr ⟨q, hw, rfl, by have := OB.le N h; omega⟩⟩ h
theorem JE.of_OS (N : Net n c W R) (hDL : D ≤ L) {k : Nat} (h : OS c W R d D k o T) : ∃ j e q, j ≤ k ∧ JE c W R o T L j d e q ∧ e ≤ D := by
  obtain ⟨j, e, q, g1, g2, g3⟩ := JE.of_OA (o := o) (T := T) N hDL k 0 o T 0 ⟨rfl, rfl, rfl⟩ (by rw [if_pos rfl]; exact h)
  exact ⟨j, e, q, by omega, g2, g3⟩
/-! the search back -/
/-- b: the latest departures from which one is in time with k rides at most -/
def BEx (n : Int) (c : Int → Int) (W : Int → Int → Int → Prop) (R : Rn → Prop) (d D : Int) (k : Nat) (b : Int → Int) : Prop := ∀ s, 0 ≤ s → s < n → ∀ t, -1000000 ≤ t → (t ≤ b s ↔ OB c W R d D k s t)
/-- a: the latest arrivals from which one is in time with k rides more at most -/
def AEx (n : Int) (c : Int → Int) (W : Int → Int → Int → Prop) (R : Rn → Prop) (d D : Int) (k : Nat) (a : Int → Int) : Prop := ∀ s, 0 ≤ s → s < n → ∀ t, -900000 ≤ t → (t ≤ a s ↔ OA c W R d D k s t)
/-- how late one may be there on foot -/
def lat (d D : Int) (b : Int → Int) (s : Int) : Int := if s = d then D else b s
/-- what alight makes of b -/
def AliR (n : Int) (c : Int → Int) (W : Int → Int → Int → Prop) (d D : Int) (b a : Int → Int) : Prop := ∀ s, 0 ≤ s → s < n → (if s = d then D else b s - c s) ≤ a s ∧ (∀ s' m, W s s' m → lat d D b s' - m ≤ a s) ∧ (a s = (if s = d then D else b s - c s) ∨ ∃ s' m, W s s' m ∧ a s = lat d D b s' - m)
/-- a round of rides back -/
def BRide (n : Int) (R : Rn → Prop) (a b b' : Int → Int) : Prop :=
  (∀ s, 0 ≤ s → s < n → b s ≤ b' s ∧ (b' s = b s ∨ ∃ r i j, R r ∧ 0 ≤ i ∧ i < j ∧ j < rz r ∧ rs r i = s ∧ b' s = rd r i ∧ ra r j ≤ a (rs r j))) ∧ ∀ r i j, R r → 0 ≤ i → i < j → j < rz r → ra r j ≤ a (rs r j) → rd r i ≤ b' (rs r i)
theorem AEx.of (N : Net n c W R) (hd : 0 ≤ d ∧ d < n) {k : Nat} {b a : Int → Int} (hb : BEx n c W R d D k b) (ha : AliR n c W d D b a) : AEx n c W R d D k a := by
  intro s h0 h1 t ht
  obtain ⟨a1, a2, a3⟩ := ha s h0 h1
  have hc := N.1 s h0 h1
  constructor
  · intro h
    by_cases hsd : s = d
    · subst hsd
      by_cases htD : t ≤ D
      · exact Or.inl ⟨rfl, htD⟩
      · rw [if_pos rfl] at a3
        rcases a3 with e | ⟨s', m, hw, e⟩
        · omega
        · have b9 := N.2.1 _ _ _ hw
          unfold lat at e
          by_cases h9 : s' = s
          · rw [if_pos h9] at e; omega
          · rw [if_neg h9] at e
            exact Or.inr (Or.inr ⟨s', m, hw, Or.inr ((hb s' b9.2.1.1 b9.2.1.2 _ (by omega)).mp (by omega))⟩)
    · rw [if_neg hsd] at a3
      rcases a3 with e | ⟨s', m, hw, e⟩
      · exact Or.inr (Or.inl ((hb s h0 h1 _ (by omega)).mp (by omega)))
      · have b9 := N.2.1 _ _ _ hw
        unfold lat at e
        by_cases h9 : s' = d
        · rw [if_pos h9] at e
          exact Or.inr (Or.inr ⟨s', m, hw, Or.inl ⟨h9, by omega⟩⟩)
        · rw [if_neg h9] at e
          exact Or.inr (Or.inr ⟨s', m, hw, Or.inr ((hb s' b9.2.1.1 b9.2.1.2 _ (by omega)).mp (by omega))⟩)
  · rintro (⟨rfl, h⟩ | h | ⟨s', m, hw, ⟨rfl, h⟩ | h⟩)
    · rw [if_pos rfl] at a1
      omega
    · have h9 := (hb s h0 h1 (t + c s) (by omega)).mpr h
      by_cases hsd : s = d
      · rw [if_pos hsd] at a1
        have := OB.le N h
        omega
      · rw [if_neg hsd] at a1
        omega
    · have := a2 _ _ hw
      unfold lat at this
      rw [if_pos rfl] at this
      omega
    · have b9 := N.2.1 _ _ _ hw
      have h9 := (hb s' b9.2.1.1 b9.2.1.2 (t + m) (by omega)).mpr h
      have g := a2 _ _ hw
      unfold lat at g
      by_cases h8 : s' = d
      · rw [if_pos h8] at g
        have := OB.le N h
        omega
      · rw [if_neg h8] at g
        omega
theorem BEx.zero {b : Int → Int} (hb : ∀ s, 0 ≤ s → s < n → b s = -1000000000) : BEx n c W R d D 0 b := by
  intro s h0 h1 t ht
  rw [hb s h0 h1]
  exact ⟨fun h => by omega, fun h => h.elim⟩
theorem BEx.round (N : Net n c W R) {k : Nat} {a b b' : Int → Int} (hb : BEx n c W R d D k b) (ha : AEx n c W R d D k a) (hr : BRide n R a b b') : BEx n c W R d D (k + 1) b' := by
  intro s h0 h1 t ht
  obtain ⟨g1, g2⟩ := hr.1 s h0 h1
  constructor
  · intro h
    rcases g2 with e | ⟨r, i, j, hR, i0, i1, i2, i3, i4, i5⟩
    · exact OB.step _ _ _ ((hb s h0 h1 t ht).mp (by omega))
    · have b9 := (N.2.2.2 r hR).2.1 j (by omega) i2
      exact ⟨r, i, j, hR, i0, i1, i2, i3, by omega, (ha _ b9.1.1 b9.1.2 _ (by omega)).mp i5⟩
  · rintro ⟨r, i, j, hR, i0, i1, i2, rfl, i4, i5⟩
    have b9 := (N.2.2.2 r hR).2.1 j (by omega) i2
    have := hr.2 r i j hR i0 i1 i2 ((ha _ b9.1.1 b9.1.2 _ (by omega)).mpr i5)
    omega
/-- no better: the same for one more -/
theorem BEx.skip (N : Net n c W R) {k : Nat} {a b b' : Int → Int} (hb : BEx n c W R d D k b) (ha : AEx n c W R d D k a) (hr : BRide n R a b b') (hs : ∀ s, 0 ≤ s → s < n → b' s = b s) : ∀ m, k ≤ m → BEx n c W R d D m b ∧ ∀ s t, OB c W R d D m s t → -1000000 ≤ t → OB c W R d D k s t := by
  have key : ∀ m, k ≤ m → ∀ s t, OB c W R d D m s t → -1000000 ≤ t → OB c W R d D k s t := by
    intro m hm
    induction m with
    | zero => intro s t h _; obtain rfl : k = 0 := by omega
              exact h
    | succ m ih =>
      intro s t h ht
      by_cases hk : k = m + 1
      · subst hk; exact h
      have hm' : k ≤ m := by omega
      obtain ⟨r, i, j, hR, i0, i1, i2, rfl, i4, i5⟩ := h
      have b9 := (N.2.2.2 r hR).2.1 j (by omega) i2
      have b8 := (N.2.2.2 r hR).2.1 i i0 (by omega)
      have hc := N.1 _ b9.1.1 b9.1.2
      have i6 : OA c W R d D k (rs r j) (ra r j) := by
        rcases i5 with h | h | ⟨s', q, hw, h | h⟩
        · exact Or.inl h
        · exact Or.inr (Or.inl (ih hm' _ _ h (by omega)))
        · exact Or.inr (Or.inr ⟨s', q, hw, Or.inl h⟩)
        · have := (N.2.1 _ _ _ hw).2.2.1
          exact Or.inr (Or.inr ⟨s', q, hw, Or.inr (ih hm' _ _ h (by omega))⟩)
      have := hr.2 r i j hR i0 i1 i2 ((ha _ b9.1.1 b9.1.2 _ (by omega)).mpr i6)
      rw [hs _ b8.1.1 b8.1.2] at this
      exact OB.early i4 ((hb _ b8.1.1 b8.1.2 _ (by omega)).mp this)
  intro m hm
  exact ⟨fun s h0 h1 t ht => ⟨fun h => OB.mono hm ((hb s h0 h1 t ht).mp h), fun h => (hb s h0 h1 t ht).mpr (key m hm _ _ h ht)⟩, key m hm⟩
end BCK
