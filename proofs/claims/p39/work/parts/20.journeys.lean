/-! ===== journeys, as numbers (no machine here) ===== -/
/-- a run: how many calls, their stops, arrivals, departures, its price -/
abbrev Rn : Type := Int × (Int → Int) × (Int → Int) × (Int → Int) × Int
def rz (r : Rn) : Int := r.1
def rs (r : Rn) : Int → Int := r.2.1
def ra (r : Rn) : Int → Int := r.2.2.1
def rd (r : Rn) : Int → Int := r.2.2.2.1
def rp (r : Rn) : Int := r.2.2.2.2
/-- ready to ride: from an arrival (A) at that stop, its change added (not at the start), or on foot -/
def RDof (c : Int → Int) (W : Int → Int → Int → Prop) (L : Int) (k : Nat) (A : Int → Int → Int → Prop) (s t p : Int) : Prop := ∃ s' t', A s' t' p ∧ ((s = s' ∧ t = t' + (if k = 0 then 0 else c s')) ∨ ∃ m, W s' s m ∧ t = t' + m ∧ t ≤ L)
/-- at a stop behind k rides (not on foot) at a time, for a price; all by L -/
def JA (c : Int → Int) (W : Int → Int → Int → Prop) (R : Rn → Prop) (o T L : Int) : Nat → Int → Int → Int → Prop
  | 0 => fun s t p => s = o ∧ t = T ∧ p = 0
  | k + 1 => fun s t p => ∃ s0 t0 p0 r i j, RDof c W L k (JA c W R o T L k) s0 t0 p0 ∧ R r ∧ 0 ≤ i ∧ i < j ∧ j < rz r ∧ rs r i = s0 ∧ t0 ≤ rd r i ∧ rs r j = s ∧ ra r j = t ∧ t ≤ L ∧ p = p0 + rp r
abbrev JR (c : Int → Int) (W : Int → Int → Int → Prop) (R : Rn → Prop) (o T L : Int) (k : Nat) : Int → Int → Int → Prop := RDof c W L k (JA c W R o T L k)
/-- a journey with k rides ends there -/
def JE (c : Int → Int) (W : Int → Int → Int → Prop) (R : Rn → Prop) (o T L : Int) (k : Nat) (s t p : Int) : Prop := JA c W R o T L k s t p ∨ ∃ s' t' m, JA c W R o T L k s' t' p ∧ W s' s m ∧ t = t' + m ∧ t ≤ L
/-- what holds of every timetable: stops below n, changes 0 to 30, ways of a minute and more, runs in order -/
def Net (n : Int) (c : Int → Int) (W : Int → Int → Int → Prop) (R : Rn → Prop) : Prop :=
  (∀ s, 0 ≤ s → s < n → 0 ≤ c s ∧ c s ≤ 30) ∧ (∀ s s' m, W s s' m → (0 ≤ s ∧ s < n) ∧ (0 ≤ s' ∧ s' < n) ∧ 1 ≤ m ∧ m ≤ 60) ∧ (∀ s s' m, W s s' m → W s' s m) ∧
  (∀ r, R r → 0 ≤ rp r ∧ (∀ i, 0 ≤ i → i < rz r → (0 ≤ rs r i ∧ rs r i < n) ∧ 0 ≤ ra r i ∧ ra r i ≤ rd r i ∧ rd r i < 1000000) ∧ ∀ i j, 0 ≤ i → i < j → j < rz r → rd r i ≤ ra r j)
section ONW
variable {n : Int} {c : Int → Int} {W : Int → Int → Int → Prop} {R : Rn → Prop} {o T L : Int}
theorem JA.range (N : Net n c W R) (ho : 0 ≤ o ∧ o < n) : ∀ (k : Nat) (s t p : Int), JA c W R o T L k s t p → 0 ≤ s ∧ s < n := by
  intro k
  cases k with
  | zero => rintro s t p ⟨rfl, -, -⟩; exact ho
  | succ k =>
    rintro s t p ⟨s0, t0, p0, r, i, j, -, hr, h0, h1, h2, -, -, rfl, -⟩
    exact ((N.2.2.2 r hr).2.1 j (by omega) h2).1
theorem JR.range (N : Net n c W R) (ho : 0 ≤ o ∧ o < n) {k : Nat} {s t p : Int} (h : JR c W R o T L k s t p) : 0 ≤ s ∧ s < n := by
  obtain ⟨s', t', ha, ⟨rfl, -⟩ | ⟨m, hw, -⟩⟩ := h
  · exact JA.range N ho k _ _ _ ha
  · exact (N.2.1 _ _ _ hw).2.1
theorem JE.range (N : Net n c W R) (ho : 0 ≤ o ∧ o < n) {k : Nat} {s t p : Int} (h : JE c W R o T L k s t p) : 0 ≤ s ∧ s < n := by
  obtain ha | ⟨s', t', m, ha, hw, -⟩ := h
  · exact JA.range N ho k _ _ _ ha
  · exact (N.2.1 _ _ _ hw).2.1
/-- one never is anywhere ahead of T, and nothing costs less than nothing -/
theorem JA.ge (N : Net n c W R) (ho : 0 ≤ o ∧ o < n) : ∀ (k : Nat) (s t p : Int), JA c W R o T L k s t p → T ≤ t ∧ 0 ≤ p := by
  intro k
  induction k with
  | zero => rintro s t p ⟨-, rfl, rfl⟩; omega
  | succ k ih =>
    rintro s t p ⟨s0, t0, p0, r, i, j, ⟨s', t', ha, hb⟩, hr, h0, h1, h2, h3, h4, h5, h6, h7, h8⟩
    have a1 := ih _ _ _ ha
    have a2 := (N.2.2.2 r hr).2.2 i j h0 h1 h2
    have a3 := (N.2.2.2 r hr).1
    have a4 := N.1 s' (JA.range N ho k _ _ _ ha).1 (JA.range N ho k _ _ _ ha).2
    rcases hb with ⟨-, hb⟩ | ⟨m, hw, hb, -⟩
    · split at hb <;> omega
    · have := (N.2.1 _ _ _ hw).2.2.1
      omega
theorem JE.ge (N : Net n c W R) (ho : 0 ≤ o ∧ o < n) {k : Nat} {s t p : Int} (h : JE c W R o T L k s t p) : T ≤ t ∧ 0 ≤ p := by
  obtain ha | ⟨s', t', m, ha, hw, rfl, -⟩ := h
  · exact JA.ge N ho k _ _ _ ha
  · have := JA.ge N ho k _ _ _ ha
    have := (N.2.1 _ _ _ hw).2.2.1
    omega
theorem JA.le (hT : T ≤ L) {k : Nat} {s t p : Int} (h : JA c W R o T L k s t p) : t ≤ L := by
  cases k with
  | zero => obtain ⟨-, rfl, -⟩ := h; exact hT
  | succ k => obtain ⟨s0, t0, p0, r, i, j, -, -, -, -, -, -, -, -, -, h, -⟩ := h; exact h
theorem JE.le (hT : T ≤ L) {k : Nat} {s t p : Int} (h : JE c W R o T L k s t p) : t ≤ L := by
  obtain ha | ⟨s', t', m, ha, hw, -, h⟩ := h
  · exact JA.le hT ha
  · exact h
/-- what rounds make: by foot f, ready y, ended e, all of them exact up to k rides -/
def Exact (n : Int) (c : Int → Int) (W : Int → Int → Int → Prop) (R : Rn → Prop) (o T L : Int) (k : Nat) (f y e : Int → Int) : Prop :=
  (∀ s, 0 ≤ s → s < n → f s = 1000000000 ∨ ∃ j p, j ≤ k ∧ JA c W R o T L j s (f s) p) ∧ (∀ j s t p, j ≤ k → JA c W R o T L j s t p → f s ≤ t) ∧
  (∀ s, 0 ≤ s → s < n → 1000000000 ≤ y s ∨ ∃ j p, j ≤ k ∧ JR c W R o T L j s (y s) p) ∧ (∀ j s t p, j ≤ k → JR c W R o T L j s t p → y s ≤ t) ∧
  (∀ s, 0 ≤ s → s < n → e s = 1000000000 ∨ ∃ j p, j ≤ k ∧ JE c W R o T L j s (e s) p) ∧ (∀ j s t p, j ≤ k → JE c W R o T L j s t p → e s ≤ t) ∧
  (∀ s, 0 ≤ s → s < n → f s ≤ 1000000000 ∧ y s ≤ f s + c s) ∧ (∀ s s' m, W s s' m → f s + m ≤ L → y s' ≤ f s + m)
/-- a round of rides: y ready, f before, f' behind -/
def RideR (n : Int) (R : Rn → Prop) (L : Int) (y f f' : Int → Int) : Prop :=
  (∀ s, 0 ≤ s → s < n → f' s ≤ f s ∧ (f' s = f s ∨ ∃ r i j, R r ∧ 0 ≤ i ∧ i < j ∧ j < rz r ∧ y (rs r i) ≤ rd r i ∧ rs r j = s ∧ ra r j = f' s ∧ ra r j ≤ L)) ∧ ∀ r i j, R r → 0 ≤ i → i < j → j < rz r → y (rs r i) ≤ rd r i → ra r j ≤ L → f' (rs r j) ≤ ra r j
/-- least of z s and of what comes on foot -/
def WalkR (n : Int) (W : Int → Int → Int → Prop) (L : Int) (f z z' : Int → Int) : Prop :=
  (∀ s, 0 ≤ s → s < n → z' s ≤ z s ∧ (z' s = z s ∨ ∃ s' m, W s' s m ∧ f s' + m ≤ L ∧ z' s = f s' + m)) ∧ ∀ s' s m, W s' s m → f s' + m ≤ L → z' s ≤ f s' + m
def Closed (R : Rn → Prop) (L : Int) (f y : Int → Int) : Prop := ∀ r i j, R r → 0 ≤ i → i < j → j < rz r → y (rs r i) ≤ rd r i → ra r j ≤ L → f (rs r j) ≤ ra r j
theorem Exact.start (N : Net n c W R) (ho : 0 ≤ o ∧ o < n) (hT : T < 1000000) (hTL : T ≤ L) {f y0 e0 y e : Int → Int} (hf : ∀ s, 0 ≤ s → s < n → f s = if s = o then T else 1000000000) (hy : ∀ s, 0 ≤ s → s < n → y0 s = f s) (he : ∀ s, 0 ≤ s → s < n → e0 s = f s) (hL : L < 1000000) (w1 : WalkR n W L f y0 y) (w2 : WalkR n W L f e0 e) : Exact n c W R o T L 0 f y e := by
  have fo : ∀ s, 0 ≤ s → s < n → (s = o ∧ f s = T) ∨ f s = 1000000000 := fun s h0 h1 => by
    rw [hf s h0 h1]
    by_cases hs : s = o
    · exact Or.inl ⟨hs, if_pos hs⟩
    · exact Or.inr (if_neg hs)
  have foo : f o = T := by rw [hf o ho.1 ho.2, if_pos rfl]
  have a0 : JA c W R o T L 0 o T 0 := ⟨rfl, rfl, rfl⟩
  refine ⟨fun s h0 h1 => ?_, ?_, fun s h0 h1 => ?_, ?_, fun s h0 h1 => ?_, ?_, fun s h0 h1 => ?_, w1.2⟩
  · rcases fo s h0 h1 with ⟨rfl, h⟩ | h
    · exact Or.inr ⟨0, 0, Nat.le_refl _, by rw [h]; exact a0⟩
    · exact Or.inl h
  · intro j s t p hj h
    obtain rfl : j = 0 := by omega
    obtain ⟨rfl, rfl, -⟩ := h
    omega
  · rcases (w1.1 s h0 h1).2 with h | ⟨s', m, hw, hl, h⟩
    · rw [h, hy s h0 h1]
      rcases fo s h0 h1 with ⟨rfl, h⟩ | h
      · exact Or.inr ⟨0, 0, Nat.le_refl _, s, T, a0, Or.inl ⟨rfl, by rw [h]; simp⟩⟩
      · exact Or.inl (by rw [h]; decide)
    · have b := N.2.1 _ _ _ hw
      rcases fo s' b.1.1 b.1.2 with ⟨rfl, h9⟩ | h9
      · exact Or.inr ⟨0, 0, Nat.le_refl _, s', T, a0, Or.inr ⟨m, hw, by omega, by omega⟩⟩
      · rw [h9] at hl; omega
  · intro j s t p hj h
    obtain rfl : j = 0 := by omega
    obtain ⟨s', t', ⟨rfl, rfl, -⟩, ⟨rfl, h⟩ | ⟨m, hw, rfl, hl⟩⟩ := h
    · have := (w1.1 s ho.1 ho.2).1
      rw [hy s ho.1 ho.2, foo] at this
      simp at h
      omega
    · have := w1.2 _ _ _ hw (by omega)
      omega
  · rcases (w2.1 s h0 h1).2 with h | ⟨s', m, hw, hl, h⟩
    · rw [h, he s h0 h1]
      rcases fo s h0 h1 with ⟨rfl, h⟩ | h
      · exact Or.inr ⟨0, 0, Nat.le_refl _, Or.inl (by rw [h]; exact a0)⟩
      · exact Or.inl h
    · have b := N.2.1 _ _ _ hw
      rcases fo s' b.1.1 b.1.2 with ⟨rfl, h9⟩ | h9
      · exact Or.inr ⟨0, 0, Nat.le_refl _, Or.inr ⟨s', T, m, a0, hw, by omega, by omega⟩⟩
      · rw [h9] at hl; omega
  · intro j s t p hj h
    obtain rfl : j = 0 := by omega
    obtain ⟨rfl, rfl, -⟩ | ⟨s', t', m, ⟨rfl, rfl, -⟩, hw, rfl, hl⟩ := h
    · have := (w2.1 s ho.1 ho.2).1
      rw [he s ho.1 ho.2] at this
      omega
    · have := w2.2 _ _ _ hw (by omega)
      omega
  · have hc := (N.1 s h0 h1).1
    have := (w1.1 s h0 h1).1
    rw [hy s h0 h1] at this
    rcases fo s h0 h1 with ⟨-, h⟩ | h <;> omega
/-- a round more -/
theorem Exact.round (N : Net n c W R) (ho : 0 ≤ o ∧ o < n) (hL : L < 1000000) (hTL : T ≤ L) {k : Nat} {f y e f' y1 e1 y' e' : Int → Int} (E : Exact n c W R o T L k f y e) (rr : RideR n R L y f f') (hy : ∀ s, 0 ≤ s → s < n → y1 s = min (y s) (f' s + c s)) (he : ∀ s, 0 ≤ s → s < n → e1 s = min (e s) (f' s)) (w1 : WalkR n W L f' y1 y') (w2 : WalkR n W L f' e1 e') :
    Exact n c W R o T L (k + 1) f' y' e' ∧ ((∀ s, 0 ≤ s → s < n → f' s = f s) → Closed R L f' y') := by
  obtain ⟨s1, c1, s2, c2, s3, c3, i1, i2⟩ := E
  have C1 : ∀ j s t p, j ≤ k + 1 → JA c W R o T L j s t p → f' s ≤ t := by
    intro j s t p hj h
    have hr := JA.range N ho j _ _ _ h
    by_cases hk : j ≤ k
    · have := c1 j s t p hk h
      have := (rr.1 s hr.1 hr.2).1
      omega
    · obtain rfl : j = k + 1 := by omega
      obtain ⟨s0, t0, p0, r, i, j, hrd, hR, h0, h1, h2, rfl, h4, rfl, rfl, h6, -⟩ := h
      have := c2 k _ _ _ (Nat.le_refl _) hrd
      exact rr.2 r i j hR h0 h1 h2 (by omega) h6
  have S1 : ∀ s, 0 ≤ s → s < n → f' s = 1000000000 ∨ ∃ j p, j ≤ k + 1 ∧ JA c W R o T L j s (f' s) p := by
    intro s h0 h1
    rcases (rr.1 s h0 h1).2 with h | ⟨r, i, j, hR, i0, i1, i2, i3, i4, i5, i6⟩
    · rcases s1 s h0 h1 with h9 | ⟨j, p, hj, ha⟩
      · exact Or.inl (h.trans h9)
      · exact Or.inr ⟨j, p, by omega, by rw [h]; exact ha⟩
    · have b := (N.2.2.2 r hR).2.1 i i0 (by omega)
      rcases s2 (rs r i) b.1.1 b.1.2 with h9 | ⟨j9, p, hj, ha⟩
      · exfalso; omega
      · exact Or.inr ⟨j9 + 1, p + rp r, by omega, _, _, p, r, i, j, ha, hR, i0, i1, i2, rfl, i3, i4, i5, by omega, rfl⟩
  have F1 : ∀ s, 0 ≤ s → s < n → f' s ≤ 1000000000 := fun s h0 h1 => by
    have := (rr.1 s h0 h1).1
    have := (i1 s h0 h1).1
    omega
  have Y1 : ∀ s, 0 ≤ s → s < n → y' s ≤ y s ∧ y' s ≤ f' s + c s := fun s h0 h1 => by
    have h := (w1.1 s h0 h1).1
    rw [hy s h0 h1] at h
    omega
  have C2 : ∀ j s t p, j ≤ k + 1 → JR c W R o T L j s t p → y' s ≤ t := by
    intro j s t p hj h
    have hr := JR.range N ho h
    by_cases hk : j ≤ k
    · have := c2 j s t p hk h
      have := (Y1 s hr.1 hr.2).1
      omega
    · obtain rfl : j = k + 1 := by omega
      obtain ⟨s', t', ha, ⟨rfl, h9⟩ | ⟨m, hw, rfl, hl⟩⟩ := h
      · have := C1 _ _ _ _ (Nat.le_refl _) ha
        have := (Y1 s hr.1 hr.2).2
        rw [if_neg (by omega)] at h9
        omega
      · have := C1 _ _ _ _ (Nat.le_refl _) ha
        have := w1.2 _ _ _ hw (by omega)
        omega
  refine ⟨⟨S1, C1, fun s h0 h1 => ?_, C2, fun s h0 h1 => ?_, ?_, fun s h0 h1 => ⟨F1 s h0 h1, (Y1 s h0 h1).2⟩, w1.2⟩, fun hs r i j hR h0 h1 h2 h3 h4 => ?_⟩
  · rcases (w1.1 s h0 h1).2 with h | ⟨s', m, hw, hl, h⟩
    · have hyy := hy s h0 h1
      by_cases hm : y s ≤ f' s + c s
      · have e9 : y' s = y s := by omega
        rcases s2 s h0 h1 with h9 | ⟨j, p, hj, ha⟩
        · exact Or.inl (by omega)
        · exact Or.inr ⟨j, p, by omega, by rw [e9]; exact ha⟩
      · have e9 : y' s = f' s + c s := by omega
        rcases S1 s h0 h1 with h9 | ⟨j, p, hj, ha⟩
        · have := (N.1 s h0 h1).1
          exact Or.inl (by omega)
        · cases j with
          | zero =>
            exfalso
            obtain ⟨rfl, h8, -⟩ := ha
            have hz := (N.1 s h0 h1).1
            have := c2 0 s T 0 (Nat.zero_le _) ⟨s, T, ⟨rfl, rfl, rfl⟩, Or.inl ⟨rfl, by simp⟩⟩
            omega
          | succ j => exact Or.inr ⟨j + 1, p, hj, s, _, ha, Or.inl ⟨rfl, by rw [if_neg (by omega)]; exact e9⟩⟩
    · have b := N.2.1 _ _ _ hw
      rcases S1 s' b.1.1 b.1.2 with h9 | ⟨j, p, hj, ha⟩
      · exfalso; omega
      · exact Or.inr ⟨j, p, hj, s', _, ha, Or.inr ⟨m, hw, h, by omega⟩⟩
  · rcases (w2.1 s h0 h1).2 with h | ⟨s', m, hw, hl, h⟩
    · have hee := he s h0 h1
      by_cases hm : e s ≤ f' s
      · have e9 : e' s = e s := by omega
        rcases s3 s h0 h1 with h9 | ⟨j, p, hj, ha⟩
        · exact Or.inl (by omega)
        · exact Or.inr ⟨j, p, by omega, by rw [e9]; exact ha⟩
      · have e9 : e' s = f' s := by omega
        rcases S1 s h0 h1 with h9 | ⟨j, p, hj, ha⟩
        · exact Or.inl (by omega)
        · exact Or.inr ⟨j, p, hj, Or.inl (by rw [e9]; exact ha)⟩
    · have b := N.2.1 _ _ _ hw
      rcases S1 s' b.1.1 b.1.2 with h9 | ⟨j, p, hj, ha⟩
      · exfalso; omega
      · exact Or.inr ⟨j, p, hj, Or.inr ⟨s', _, m, ha, hw, h, by omega⟩⟩
  · intro j s t p hj h
    have hr := JE.range N ho h
    have h9 := (w2.1 s hr.1 hr.2).1
    have h8 := he s hr.1 hr.2
    by_cases hk : j ≤ k
    · have := c3 j s t p hk h
      omega
    · obtain ha | ⟨s', t', m, ha, hw, rfl, hl⟩ := h
      · have := C1 _ _ _ _ hj ha
        omega
      · have := C1 _ _ _ _ hj ha
        have := w2.2 _ _ _ hw (by omega)
        omega
  · -- nothing better: closed
    have b1 := (N.2.2.2 r hR).2.1 i h0 (by omega)
    refine rr.2 r i j hR h0 h1 h2 ?_ h4
    -- y' = y
    have hyy : y (rs r i) ≤ y' (rs r i) := by
      have g := i1 (rs r i) b1.1.1 b1.1.2
      have hy9 := hy (rs r i) b1.1.1 b1.1.2
      have hf9 := hs (rs r i) b1.1.1 b1.1.2
      rcases (w1.1 (rs r i) b1.1.1 b1.1.2).2 with h | ⟨s', m, hw, hl, h⟩
      · omega
      · have b := N.2.1 _ _ _ hw
        have hf8 := hs s' b.1.1 b.1.2
        have := i2 _ _ _ hw (by omega)
        omega
    omega
/-- closed: as many rides as one likes -/
theorem Closed.all (N : Net n c W R) (ho : 0 ≤ o ∧ o < n) {k : Nat} {f y e : Int → Int} (E : Exact n c W R o T L k f y e) (hc : Closed R L f y) : ∀ j s t p, (JA c W R o T L j s t p → f s ≤ t) ∧ (JR c W R o T L j s t p → y s ≤ t) := by
  obtain ⟨s1, c1, s2, c2, s3, c3, i1, i2⟩ := E
  have rd : ∀ j, (∀ s t p, JA c W R o T L j s t p → f s ≤ t) → ∀ s t p, JR c W R o T L j s t p → y s ≤ t := by
    intro j ha s t p h
    cases j with
    | zero => exact c2 0 s t p (Nat.zero_le _) h
    | succ j =>
      obtain ⟨s', t', hb, ⟨rfl, h9⟩ | ⟨m, hw, rfl, hl⟩⟩ := h
      · have hr := JA.range N ho _ _ _ _ hb
        have := ha _ _ _ hb
        have := (i1 s hr.1 hr.2).2
        rw [if_neg (by omega)] at h9
        omega
      · have := ha _ _ _ hb
        have := i2 _ _ _ hw (by omega)
        omega
  have at' : ∀ j s t p, JA c W R o T L j s t p → f s ≤ t := by
    intro j
    induction j with
    | zero => intro s t p h; exact c1 0 s t p (Nat.zero_le _) h
    | succ j ih =>
      rintro s t p ⟨s0, t0, p0, r, i, j9, hrd, hR, h0, h1, h2, rfl, h4, rfl, rfl, h6, -⟩
      have := rd j ih _ _ _ hrd
      exact hc r i j9 hR h0 h1 h2 (by omega) h6
  exact fun j s t p => ⟨at' j s t p, rd j (at' j) s t p⟩
theorem Exact.skip (N : Net n c W R) (ho : 0 ≤ o ∧ o < n) {k : Nat} {f y e : Int → Int} (E : Exact n c W R o T L k f y e) (hc : Closed R L f y) (he : ∀ s, 0 ≤ s → s < n → e s ≤ f s) (hw : ∀ s' s m, W s' s m → f s' + m ≤ L → e s ≤ f s' + m) : Exact n c W R o T L (k + 1) f y e := by
  have hall := Closed.all N ho E hc
  obtain ⟨s1, c1, s2, c2, s3, c3, i1, i2⟩ := E
  have up : ∀ {P : Nat → Int → Prop}, (∃ j p, j ≤ k ∧ P j p) → ∃ j p, j ≤ k + 1 ∧ P j p := fun ⟨j, p, h, h'⟩ => ⟨j, p, by omega, h'⟩
  refine ⟨fun s h0 h1 => (s1 s h0 h1).imp id up, fun j s t p _ h => (hall j s t p).1 h, fun s h0 h1 => (s2 s h0 h1).imp id up, fun j s t p _ h => (hall j s t p).2 h, fun s h0 h1 => (s3 s h0 h1).imp id up, fun j s t p _ h => ?_, i1, i2⟩
  have hr := JE.range N ho h
  obtain ha | ⟨s', t', m, ha, hw9, rfl, hl⟩ := h
  · have := (hall _ _ _ _).1 ha
    have := he s hr.1 hr.2
    omega
  · have := (hall _ _ _ _).1 ha
    have := hw _ _ _ hw9 (by omega)
    omega
end ONW
