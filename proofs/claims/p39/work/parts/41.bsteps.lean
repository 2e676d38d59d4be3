/-! ===== a ride back along a run: what its loop keeps (no machine here) ===== -/
/-- departures are looked at from k1 on, arrivals from k2 on; g: one is in time, b: something got better -/
def RBI (sz : Int) (st ar dp : Int → Int) (y f f' : Int → Int) (k1 k2 g b : Int) : Prop :=
  (∀ s, f s ≤ f' s ∧ (f' s = f s ∨ ∃ i j, 0 ≤ i ∧ i < j ∧ j < sz ∧ st i = s ∧ f' s = dp i ∧ ar j ≤ y (st j))) ∧
  (∀ i j, k1 ≤ i → 0 ≤ i → i < j → j < sz → ar j ≤ y (st j) → dp i ≤ f' (st i)) ∧
  ((g = 1 ∧ ∃ j, k2 ≤ j ∧ j < sz ∧ ar j ≤ y (st j)) ∨ (g = 0 ∧ ∀ j, k2 ≤ j → j < sz → y (st j) < ar j)) ∧ ((b = 0 ∧ ∀ s, f' s = f s) ∨ b = 1)
def RBun (sz : Int) (st ar dp : Int → Int) (y f f' : Int → Int) (b : Int) : Prop :=
  (∀ s, f s ≤ f' s ∧ (f' s = f s ∨ ∃ i j, 0 ≤ i ∧ i < j ∧ j < sz ∧ st i = s ∧ f' s = dp i ∧ ar j ≤ y (st j))) ∧
  (∀ i j, 0 ≤ i → i < j → j < sz → ar j ≤ y (st j) → dp i ≤ f' (st i)) ∧ ((b = 0 ∧ ∀ s, f' s = f s) ∨ b = 1)
section RBS
variable {sz k g b : Int} {st ar dp y f f' : Int → Int}
theorem RBI.start : RBI sz st ar dp y f f sz sz 0 0 := ⟨fun s => ⟨Int.le_refl _, Or.inl rfl⟩, fun i j h0 h1 h2 h3 => by omega, Or.inr ⟨rfl, fun i h0 h1 => by omega⟩, Or.inl ⟨rfl, fun _ => rfl⟩⟩
theorem RBI.write (q : RBI sz st ar dp y f f' (k + 1) (k + 1) g b) (hk : 0 ≤ k) (hg : g ≠ 0) (hf : f' (st k) < dp k) : RBI sz st ar dp y f (upF f' (st k) (dp k)) k (k + 1) g 1 := by
  obtain ⟨q1, q2, q3, q4⟩ := q
  refine ⟨fun s => ?_, fun i j h0 h1 h2 h3 h4 => ?_, q3, Or.inr rfl⟩
  · by_cases hc : s = st k
    · subst hc
      rw [upF_same]
      rcases q3 with ⟨-, j, h0, h1, h2⟩ | ⟨h, -⟩
      · exact ⟨by have := (q1 (st k)).1; omega, Or.inr ⟨k, j, hk, by omega, h1, rfl, rfl, h2⟩⟩
      · exact absurd h hg
    · rw [upF_ne _ hc]
      exact q1 s
  · by_cases hc : st i = st k
    · rw [hc, upF_same]
      by_cases hj : i = k
      · subst hj; omega
      · have := q2 i j (by omega) h1 h2 h3 h4
        rw [hc] at this
        omega
    · rw [upF_ne _ hc]
      exact q2 i j (by by_cases hj : i = k; · subst hj; exact absurd rfl hc
                       · omega) h1 h2 h3 h4
theorem RBI.pass (q : RBI sz st ar dp y f f' (k + 1) (k + 1) g b) (hf : g = 0 ∨ dp k ≤ f' (st k)) : RBI sz st ar dp y f f' k (k + 1) g b := by
  obtain ⟨q1, q2, q3, q4⟩ := q
  refine ⟨q1, fun i j h0 h1 h2 h3 h4 => ?_, q3, q4⟩
  by_cases hj : i = k
  · subst hj
    rcases hf with hf | hf
    · rcases q3 with ⟨h, -⟩ | ⟨-, h⟩
      · omega
      · have := h j (by omega) h3
        omega
    · exact hf
  · exact q2 i j (by omega) h1 h2 h3 h4
theorem RBI.on (q : RBI sz st ar dp y f f' k (k + 1) g b) (hk : k < sz) (hg : g ≠ 0 ∨ ar k ≤ y (st k)) : RBI sz st ar dp y f f' k k 1 b := by
  obtain ⟨q1, q2, q3, q4⟩ := q
  refine ⟨q1, q2, Or.inl ⟨rfl, ?_⟩, q4⟩
  rcases hg with hg | hg
  · rcases q3 with ⟨-, i, h0, h1, h2⟩ | ⟨h, -⟩
    · exact ⟨i, by omega, h1, h2⟩
    · exact absurd h hg
  · exact ⟨k, by omega, hk, hg⟩
theorem RBI.off (q : RBI sz st ar dp y f f' k (k + 1) g b) (hg : g = 0) (hy : y (st k) < ar k) : RBI sz st ar dp y f f' k k 0 b := by
  obtain ⟨q1, q2, q3, q4⟩ := q
  refine ⟨q1, q2, Or.inr ⟨rfl, fun i h0 h1 => ?_⟩, q4⟩
  rcases q3 with ⟨h, -⟩ | ⟨-, h⟩
  · omega
  · by_cases hi : i = k
    · subst hi; exact hy
    · exact h i (by omega) h1
theorem RBI.done (q : RBI sz st ar dp y f f' k k g b) (hk : k ≤ 0) : RBun sz st ar dp y f f' b := ⟨q.1, fun i j h0 h1 h2 h3 => q.2.1 i j (by omega) h0 h1 h2 h3, q.2.2.2⟩
end RBS
/-- all runs of a list, those below k -/
def RbdI (n : Int) (C : Int → Rn → Prop) (y f f' : Int → Int) (k b : Int) : Prop :=
  (∀ s, 0 ≤ s → s < n → f s ≤ f' s ∧ (f' s = f s ∨ ∃ q r i j, q < k ∧ C q r ∧ 0 ≤ i ∧ i < j ∧ j < rz r ∧ rs r i = s ∧ f' s = rd r i ∧ ra r j ≤ y (rs r j))) ∧
  (∀ q r i j, q < k → C q r → 0 ≤ i → i < j → j < rz r → ra r j ≤ y (rs r j) → rd r i ≤ f' (rs r i)) ∧ ((b = 0 ∧ ∀ s, 0 ≤ s → s < n → f' s = f s) ∨ b = 1)
theorem RbdI.start {n : Int} {C : Int → Rn → Prop} {y f : Int → Int} (hC : ∀ q r, C q r → 0 ≤ q) : RbdI n C y f f 0 0 := ⟨fun s _ _ => ⟨Int.le_refl _, Or.inl rfl⟩, fun q r i j h0 h1 => by have := hC q r h1; omega, Or.inl ⟨rfl, fun _ _ _ => rfl⟩⟩
theorem RbdI.step {n k b b' b2 : Int} {C : Int → Rn → Prop} {y f f' f2 : Int → Int} {r0 : Rn} (q : RbdI n C y f f' k b) (hr : ∀ r, C k r → r = r0) (hc : C k r0) (h : RBun (rz r0) (rs r0) (ra r0) (rd r0) y f' f2 b') (hb : (b2 = 0 ∧ b = 0 ∧ b' = 0) ∨ b2 = 1) : RbdI n C y f f2 (k + 1) b2 := by
  obtain ⟨q1, q2, q3⟩ := q
  obtain ⟨p1, p2, p3⟩ := h
  refine ⟨fun s s0 s1 => ?_, fun j r i j9 h0 h1 h2 h3 h4 h5 => ?_, ?_⟩
  · have a1 := q1 s s0 s1
    have a2 := p1 s
    refine ⟨by omega, ?_⟩
    rcases a2.2 with e | ⟨i, j, g0, g1, g2, g3, g4, g5⟩
    · rcases a1.2 with e2 | ⟨q9, r, i, j, g0, g1, g2, g3, g4, g5, g6, g7⟩
      · exact Or.inl (e.trans e2)
      · exact Or.inr ⟨q9, r, i, j, by omega, g1, g2, g3, g4, g5, by rw [e]; exact g6, g7⟩
    · exact Or.inr ⟨k, r0, i, j, by omega, hc, g0, g1, g2, g3, g4, g5⟩
  · by_cases hj : j = k
    · subst hj
      obtain rfl := hr r h1
      exact p2 i j9 h2 h3 h4 h5
    · have a1 := q2 j r i j9 (by omega) h1 h2 h3 h4 h5
      have a2 := (p1 (rs r i)).1
      omega
  · rcases hb with ⟨rfl, rfl, rfl⟩ | hb
    · rcases q3 with ⟨-, q3⟩ | q3
      · rcases p3 with ⟨-, p3⟩ | p3
        · exact Or.inl ⟨rfl, fun s s0 s1 => (p3 s).trans (q3 s s0 s1)⟩
        · omega
      · omega
    · exact Or.inr hb
theorem RbdI.done {n k b : Int} {C : Int → Rn → Prop} {R : Rn → Prop} {y f f' : Int → Int} (q : RbdI n C y f f' k b) (hC : ∀ r, R r ↔ ∃ j, j < k ∧ C j r) : BRide n R y f f' ∧ ((b = 0 ∧ ∀ s, 0 ≤ s → s < n → f' s = f s) ∨ b = 1) := by
  obtain ⟨q1, q2, q3⟩ := q
  refine ⟨⟨fun s s0 s1 => ⟨(q1 s s0 s1).1, (q1 s s0 s1).2.imp id ?_⟩, fun r i j hR h0 h1 h2 h3 => ?_⟩, q3⟩
  · rintro ⟨j, r, i, j9, g0, g1, g2⟩
    exact ⟨r, i, j9, (hC r).mpr ⟨j, g0, g1⟩, g2⟩
  · obtain ⟨j9, g0, g1⟩ := (hC r).mp hR
    exact q2 j9 r i j g0 g1 h0 h1 h2 h3
/-! on foot, back -/
def bsA (c : Int → Int) (d D : Int) (b : Int → Int) (s : Int) : Int := if s = d then D else b s - c s
def crossB (d D : Int) (b a : Int → Int) (s s' m : Int) : Int → Int := upF a s (max (a s) (lat d D b s' - m))
theorem crossB_le {d D : Int} {b a : Int → Int} {s s' m x : Int} : a x ≤ crossB d D b a s s' m x ∧ (crossB d D b a s s' m x = a x ∨ (x = s ∧ crossB d D b a s s' m x = lat d D b s' - m)) ∧ lat d D b s' - m ≤ crossB d D b a s s' m s := by
  unfold crossB
  refine ⟨?_, ?_, by rw [upF_same]; omega⟩
  · by_cases hx : x = s
    · subst hx; rw [upF_same]; omega
    · rw [upF_ne _ hx]; exact Int.le_refl _
  · by_cases hx : x = s
    · subst hx; rw [upF_same]; omega
    · rw [upF_ne _ hx]; exact Or.inl rfl
def AliI (n : Int) (C : Int → Int → Int → Int → Prop) (c : Int → Int) (d D : Int) (b a : Int → Int) (k : Int) : Prop := ∀ s, 0 ≤ s → s < n → bsA c d D b s ≤ a s ∧ (∀ q s' m, q < k → C q s s' m → lat d D b s' - m ≤ a s) ∧ (a s = bsA c d D b s ∨ ∃ q s' m, q < k ∧ C q s s' m ∧ a s = lat d D b s' - m)
theorem AliI.start {n d D : Int} {C : Int → Int → Int → Int → Prop} {c b a : Int → Int} (hC : ∀ q s s' m, C q s s' m → 0 ≤ q) (h : ∀ s, 0 ≤ s → s < n → a s = bsA c d D b s) : AliI n C c d D b a 0 := fun s s0 s1 => ⟨by rw [h s s0 s1]; exact Int.le_refl _, fun q s' m h0 h1 => by have := hC _ _ _ _ h1; omega, Or.inl (h s s0 s1)⟩
theorem AliI.step {n k x y m d D : Int} {C : Int → Int → Int → Int → Prop} {c b a : Int → Int} (q : AliI n C c d D b a k) (hc : ∀ s s' m', C k s s' m' ↔ ((s = x ∧ s' = y) ∨ (s = y ∧ s' = x)) ∧ m' = m) : AliI n C c d D b (crossB d D b (crossB d D b a x y m) y x m) (k + 1) := by
  intro s s0 s1
  obtain ⟨q1, q2, q3⟩ := q s s0 s1
  have e1 := crossB_le (d := d) (D := D) (b := b) (a := a) (s := x) (s' := y) (m := m) (x := s)
  have e2 := crossB_le (d := d) (D := D) (b := b) (a := crossB d D b a x y m) (s := y) (s' := x) (m := m) (x := s)
  refine ⟨by omega, fun j s' m' h0 h1 => ?_, ?_⟩
  · by_cases hj : j = k
    · subst hj
      obtain ⟨⟨rfl, rfl⟩ | ⟨rfl, rfl⟩, rfl⟩ := (hc _ _ _).mp h1
      · omega
      · omega
    · have := q2 j s' m' (by omega) h1
      omega
  · rcases e2.2.1 with z | ⟨z1, z2⟩
    · rcases e1.2.1 with z9 | ⟨z1, z2⟩
      · rcases q3 with z8 | ⟨j, s', m', g0, g1, g2⟩
        · exact Or.inl (by omega)
        · exact Or.inr ⟨j, s', m', by omega, g1, by omega⟩
      · exact Or.inr ⟨k, y, m, by omega, (hc _ _ _).mpr ⟨Or.inl ⟨z1, rfl⟩, rfl⟩, by omega⟩
    · exact Or.inr ⟨k, x, m, by omega, (hc _ _ _).mpr ⟨Or.inr ⟨z1, rfl⟩, rfl⟩, z2⟩
theorem AliI.done {n k d D : Int} {C : Int → Int → Int → Int → Prop} {W : Int → Int → Int → Prop} {c b a : Int → Int} (q : AliI n C c d D b a k) (hC : ∀ s s' m, W s s' m ↔ ∃ j, j < k ∧ C j s s' m) : AliR n c W d D b a := by
  intro s s0 s1
  obtain ⟨q1, q2, q3⟩ := q s s0 s1
  refine ⟨q1, fun s' m hw => ?_, q3.imp id ?_⟩
  · obtain ⟨j, g0, g1⟩ := (hC _ _ _).mp hw
    exact q2 j s' m g0 g1
  · rintro ⟨j, s', m, g0, g1, g2⟩
    exact ⟨s', m, (hC _ _ _).mpr ⟨j, g0, g1⟩, g2⟩
