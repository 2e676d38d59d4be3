/-! ===== a ride along a run: what its loop keeps (no machine here) ===== -/
/-- along a run with places 0 to sz: arrivals are looked at below k1, departures below k2; g: one is aboard, b: something got better -/
def RRI (sz : Int) (st ar dp : Int → Int) (lim : Int) (y f f' : Int → Int) (k1 k2 g b : Int) : Prop :=
  (∀ s, f' s ≤ f s ∧ (f' s = f s ∨ ∃ i j, 0 ≤ i ∧ i < j ∧ j < sz ∧ y (st i) ≤ dp i ∧ st j = s ∧ ar j = f' s ∧ ar j ≤ lim)) ∧
  (∀ i j, 0 ≤ i → i < j → j < k1 → y (st i) ≤ dp i → ar j ≤ lim → f' (st j) ≤ ar j) ∧
  ((g = 1 ∧ ∃ i, 0 ≤ i ∧ i < k2 ∧ y (st i) ≤ dp i) ∨ (g = 0 ∧ ∀ i, 0 ≤ i → i < k2 → dp i < y (st i))) ∧ ((b = 0 ∧ ∀ s, f' s = f s) ∨ b = 1)
/-- .. and what comes of it -/
def RRun (sz : Int) (st ar dp : Int → Int) (lim : Int) (y f f' : Int → Int) (b : Int) : Prop :=
  (∀ s, f' s ≤ f s ∧ (f' s = f s ∨ ∃ i j, 0 ≤ i ∧ i < j ∧ j < sz ∧ y (st i) ≤ dp i ∧ st j = s ∧ ar j = f' s ∧ ar j ≤ lim)) ∧
  (∀ i j, 0 ≤ i → i < j → j < sz → y (st i) ≤ dp i → ar j ≤ lim → f' (st j) ≤ ar j) ∧ ((b = 0 ∧ ∀ s, f' s = f s) ∨ b = 1)
section RRS
variable {sz lim k g b : Int} {st ar dp y f f' : Int → Int}
theorem RRI.start : RRI sz st ar dp lim y f f 0 0 0 0 := ⟨fun s => ⟨Int.le_refl _, Or.inl rfl⟩, fun i j h0 h1 h2 => by omega, Or.inr ⟨rfl, fun i h0 h1 => by omega⟩, Or.inl ⟨rfl, fun _ => rfl⟩⟩
theorem RRI.write (q : RRI sz st ar dp lim y f f' k k g b) (hk : 0 ≤ k) (hs : k < sz) (hg : g ≠ 0) (hl : ar k ≤ lim) (hf : ar k < f' (st k)) : RRI sz st ar dp lim y f (upF f' (st k) (ar k)) (k + 1) k g 1 := by
  obtain ⟨q1, q2, q3, q4⟩ := q
  refine ⟨fun s => ?_, fun i j h0 h1 h2 h3 h4 => ?_, q3, Or.inr rfl⟩
  · by_cases hc : s = st k
    · subst hc
      rw [upF_same]
      rcases q3 with ⟨-, i, h0, h1, h2⟩ | ⟨h, -⟩
      · exact ⟨by have := (q1 (st k)).1; omega, Or.inr ⟨i, k, h0, h1, hs, h2, rfl, rfl, hl⟩⟩
      · exact absurd h hg
    · rw [upF_ne _ hc]
      exact q1 s
  · by_cases hc : st j = st k
    · rw [hc, upF_same]
      by_cases hj : j = k
      · subst hj; omega
      · have := q2 i j h0 h1 (by omega) h3 h4
        rw [hc] at this
        omega
    · rw [upF_ne _ hc]
      exact q2 i j h0 h1 (by by_cases hj : j = k; · subst hj; exact absurd rfl hc
                             · omega) h3 h4
theorem RRI.pass (q : RRI sz st ar dp lim y f f' k k g b) (hf : g = 0 ∨ f' (st k) ≤ ar k) : RRI sz st ar dp lim y f f' (k + 1) k g b := by
  obtain ⟨q1, q2, q3, q4⟩ := q
  refine ⟨q1, fun i j h0 h1 h2 h3 h4 => ?_, q3, q4⟩
  by_cases hj : j = k
  · subst hj
    rcases hf with hf | hf
    · rcases q3 with ⟨h, -⟩ | ⟨-, h⟩
      · omega
      · have := h i h0 h1
        omega
    · exact hf
  · exact q2 i j h0 h1 (by omega) h3 h4
theorem RRI.on (q : RRI sz st ar dp lim y f f' (k + 1) k g b) (hk : 0 ≤ k) (hg : g ≠ 0 ∨ y (st k) ≤ dp k) : RRI sz st ar dp lim y f f' (k + 1) (k + 1) 1 b := by
  obtain ⟨q1, q2, q3, q4⟩ := q
  refine ⟨q1, q2, Or.inl ⟨rfl, ?_⟩, q4⟩
  rcases hg with hg | hg
  · rcases q3 with ⟨-, i, h0, h1, h2⟩ | ⟨h, -⟩
    · exact ⟨i, h0, by omega, h2⟩
    · exact absurd h hg
  · exact ⟨k, hk, by omega, hg⟩
theorem RRI.off (q : RRI sz st ar dp lim y f f' (k + 1) k g b) (hg : g = 0) (hy : dp k < y (st k)) : RRI sz st ar dp lim y f f' (k + 1) (k + 1) 0 b := by
  obtain ⟨q1, q2, q3, q4⟩ := q
  refine ⟨q1, q2, Or.inr ⟨rfl, fun i h0 h1 => ?_⟩, q4⟩
  rcases q3 with ⟨h, -⟩ | ⟨-, h⟩
  · omega
  · by_cases hi : i = k
    · subst hi; exact hy
    · exact h i h0 (by omega)
theorem RRI.done (q : RRI sz st ar dp lim y f f' k k g b) (hk : k = sz ∨ (lim < ar k ∧ ∀ j, k ≤ j → j < sz → ar k ≤ ar j)) : RRun sz st ar dp lim y f f' b := by
  obtain ⟨q1, q2, q3, q4⟩ := q
  refine ⟨q1, fun i j h0 h1 h2 h3 h4 => ?_, q4⟩
  rcases hk with rfl | ⟨hk, hm⟩
  · exact q2 i j h0 h1 h2 h3 h4
  · by_cases hj : j < k
    · exact q2 i j h0 h1 hj h3 h4
    · have := hm j (by omega) h2
      omega
end RRS
/-- all runs of a list one behind the other: those below k -/
def RidI (n : Int) (C : Int → Rn → Prop) (L : Int) (y f f' : Int → Int) (k b : Int) : Prop :=
  (∀ s, 0 ≤ s → s < n → f' s ≤ f s ∧ (f' s = f s ∨ ∃ q r i j, q < k ∧ C q r ∧ 0 ≤ i ∧ i < j ∧ j < rz r ∧ y (rs r i) ≤ rd r i ∧ rs r j = s ∧ ra r j = f' s ∧ ra r j ≤ L)) ∧
  (∀ q r i j, q < k → C q r → 0 ≤ i → i < j → j < rz r → y (rs r i) ≤ rd r i → ra r j ≤ L → f' (rs r j) ≤ ra r j) ∧ ((b = 0 ∧ ∀ s, 0 ≤ s → s < n → f' s = f s) ∨ b = 1)
theorem RidI.start {n L : Int} {C : Int → Rn → Prop} {y f : Int → Int} (hC : ∀ q r, C q r → 0 ≤ q) : RidI n C L y f f 0 0 := ⟨fun s _ _ => ⟨Int.le_refl _, Or.inl rfl⟩, fun q r i j h0 h1 => by have := hC q r h1; omega, Or.inl ⟨rfl, fun _ _ _ => rfl⟩⟩
theorem RidI.step {n L k b b' b2 : Int} {C : Int → Rn → Prop} {y f f' f2 : Int → Int} {r0 : Rn} (q : RidI n C L y f f' k b) (hr : ∀ r, C k r → r = r0) (hc : C k r0) (hn : ∀ i, 0 ≤ i → i < rz r0 → 0 ≤ rs r0 i ∧ rs r0 i < n) (hs : ∀ q r i, q < k → C q r → 0 ≤ i → i < rz r → 0 ≤ rs r i ∧ rs r i < n) (h : RRun (rz r0) (rs r0) (ra r0) (rd r0) L y f' f2 b') (hb : (b2 = 0 ∧ b = 0 ∧ b' = 0) ∨ b2 = 1) : RidI n C L y f f2 (k + 1) b2 := by
  obtain ⟨q1, q2, q3⟩ := q
  obtain ⟨p1, p2, p3⟩ := h
  refine ⟨fun s s0 s1 => ?_, fun j r i j9 h0 h1 h2 h3 h4 h5 h6 => ?_, ?_⟩
  · have a1 := q1 s s0 s1
    have a2 := p1 s
    refine ⟨by omega, ?_⟩
    rcases a2.2 with e | ⟨i, j, g0, g1, g2, g3, g4, g5, g6⟩
    · rcases a1.2 with e2 | ⟨q9, r, i, j, g0, g1, g2, g3, g4, g5, g6, g7, g8⟩
      · exact Or.inl (e.trans e2)
      · exact Or.inr ⟨q9, r, i, j, by omega, g1, g2, g3, g4, g5, g6, by rw [e]; exact g7, g8⟩
    · exact Or.inr ⟨k, r0, i, j, by omega, hc, g0, g1, g2, g3, g4, g5, g6⟩
  · by_cases hj : j = k
    · subst hj
      obtain rfl := hr r h1
      exact p2 i j9 h2 h3 h4 h5 h6
    · have a1 := q2 j r i j9 (by omega) h1 h2 h3 h4 h5 h6
      have a2 := (p1 (rs r j9)).1
      omega
  · rcases hb with ⟨rfl, rfl, rfl⟩ | hb
    · rcases q3 with ⟨-, q3⟩ | q3
      · rcases p3 with ⟨-, p3⟩ | p3
        · exact Or.inl ⟨rfl, fun s s0 s1 => (p3 s).trans (q3 s s0 s1)⟩
        · omega
      · omega
    · exact Or.inr hb
theorem RidI.done {n L k b : Int} {C : Int → Rn → Prop} {R : Rn → Prop} {y f f' : Int → Int} (q : RidI n C L y f f' k b) (hC : ∀ r, R r ↔ ∃ j, j < k ∧ C j r) : RideR n R L y f f' ∧ ((b = 0 ∧ ∀ s, 0 ≤ s → s < n → f' s = f s) ∨ b = 1) := by
  obtain ⟨q1, q2, q3⟩ := q
  refine ⟨⟨fun s s0 s1 => ⟨(q1 s s0 s1).1, (q1 s s0 s1).2.imp id ?_⟩, fun r i j hR h0 h1 h2 h3 h4 => ?_⟩, q3⟩
  · rintro ⟨j, r, i, j9, g0, g1, g2⟩
    exact ⟨r, i, j9, (hC r).mpr ⟨j, g0, g1⟩, g2⟩
  · obtain ⟨j9, g0, g1⟩ := (hC r).mp hR
    exact q2 j9 r i j g0 g1 h0 h1 h2 h3 h4
/-! on foot: the ways below k -/
/-- one way across: at s' no later than f s + m, if that is in time -/
def crossF (L : Int) (f z : Int → Int) (s s' m : Int) : Int → Int := if f s + m ≤ L then upF z s' (min (z s') (f s + m)) else z
theorem crossF_le {L : Int} {f z : Int → Int} {s s' m x : Int} : crossF L f z s s' m x ≤ z x ∧ (crossF L f z s s' m x = z x ∨ (x = s' ∧ f s + m ≤ L ∧ crossF L f z s s' m x = f s + m)) ∧ (f s + m ≤ L → crossF L f z s s' m s' ≤ f s + m) := by
  unfold crossF
  by_cases h : f s + m ≤ L
  · rw [if_pos h]
    refine ⟨?_, ?_, fun _ => by rw [upF_same]; omega⟩
    · by_cases hx : x = s'
      · subst hx; rw [upF_same]; omega
      · rw [upF_ne _ hx]; omega
    · by_cases hx : x = s'
      · subst hx; rw [upF_same]; omega
      · rw [upF_ne _ hx]; exact Or.inl rfl
  · rw [if_neg h]
    exact ⟨Int.le_refl _, Or.inl rfl, fun z => absurd z h⟩
def WlkI (n : Int) (C : Int → Int → Int → Int → Prop) (L : Int) (f z z' : Int → Int) (k : Int) : Prop :=
  (∀ s, 0 ≤ s → s < n → z' s ≤ z s ∧ (z' s = z s ∨ ∃ q s' m, q < k ∧ C q s' s m ∧ f s' + m ≤ L ∧ z' s = f s' + m)) ∧ ∀ q s' s m, q < k → C q s' s m → f s' + m ≤ L → z' s ≤ f s' + m
theorem WlkI.start {n L : Int} {C : Int → Int → Int → Int → Prop} {f z : Int → Int} (hC : ∀ q s s' m, C q s s' m → 0 ≤ q) : WlkI n C L f z z 0 := ⟨fun s _ _ => ⟨Int.le_refl _, Or.inl rfl⟩, fun q s' s m h0 h1 => by have := hC _ _ _ _ h1; omega⟩
theorem WlkI.step {n L k a b m : Int} {C : Int → Int → Int → Int → Prop} {f z z' : Int → Int} (q : WlkI n C L f z z' k) (hc : ∀ s s' m', C k s s' m' ↔ ((s = a ∧ s' = b) ∨ (s = b ∧ s' = a)) ∧ m' = m) : WlkI n C L f z (crossF L f (crossF L f z' a b m) b a m) (k + 1) := by
  obtain ⟨q1, q2⟩ := q
  have A := fun x => crossF_le (L := L) (f := f) (z := z') (s := a) (s' := b) (m := m) (x := x)
  have B := fun x => crossF_le (L := L) (f := f) (z := crossF L f z' a b m) (s := b) (s' := a) (m := m) (x := x)
  refine ⟨fun s s0 s1 => ?_, fun j s' s m' h0 h1 h2 => ?_⟩
  · have a0 := q1 s s0 s1
    have a1 := A s
    have a2 := B s
    refine ⟨by omega, ?_⟩
    rcases a2.2.1 with e | ⟨e, g1, g2⟩
    · rcases a1.2.1 with e1 | ⟨e1, g1, g2⟩
      · rcases a0.2 with e0 | ⟨q9, s', m', g0, g1, g2, g3⟩
        · exact Or.inl (by omega)
        · exact Or.inr ⟨q9, s', m', by omega, g1, g2, by omega⟩
      · exact Or.inr ⟨k, a, m, by omega, (hc a s m).mpr ⟨Or.inl ⟨rfl, e1⟩, rfl⟩, g1, by omega⟩
    · exact Or.inr ⟨k, b, m, by omega, (hc b s m).mpr ⟨Or.inr ⟨rfl, e⟩, rfl⟩, g1, g2⟩
  · have a1 := A s
    have a2 := B s
    by_cases hj : j = k
    · subst hj
      obtain ⟨⟨rfl, rfl⟩ | ⟨rfl, rfl⟩, rfl⟩ := (hc s' s m').mp h1
      · have := a1.2.2 h2
        omega
      · exact a2.2.2 h2
    · have := q2 j s' s m' (by omega) h1 h2
      omega
theorem WlkI.done {n L k : Int} {C : Int → Int → Int → Int → Prop} {W : Int → Int → Int → Prop} {f z z' : Int → Int} (q : WlkI n C L f z z' k) (hC : ∀ s s' m, W s s' m ↔ ∃ j, j < k ∧ C j s s' m) : WalkR n W L f z z' := by
  obtain ⟨q1, q2⟩ := q
  refine ⟨fun s s0 s1 => ⟨(q1 s s0 s1).1, (q1 s s0 s1).2.imp id ?_⟩, fun s' s m hw hl => ?_⟩
  · rintro ⟨j, s', m, g0, g1, g2⟩
    exact ⟨s', m, (hC _ _ _).mpr ⟨j, g0, g1⟩, g2⟩
  · obtain ⟨j, g0, g1⟩ := (hC _ _ _).mp hw
    exact q2 j s' s m g0 g1 hl
