/-! ===== what it costs (no machine here) ===== -/
section FAR
variable {n : Int} {c : Int → Int} {W : Int → Int → Int → Prop} {R : Rn → Prop} {o T L d : Int}
/-- exact up to k rides: f s x the least price to be ready to ride at s by x (but for ways through d), z the least price at d -/
def FEx (n : Int) (c : Int → Int) (W : Int → Int → Int → Prop) (R : Rn → Prop) (o T L d : Int) (k : Nat) (f : Int → Int → Int) (z : Int) : Prop :=
  (z ≤ 1000000000 ∧ (z = 1000000000 ∨ ∃ j t, j ≤ k ∧ JE c W R o T L j d t z)) ∧ (∀ s, 0 ≤ s → s < n → ∀ x, f s x = 1000000000 ∨ ∃ j t, j ≤ k ∧ t ≤ x ∧ JR c W R o T L j s t (f s x)) ∧
  (∀ j s t p, j ≤ k → JR c W R o T L j s t p → t ≤ L → z ≤ p ∨ f s t ≤ p) ∧ (∀ j t p, j ≤ k → JE c W R o T L j d t p → z ≤ p) ∧ (∀ s, 0 ≤ s → s < n → ∀ x x', x ≤ x' → f s x' ≤ f s x)
/-- what is made of a ride at the price P that ends at s at t -/
def Done (c : Int → Int) (W : Int → Int → Int → Prop) (L d : Int) (g : Int → Int → Int) (z s t P : Int) : Prop := z ≤ P ∨ (s ≠ d ∧ (t + c s ≤ L → g s (t + c s) ≤ P) ∧ ∀ s' m, W s s' m → t + m ≤ L → s' ≠ d ∧ g s' (t + m) ≤ P)
/-- from where a price may come -/
def From (n : Int) (R : Rn → Prop) (L : Int) (f : Int → Int → Int) (s t P : Int) : Prop := ∃ r i j, R r ∧ 0 ≤ i ∧ i < j ∧ j < rz r ∧ f (rs r i) (rd r i) < 1000000000 ∧ rs r j = s ∧ ra r j = t ∧ t ≤ L ∧ P = f (rs r i) (rd r i) + rp r
/-- a round: before f and z, behind it g and z' -/
def FRound (n : Int) (c : Int → Int) (W : Int → Int → Int → Prop) (R : Rn → Prop) (L d : Int) (f g : Int → Int → Int) (z z' : Int) : Prop :=
  (z' ≤ z ∧ (z' = z ∨ ∃ s t, From n R L f s t z' ∧ (s = d ∨ ∃ m, W s d m ∧ t + m ≤ L))) ∧
  (∀ s, 0 ≤ s → s < n → ∀ x, g s x ≤ f s x ∧ (g s x = f s x ∨ ∃ s' t, From n R L f s' t (g s x) ∧ ((s' = s ∧ t + c s ≤ x) ∨ ∃ m, W s' s m ∧ t + m ≤ x ∧ t + m ≤ L))) ∧
  (∀ s, 0 ≤ s → s < n → ∀ x x', x ≤ x' → g s x' ≤ g s x) ∧
  (∀ r i j, R r → 0 ≤ i → i < j → j < rz r → ra r j ≤ L → Done c W L d g z' (rs r j) (ra r j) (f (rs r i) (rd r i) + rp r))
theorem FEx.round (N : Net n c W R) (ho : 0 ≤ o ∧ o < n) (hTL : T ≤ L) {k : Nat} {f g : Int → Int → Int} {z z' : Int} (E : FEx n c W R o T L d k f z) (F : FRound n c W R L d f g z z') : FEx n c W R o T L d (k + 1) g z' := by
  obtain ⟨⟨e0, e1⟩, e2, e3, e4, e5⟩ := E
  obtain ⟨⟨f1, f2⟩, f3, f4, f5⟩ := F
  -- a price from a round is one of a ride
  have fr : ∀ s t P, From n R L f s t P → ∃ j, j ≤ k + 1 ∧ JA c W R o T L j s t P ∧ j ≠ 0 := by
    rintro s t P ⟨r, i, j, hR, h0, h1, h2, h3, rfl, rfl, h6, rfl⟩
    have b := (N.2.2.2 r hR).2.1 i h0 (by omega)
    rcases e2 (rs r i) b.1.1 b.1.2 (rd r i) with h | ⟨j9, t9, g1, g2, g3⟩
    · omega
    · exact ⟨j9 + 1, by omega, ⟨_, t9, _, r, i, j, g3, hR, h0, h1, h2, rfl, g2, rfl, rfl, h6, rfl⟩, by omega⟩
  -- a ride of one more
  have at1 : ∀ s t p, JA c W R o T L (k + 1) s t p → Done c W L d g z' s t p := by
    rintro s t p ⟨s0, t0, p0, r, i, j, hrd, hR, h0, h1, h2, rfl, h4, rfl, rfl, h6, rfl⟩
    have b := (N.2.2.2 r hR).2.1 i h0 (by omega)
    have hdd := (N.2.2.2 r hR).2.2 i j h0 h1 h2
    have hp := (N.2.2.2 r hR).1
    rcases e3 k _ _ _ (Nat.le_refl _) hrd (by omega) with h | h
    · exact Or.inl (by omega)
    · have h9 := e5 _ b.1.1 b.1.2 _ _ h4
      rcases f5 r i j hR h0 h1 h2 h6 with q | ⟨q1, q2, q3⟩
      · exact Or.inl (by omega)
      · exact Or.inr ⟨q1, fun hl => by have := q2 hl; omega, fun s' m hw hl => ⟨(q3 s' m hw hl).1, by have := (q3 s' m hw hl).2; omega⟩⟩
  refine ⟨⟨by omega, ?_⟩, fun s h0 h1 x => ?_, ?_, ?_, f4⟩
  · rcases f2 with h | ⟨s, t, hf, h⟩
    · rcases e1 with h9 | ⟨j, t, g1, g2⟩
      · exact Or.inl (by omega)
      · exact Or.inr ⟨j, t, by omega, by rw [h]; exact g2⟩
    · obtain ⟨j, g1, g2, -⟩ := fr _ _ _ hf
      rcases h with rfl | ⟨m, hw, hl⟩
      · exact Or.inr ⟨j, t, g1, Or.inl g2⟩
      · exact Or.inr ⟨j, t + m, g1, Or.inr ⟨s, t, m, g2, hw, rfl, hl⟩⟩
  · rcases (f3 s h0 h1 x).2 with h | ⟨s', t, hf, h⟩
    · rw [h]
      rcases e2 s h0 h1 x with h9 | ⟨j, t, g1, g2, g3⟩
      · exact Or.inl h9
      · exact Or.inr ⟨j, t, by omega, g2, g3⟩
    · obtain ⟨j, g1, g2, g3⟩ := fr _ _ _ hf
      rcases h with ⟨rfl, h⟩ | ⟨m, hw, h, hl⟩
      · exact Or.inr ⟨j, _, g1, h, s', t, g2, Or.inl ⟨rfl, by rw [if_neg g3]⟩⟩
      · exact Or.inr ⟨j, _, g1, h, s', t, g2, Or.inr ⟨m, hw, rfl, hl⟩⟩
  · intro j s t p hj h hl
    have hr := JR.range N ho h
    by_cases hjk : j ≤ k
    · rcases e3 j s t p hjk h hl with q | q
      · exact Or.inl (by omega)
      · exact Or.inr (by have := (f3 s hr.1 hr.2 t).1; omega)
    · obtain rfl : j = k + 1 := by omega
      obtain ⟨s', t', ha, hb⟩ := h
      rcases at1 _ _ _ ha with q | ⟨q1, q2, q3⟩
      · exact Or.inl q
      · rcases hb with ⟨rfl, rfl⟩ | ⟨m, hw, rfl, -⟩
        · rw [if_neg (by omega)] at hl ⊢
          exact Or.inr (q2 hl)
        · exact Or.inr (q3 _ _ hw hl).2
  · intro j t p hj h
    by_cases hjk : j ≤ k
    · have := e4 j t p hjk h
      omega
    · obtain rfl : j = k + 1 := by omega
      rcases h with ha | ⟨s', t', m, ha, hw, rfl, hl⟩
      · rcases at1 _ _ _ ha with q | ⟨q1, -, -⟩
        · exact q
        · exact absurd rfl q1
      · rcases at1 _ _ _ ha with q | ⟨-, -, q3⟩
        · exact q
        · exact absurd rfl (q3 _ _ hw hl).1
/-- a round that makes nothing better but at d itself: it is the last -/
theorem FEx.last (N : Net n c W R) (ho : 0 ≤ o ∧ o < n) {k : Nat} {f g : Int → Int → Int} {z z' : Int} (E : FEx n c W R o T L d k f z) (F : FRound n c W R L d f g z z') (hg : ∀ s, 0 ≤ s → s < n → ∀ x, g s x = f s x) : ∀ j t p, JE c W R o T L j d t p → z' ≤ p := by
  obtain ⟨-, e2, e3, e4, e5⟩ := E
  obtain ⟨⟨f1, -⟩, -, -, f5⟩ := F
  have key : ∀ j s t p, JA c W R o T L j s t p → (j ≤ k ∧ j = 0) ∨ Done c W L d f z' s t p ∨ j = 0 := fun j s t p h => by
    by_cases hj : j = 0
    · exact Or.inr (Or.inr hj)
    · exact Or.inr (Or.inl (by
        induction j generalizing s t p with
        | zero => exact absurd rfl hj
        | succ j ih =>
          obtain ⟨s0, t0, p0, r, i, j9, ⟨s', t', ha, hb⟩, hR, h0, h1, h2, rfl, h4, rfl, rfl, h6, rfl⟩ := h
          have b := (N.2.2.2 r hR).2.1 i h0 (by omega)
          have b9 := (N.2.2.2 r hR).2.1 j9 (by omega) h2
          have hdd := (N.2.2.2 r hR).2.2 i j9 h0 h1 h2
          have hp := (N.2.2.2 r hR).1
          have rdy : z' ≤ p0 ∨ f (rs r i) t0 ≤ p0 := by
            by_cases hj0 : j = 0
            · subst hj0
              rcases e3 0 (rs r i) t0 p0 (Nat.zero_le _) ⟨s', t', ha, hb⟩ (by omega) with q | q
              · exact Or.inl (by omega)
              · exact Or.inr q
            · rcases ih s' t' p0 ha hj0 with q | ⟨q1, q2, q3⟩
              · exact Or.inl q
              · rcases hb with ⟨h7, h8⟩ | ⟨m, hw, rfl, hl⟩
                · rw [if_neg hj0] at h8
                  subst h8
                  rw [← h7] at q2 h4 ⊢
                  exact Or.inr (q2 (by omega))
                · exact Or.inr (q3 _ _ hw hl).2
          rcases rdy with q | q
          · exact Or.inl (by omega)
          · have h9 := e5 _ b.1.1 b.1.2 _ _ h4
            rcases f5 r i j9 hR h0 h1 h2 h6 with q | ⟨q1, q2, q3⟩
            · exact Or.inl (by omega)
            · refine Or.inr ⟨q1, fun hl => ?_, fun s9 m hw hl => ⟨(q3 s9 m hw hl).1, ?_⟩⟩
              · have := q2 hl
                rw [hg _ b9.1.1 b9.1.2] at this
                omega
              · have := (q3 s9 m hw hl).2
                have b7 := (N.2.1 _ _ _ hw).2.1
                rw [hg _ b7.1 b7.2] at this
                omega))
  intro j t p h
  by_cases hj : j = 0
  · subst hj
    have := e4 0 t p (Nat.zero_le _) h
    omega
  · rcases h with ha | ⟨s', t', m, ha, hw, rfl, hl⟩
    · rcases key _ _ _ _ ha with q | (q | ⟨q1, -, -⟩) | q
      · exact absurd q.2 hj
      · exact q
      · exact absurd rfl q1
      · exact absurd q hj
    · rcases key _ _ _ _ ha with q | (q | ⟨-, -, q3⟩) | q
      · exact absurd q.2 hj
      · exact q
      · exact absurd rfl (q3 _ _ hw hl).1
      · exact absurd q hj
end FAR
