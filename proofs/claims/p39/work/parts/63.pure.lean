/-! ===== rounds of prices, begun and ended (no machine here) ===== -/
section FRE
variable {n : Int} {c : Int → Int} {W : Int → Int → Int → Prop} {R : Rn → Prop} {o T L d : Int}
theorem FEx.congr {k : Nat} {f f' : Int → Int → Int} {z : Int} (N : Net n c W R) (ho : 0 ≤ o ∧ o < n) (hf : ∀ s, 0 ≤ s → s < n → ∀ x, f' s x = f s x) (E : FEx n c W R o T L d k f z) : FEx n c W R o T L d k f' z := by
  obtain ⟨e1, e2, e3, e4, e5⟩ := E
  refine ⟨e1, fun s s0 s1 x => by rw [hf s s0 s1 x]; exact e2 s s0 s1 x, fun j s t p hj h hl => ?_, e4, fun s s0 s1 x x' hx => by rw [hf s s0 s1 x, hf s s0 s1 x']; exact e5 s s0 s1 x x' hx⟩
  have r := JR.range N ho h
  rw [hf s r.1 r.2 t]
  exact e3 j s t p hj h hl
theorem FRound.congr {f f' g g' : Int → Int → Int} {z z' : Int} (N : Net n c W R) (hf : ∀ s, 0 ≤ s → s < n → ∀ x, f' s x = f s x) (hg : ∀ s, 0 ≤ s → s < n → ∀ x, g' s x = g s x) (F : FRound n c W R L d f g z z') : FRound n c W R L d f' g' z z' := by
  obtain ⟨⟨a1, a2⟩, a3, a4, a5⟩ := F
  have fr : ∀ s t P, From n R L f s t P → From n R L f' s t P := by
    rintro s t P ⟨r, i, j, hR, h0, h1, h2, h3, h4, h5, h6, h7⟩
    have b := ((N.2.2.2 r hR).2.1 i h0 (by omega)).1
    exact ⟨r, i, j, hR, h0, h1, h2, by rw [hf _ b.1 b.2]; exact h3, h4, h5, h6, by rw [hf _ b.1 b.2]; exact h7⟩
  refine ⟨⟨a1, a2.imp id (fun ⟨s, t, y1, y2⟩ => ⟨s, t, fr _ _ _ y1, y2⟩)⟩, fun s s0 s1 x => ?_, fun s s0 s1 x x' hx => by rw [hg s s0 s1 x, hg s s0 s1 x']; exact a4 s s0 s1 x x' hx, fun r i j hR h0 h1 h2 h3 => ?_⟩
  · rw [hg s s0 s1 x, hf s s0 s1 x]
    exact ⟨(a3 s s0 s1 x).1, (a3 s s0 s1 x).2.imp id (fun ⟨s', t, y1, y2⟩ => ⟨s', t, fr _ _ _ y1, y2⟩)⟩
  · have b := ((N.2.2.2 r hR).2.1 i h0 (by omega)).1
    have b2 := ((N.2.2.2 r hR).2.1 j (by omega) h2).1
    rw [hf _ b.1 b.2]
    exact (a5 r i j hR h0 h1 h2 h3).mono N b2 (fun s s0 s1 x => by rw [hg s s0 s1 x]; exact Int.le_refl _) (Int.le_refl _) (Int.le_refl _)
/-- at the start: on foot from o at T, for nothing -/
theorem FEx.start {C : Int → Int → Int → Int → Prop} {k z : Int} {g1 g2 : Int → Int → Int} (N : Net n c W R) (ho : 0 ≤ o ∧ o < n) (hd : 0 ≤ d ∧ d < n) (hTL : T ≤ L) (hW : ∀ s s' m, W s s' m ↔ ∃ q, q < k ∧ C q s s' m) (hg : ∀ s, 0 ≤ s → s < n → ∀ x, g1 s x = if s = o ∧ T ≤ x then 0 else 1000000000) (q : WkE n C L d g1 g2 (if o = d then 0 else 1000000000) z o T 0 k) : FEx n c W R o T L d 0 g2 z := by
  obtain ⟨⟨q1, q2⟩, q3, q4, q5⟩ := q
  have ja : JA c W R o T L 0 o T 0 := ⟨rfl, rfl, rfl⟩
  refine ⟨⟨?_, ?_⟩, fun s s0 s1 x => ?_, fun j s t p hj h hl => ?_, fun j t p hj h => ?_, q4⟩
  · split at q1 <;> omega
  · rcases q2 with e | ⟨e, a, m, y1, y2, y3⟩
    · by_cases hod : o = d
      · rw [if_pos hod] at e
        exact Or.inr ⟨0, T, Nat.le_refl _, Or.inl (by rw [e, ← hod]; exact ja)⟩
      · rw [if_neg hod] at e
        exact Or.inl e
    · exact Or.inr ⟨0, T + m, Nat.le_refl _, Or.inr ⟨o, T, m, by rw [e]; exact ja, (hW _ _ _).mpr ⟨a, y1, y2⟩, rfl, y3⟩⟩
  · rcases (q3 s s0 s1 x).2 with e | ⟨e, a, m, y1, y2, y3, y4⟩
    · rw [e, hg s s0 s1 x]
      by_cases hs : s = o ∧ T ≤ x
      · rw [if_pos hs]
        exact Or.inr ⟨0, T, Nat.le_refl _, hs.2, o, T, ja, Or.inl ⟨hs.1, by simp⟩⟩
      · rw [if_neg hs]
        exact Or.inl rfl
    · rw [e]
      exact Or.inr ⟨0, T + m, Nat.le_refl _, y3, o, T, ja, Or.inr ⟨m, (hW _ _ _).mpr ⟨a, y1, y2⟩, rfl, y4⟩⟩
  · obtain rfl : j = 0 := by omega
    obtain ⟨s', t', ⟨rfl, rfl, rfl⟩, ⟨h1, h2⟩ | ⟨m, h1, h2, h3⟩⟩ := h
    · rw [if_pos rfl] at h2
      have h3 : t = t' := by omega
      subst h1
      subst h3
      have := (q3 s ho.1 ho.2 t).1
      rw [hg s ho.1 ho.2 t, if_pos ⟨rfl, Int.le_refl _⟩] at this
      exact Or.inr this
    · obtain ⟨a, y1, y2⟩ := (hW _ _ _).mp h1
      rw [h2]
      rcases q5 a s m y1 y2 (by omega) with y | y
      · exact Or.inl y.2
      · exact Or.inr y.2
  · obtain rfl : j = 0 := by omega
    rcases h with ⟨h1, h2, h3⟩ | ⟨s', t', m, ⟨rfl, rfl, rfl⟩, h2, h3, h4⟩
    · rw [if_pos h1.symm] at q1
      omega
    · obtain ⟨a, y1, y2⟩ := (hW _ _ _).mp h2
      rcases q5 a d m y1 y2 (by omega) with y | y
      · exact y.2
      · exact absurd rfl y.1
end FRE
