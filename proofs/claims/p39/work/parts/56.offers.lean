/-! ===== offers, as rows of numbers (no machine here) ===== -/
/-- the price at a time: that of the last offer that is no later -/
def pA (ts ps : Int → Int) : Nat → Int → Int
  | 0, _ => 1000000000
  | n + 1, x => if ts (n : Int) ≤ x then ps (n : Int) else pA ts ps n x
/-- the later, the cheaper -/
def Ofs (ts ps : Int → Int) (n : Int) : Prop := ∀ i j, 0 ≤ i → i < j → j < n → ts i < ts j ∧ ps j < ps i
section PAS
variable {ts ps ts' ps' : Int → Int} {n F N t p x x' lo up : Int}
theorem pA_cases : ∀ (n : Nat) (x : Int), (pA ts ps n x = 1000000000 ∧ ∀ i : Int, 0 ≤ i → i < n → x < ts i) ∨ ∃ k : Int, 0 ≤ k ∧ k < n ∧ ts k ≤ x ∧ (∀ i : Int, k < i → i < n → x < ts i) ∧ pA ts ps n x = ps k
  | 0, x => Or.inl ⟨rfl, fun i h0 h1 => by omega⟩
  | n + 1, x => by
    have e : pA ts ps (n + 1) x = if ts (n : Int) ≤ x then ps (n : Int) else pA ts ps n x := rfl
    rw [e]
    by_cases h : ts (n : Int) ≤ x
    · rw [if_pos h]
      exact Or.inr ⟨n, by omega, by omega, h, fun i h0 h1 => by omega, rfl⟩
    · rw [if_neg h]
      rcases pA_cases n x with ⟨h1, h2⟩ | ⟨k, h1, h2, h3, h4, h5⟩
      · refine Or.inl ⟨h1, fun i i0 i1 => ?_⟩
        by_cases hi : i = n
        · subst hi; omega
        · exact h2 i i0 (by omega)
      · refine Or.inr ⟨k, h1, by omega, h3, fun i i0 i1 => ?_, h5⟩
        by_cases hi : i = n
        · subst hi; omega
        · exact h4 i i0 (by omega)
theorem pA_at {n : Nat} {k : Int} (h0 : 0 ≤ k) (h1 : k < n) (h2 : ts k ≤ x) (h3 : ∀ i : Int, k < i → i < n → x < ts i) : pA ts ps n x = ps k := by
  rcases pA_cases (ts := ts) (ps := ps) n x with ⟨g1, g2⟩ | ⟨k', g1, g2, g3, g4, g5⟩
  · have := g2 k h0 h1
    omega
  · have : k' = k := by
      rcases Int.lt_trichotomy k' k with z | z | z
      · have := g4 k z h1
        omega
      · exact z
      · have := h3 k' z g2
        omega
    rw [g5, this]
theorem pA_no {n : Nat} (h : ∀ i : Int, 0 ≤ i → i < n → x < ts i) : pA ts ps n x = 1000000000 := by
  rcases pA_cases (ts := ts) (ps := ps) n x with ⟨g1, g2⟩ | ⟨k', g1, g2, g3, g4, g5⟩
  · exact g1
  · have := h k' g1 g2
    omega
theorem pA_congr : ∀ {n : Nat}, (∀ i : Int, 0 ≤ i → i < n → ts' i = ts i ∧ ps' i = ps i) → ∀ x, pA ts' ps' n x = pA ts ps n x
  | 0, _, _ => rfl
  | n + 1, h, x => by
    show (if ts' (n : Int) ≤ x then ps' (n : Int) else pA ts' ps' n x) = (if ts (n : Int) ≤ x then ps (n : Int) else pA ts ps n x)
    rw [(h n (by omega) (by omega)).1, (h n (by omega) (by omega)).2, pA_congr (fun i i0 i1 => h i i0 (by omega)) x]
theorem pA_le {n : Nat} (h : ∀ i : Int, 0 ≤ i → i < n → ps i < 1000000000) : pA ts ps n x ≤ 1000000000 := by
  rcases pA_cases (ts := ts) (ps := ps) n x with ⟨g1, g2⟩ | ⟨k', g1, g2, g3, g4, g5⟩
  · omega
  · have := h k' g1 g2
    omega
theorem pA_mono {n : Nat} (hs : Ofs ts ps n) (h : ∀ i : Int, 0 ≤ i → i < n → ps i < 1000000000) (hx : x ≤ x') : pA ts ps n x' ≤ pA ts ps n x := by
  rcases pA_cases (ts := ts) (ps := ps) n x with ⟨g1, g2⟩ | ⟨k, g1, g2, g3, g4, g5⟩
  · rw [g1]
    exact pA_le h
  · rcases pA_cases (ts := ts) (ps := ps) n x' with ⟨q1, q2⟩ | ⟨k', q1, q2, q3, q4, q5⟩
    · have := q2 k g1 g2
      omega
    · rw [g5, q5]
      rcases Int.lt_trichotomy k' k with z | z | z
      · have := q4 k z g2
        omega
      · rw [z]; exact Int.le_refl _
      · have := (hs k k' g1 z q2).2
        omega
/-- rows that grow stay few -/
theorem Ofs.few (hs : Ofs ts ps n) (hb : ∀ i, 0 ≤ i → i < n → lo ≤ ts i ∧ ts i ≤ up) (h0 : lo ≤ up) : n ≤ up - lo + 1 := by
  have key : ∀ k : Nat, (k : Int) < n → lo + k ≤ ts k := by
    intro k
    induction k with
    | zero =>
      intro hk
      have e : ((0 : Nat) : Int) = 0 := rfl
      rw [e] at hk ⊢
      have := hb 0 (by omega) hk
      omega
    | succ k ih =>
      intro hk
      have h1 := ih (by omega)
      have h2 := (hs k (k + 1) (by omega) (by omega) (by omega)).1
      have e : ((k + 1 : Nat) : Int) = (k : Int) + 1 := rfl
      rw [e]
      omega
  by_cases hn : n ≤ 0
  · omega
  · have h1 := key (n - 1).toNat (by omega)
    have h2 := hb ((n - 1).toNat : Int) (by omega) (by omega)
    omega
/-- an offer put in at F, in place of those from F to N -/
def OfP (ts ts' : Int → Int) (n F N t : Int) : Prop := (∀ j, 0 ≤ j → j < F → ts' j = ts j) ∧ ts' F = t ∧ ∀ j, 0 ≤ j → j < n - N → ts' (F + 1 + j) = ts (N + j)
theorem offer_math (hs : Ofs ts ps n) (hF : 0 ≤ F ∧ F ≤ n) (h1 : ∀ i, 0 ≤ i → i < F → ts i < t) (h2 : F = n ∨ t ≤ ts F) (hN : F ≤ N ∧ N ≤ n) (h3 : ∀ i, F ≤ i → i < N → p ≤ ps i) (h4 : N = n ∨ ps N < p) (hp : p < pA ts ps n.toNat t) (e1 : OfP ts ts' n F N t) (e2 : OfP ps ps' n F N p) (hpb : p < 1000000000) (hpp : ∀ i : Int, 0 ≤ i → i < n → ps i < 1000000000) :
    Ofs ts' ps' (n + (F + 1 - N)) ∧ ∀ x, pA ts' ps' (n + (F + 1 - N)).toNat x = if t ≤ x then min (pA ts ps n.toNat x) p else pA ts ps n.toNat x := by
  obtain ⟨a1, a2, a3⟩ := e1
  obtain ⟨b1, b2, b3⟩ := e2
  have hn : ((n.toNat : Nat) : Int) = n := by omega
  -- the one that was there
  have hq : (∀ i, 0 ≤ i → i < F → p < ps i) ∧ (F < n → ts F = t → p < ps F) := by
    rcases pA_cases (ts := ts) (ps := ps) n.toNat t with ⟨g1, g2⟩ | ⟨k, g1, g2, g3, g4, g5⟩
    · refine ⟨fun i i0 i1 => ?_, fun hf ht => ?_⟩
      · have := g2 i i0 (by omega)
        have := h1 i i0 i1
        omega
      · have := g2 F (by omega) (by omega)
        omega
    · rw [g5] at hp
      refine ⟨fun i i0 i1 => ?_, fun hf ht => ?_⟩
      · by_cases hk : i < k
        · have := (hs i k i0 hk (by omega)).2
          omega
        · by_cases hk2 : i = k
          · rw [hk2]; exact hp
          · have := g4 i (by omega) (by omega)
            have := h1 i i0 i1
            omega
      · by_cases hk : k = F
        · rw [← hk]; exact hp
        · by_cases hk2 : k < F
          · have := g4 F hk2 (by omega)
            omega
          · have := (hs F k (by omega) (by omega) (by omega)).1
            omega
  have hNt : N < n → t < ts N := fun hN' => by
    by_cases hFN : N = F
    · rcases h2 with z | z
      · omega
      · rw [hFN]
        by_cases hz : ts F = t
        · have := hq.2 (by omega) hz
          rcases h4 with y | y
          · omega
          · rw [hFN] at y; omega
        · omega
    · have := (hs F N (by omega) (by omega) (by omega)).1
      rcases h2 with z | z <;> omega
  have hNp : N < n → ps N < p := fun hN' => by rcases h4 with y | y <;> omega
  -- where an index of the new row comes from
  have src : ∀ i, 0 ≤ i → i < n + (F + 1 - N) → (i < F ∧ ts' i = ts i ∧ ps' i = ps i) ∨ (i = F ∧ ts' i = t ∧ ps' i = p) ∨ (F < i ∧ ts' i = ts (i - F - 1 + N) ∧ ps' i = ps (i - F - 1 + N)) := fun i i0 i1 => by
    rcases Int.lt_trichotomy i F with z | z | z
    · exact Or.inl ⟨z, a1 i i0 z, b1 i i0 z⟩
    · exact Or.inr (Or.inl ⟨z, by rw [z]; exact a2, by rw [z]; exact b2⟩)
    · refine Or.inr (Or.inr ⟨z, ?_, ?_⟩)
      · have := a3 (i - F - 1) (by omega) (by omega)
        rw [show F + 1 + (i - F - 1) = i by omega] at this
        rw [this, show N + (i - F - 1) = i - F - 1 + N by omega]
      · have := b3 (i - F - 1) (by omega) (by omega)
        rw [show F + 1 + (i - F - 1) = i by omega] at this
        rw [this, show N + (i - F - 1) = i - F - 1 + N by omega]
  have tail : ∀ i, N ≤ i → i < n → t < ts i ∧ ps i < p := fun i i0 i1 => by
    have z1 := hNt (by omega)
    have z2 := hNp (by omega)
    by_cases hi : i = N
    · rw [hi]; exact ⟨z1, z2⟩
    · have := hs N i (by omega) (by omega) i1
      omega
  refine ⟨fun i j i0 ij jn => ?_, fun x => ?_⟩
  · rcases src i i0 (by omega) with ⟨c1, c2, c3⟩ | ⟨c1, c2, c3⟩ | ⟨c1, c2, c3⟩ <;> rcases src j (by omega) jn with ⟨d1, d2, d3⟩ | ⟨d1, d2, d3⟩ | ⟨d1, d2, d3⟩ <;> rw [c2, c3, d2, d3]
    · exact hs i j i0 ij (by omega)
    · exact ⟨h1 i i0 c1, hq.1 i i0 c1⟩
    · have g1 := tail (j - F - 1 + N) (by omega) (by omega)
      have g2 := h1 i i0 c1
      have g3 := hq.1 i i0 c1
      exact ⟨by omega, by omega⟩
    · omega
    · omega
    · exact tail (j - F - 1 + N) (by omega) (by omega)
    · omega
    · omega
    · exact hs _ _ (by omega) (by omega) (by omega)
  · have hn' : (((n + (F + 1 - N)).toNat : Nat) : Int) = n + (F + 1 - N) := by omega
    by_cases htx : t ≤ x
    · rw [if_pos htx]
      by_cases hc : ∃ i, N ≤ i ∧ i < n ∧ ts i ≤ x
      · -- one behind it
        obtain ⟨i0, y0, y1, y2⟩ := hc
        rcases pA_cases (ts := ts) (ps := ps) n.toNat x with ⟨g1, g2⟩ | ⟨k, g1, g2, g3, g4, g5⟩
        · have := g2 i0 (by omega) (by omega)
          omega
        · have hk : N ≤ k := by
            by_cases z : N ≤ k
            · exact z
            · have := g4 i0 (by omega) (by omega)
              omega
          have s1 := src (k + F + 1 - N) (by omega) (by omega)
          have e : k + F + 1 - N - F - 1 + N = k := by omega
          rw [e] at s1
          rcases s1 with ⟨c1, -⟩ | ⟨c1, -⟩ | ⟨c1, c2, c3⟩
          · omega
          · omega
          · rw [pA_at (k := k + F + 1 - N) (by omega) (by omega) (by rw [c2]; exact g3) (fun i z0 z1 => ?_), c3, g5]
            · have := (tail k hk (by omega)).2
              omega
            · rcases src i (by omega) (by omega) with ⟨d1, -⟩ | ⟨d1, -⟩ | ⟨d1, d2, -⟩
              · omega
              · omega
              · rw [d2]
                exact g4 _ (by omega) (by omega)
      · have hc : ∀ i, N ≤ i → i < n → x < ts i := fun i z0 z1 => by
          rcases Int.lt_or_le x (ts i) with z | z
          · exact z
          · exact absurd ⟨i, z0, z1, z⟩ hc
        have s1 := src F (by omega) (by omega)
        have sF : ts' F = t ∧ ps' F = p := ⟨a2, b2⟩
        rw [pA_at (k := F) (by omega) (by omega) (by rw [a2]; exact htx) (fun i z0 z1 => ?_), b2]
        · rcases pA_cases (ts := ts) (ps := ps) n.toNat x with ⟨g1, g2⟩ | ⟨k, g1, g2, g3, g4, g5⟩
          · omega
          · have : p ≤ ps k := by
              by_cases z : k < F
              · have := hq.1 k g1 z
                omega
              · by_cases z2 : k < N
                · exact h3 k (by omega) z2
                · have := hc k (by omega) (by omega)
                  omega
            omega
        · rcases src i (by omega) (by omega) with ⟨d1, -⟩ | ⟨d1, -⟩ | ⟨d1, d2, -⟩
          · omega
          · omega
          · rw [d2]
            exact hc _ (by omega) (by omega)
    · rw [if_neg htx]
      rcases pA_cases (ts := ts) (ps := ps) n.toNat x with ⟨g1, g2⟩ | ⟨k, g1, g2, g3, g4, g5⟩
      · rw [g1]
        refine pA_no (fun i z0 z1 => ?_)
        rcases src i z0 (by omega) with ⟨d1, d2, -⟩ | ⟨d1, d2, -⟩ | ⟨d1, d2, -⟩
        · rw [d2]; exact g2 i z0 (by omega)
        · rw [d2]; omega
        · rw [d2]
          have := (tail (i - F - 1 + N) (by omega) (by omega)).1
          omega
      · have hk : k < F := by
          by_cases z : k < F
          · exact z
          · have : t ≤ ts k := by
              rcases h2 with y | y
              · omega
              · by_cases z2 : k = F
                · rw [z2]; exact y
                · have := (hs F k (by omega) (by omega) (by omega)).1
                  omega
            omega
        rw [g5, pA_at (k := k) g1 (by omega) (by rw [a1 k g1 hk]; exact g3) (fun i z0 z1 => ?_), b1 k g1 hk]
        rcases src i (by omega) (by omega) with ⟨d1, d2, -⟩ | ⟨d1, d2, -⟩ | ⟨d1, d2, -⟩
        · rw [d2]; exact g4 i z0 (by omega)
        · rw [d2]; omega
        · rw [d2]
          have := (tail (i - F - 1 + N) (by omega) (by omega)).1
          omega
end PAS
