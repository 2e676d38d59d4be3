/-! ===== a round of prices, bit by bit (no machine here) ===== -/
/-- from f, over the rides of R, for the pairs of Q: g0 and z0 became g and z -/
def FRg (n : Int) (c : Int → Int) (W : Int → Int → Int → Prop) (R : Rn → Prop) (Q : Rn → Int → Int → Prop) (L d : Int) (f g0 g : Int → Int → Int) (z0 z : Int) : Prop :=
  (z ≤ z0 ∧ (z = z0 ∨ ∃ s t, From n R L f s t z ∧ (s = d ∨ ∃ m, W s d m ∧ t + m ≤ L))) ∧
  (∀ s, 0 ≤ s → s < n → ∀ x, g s x ≤ g0 s x ∧ (g s x = g0 s x ∨ ∃ s' t, From n R L f s' t (g s x) ∧ ((s' = s ∧ t + c s ≤ x) ∨ ∃ m, W s' s m ∧ t + m ≤ x ∧ t + m ≤ L))) ∧
  (∀ s, 0 ≤ s → s < n → ∀ x x', x ≤ x' → g s x' ≤ g s x) ∧
  (∀ r i j, Q r i j → ra r j ≤ L → Done c W L d g z (rs r j) (ra r j) (f (rs r i) (rd r i) + rp r))
/-- behind a ride that ends at s at t at the price P -/
def AlE (n : Int) (c : Int → Int) (W : Int → Int → Int → Prop) (L d : Int) (g g' : Int → Int → Int) (z z' s t P : Int) : Prop :=
  (z' ≤ z ∧ (z' = z ∨ (z' = P ∧ (s = d ∨ ∃ m, W s d m ∧ t + m ≤ L)))) ∧
  (∀ s', 0 ≤ s' → s' < n → ∀ x, g' s' x ≤ g s' x ∧ (g' s' x = g s' x ∨ (g' s' x = P ∧ ((s = s' ∧ t + c s' ≤ x) ∨ ∃ m, W s s' m ∧ t + m ≤ x ∧ t + m ≤ L)))) ∧
  (∀ s', 0 ≤ s' → s' < n → ∀ x x', x ≤ x' → g' s' x' ≤ g' s' x) ∧ Done c W L d g' z' s t P
/-- on foot from s at t at the price P, along the ways of C below k -/
def WkE (n : Int) (C : Int → Int → Int → Int → Prop) (L d : Int) (g g' : Int → Int → Int) (z z' s t P k : Int) : Prop :=
  (z' ≤ z ∧ (z' = z ∨ (z' = P ∧ ∃ q m, q < k ∧ C q s d m ∧ t + m ≤ L))) ∧
  (∀ s', 0 ≤ s' → s' < n → ∀ x, g' s' x ≤ g s' x ∧ (g' s' x = g s' x ∨ (g' s' x = P ∧ ∃ q m, q < k ∧ C q s s' m ∧ t + m ≤ x ∧ t + m ≤ L))) ∧
  (∀ s', 0 ≤ s' → s' < n → ∀ x x', x ≤ x' → g' s' x' ≤ g' s' x) ∧
  (∀ q s' m, q < k → C q s s' m → t + m ≤ L → (s' = d ∧ z' ≤ P) ∨ (s' ≠ d ∧ g' s' (t + m) ≤ P))
section FRS
variable {n : Int} {c : Int → Int} {W : Int → Int → Int → Prop} {R R1 R2 : Rn → Prop} {Q Q1 Q2 : Rn → Int → Int → Prop} {L d : Int} {f g0 g1 g2 g g' : Int → Int → Int} {z0 z1 z2 z z' s t P P' : Int}
theorem Done.mono (N : Net n c W R) (hs : 0 ≤ s ∧ s < n) (hg : ∀ s, 0 ≤ s → s < n → ∀ x, g' s x ≤ g s x) (hz : z' ≤ z) (hP : P ≤ P') (q : Done c W L d g z s t P) : Done c W L d g' z' s t P' := by
  rcases q with q | ⟨q1, q2, q3⟩
  · exact Or.inl (by omega)
  · refine Or.inr ⟨q1, fun hl => ?_, fun s' m hw hl => ⟨(q3 s' m hw hl).1, ?_⟩⟩
    · have := q2 hl
      have := hg s hs.1 hs.2 (t + c s)
      omega
    · have := (q3 s' m hw hl).2
      have b := (N.2.1 _ _ _ hw).2.1
      have := hg s' b.1 b.2 (t + m)
      omega
theorem From.mono (h : ∀ r, R1 r → R r) (q : From n R1 L f s t P) : From n R L f s t P := by
  obtain ⟨r, i, j, hR, q⟩ := q
  exact ⟨r, i, j, h r hR, q⟩
theorem FRg.nil (hm : ∀ s, 0 ≤ s → s < n → ∀ x x', x ≤ x' → g s x' ≤ g s x) : FRg n c W R (fun _ _ _ => False) L d f g g z z :=
  ⟨⟨Int.le_refl _, Or.inl rfl⟩, fun s _ _ x => ⟨Int.le_refl _, Or.inl rfl⟩, hm, fun r i j h => h.elim⟩
theorem FRg.seq (N : Net n c W R) (h1 : ∀ r, R1 r → R r) (h2 : ∀ r, R2 r → R r) (hQ : ∀ r i j, Q r i j → Q1 r i j ∨ Q2 r i j) (hr : ∀ r i j, Q r i j → 0 ≤ rs r j ∧ rs r j < n) (a : FRg n c W R1 Q1 L d f g0 g1 z0 z1) (b : FRg n c W R2 Q2 L d f g1 g2 z1 z2) : FRg n c W R Q L d f g0 g2 z0 z2 := by
  obtain ⟨⟨a1, a2⟩, a3, a4, a5⟩ := a
  obtain ⟨⟨b1, b2⟩, b3, b4, b5⟩ := b
  refine ⟨⟨by omega, ?_⟩, fun s s0 s1 x => ⟨?_, ?_⟩, b4, fun r i j hq hl => ?_⟩
  · rcases b2 with e | ⟨s, t, q, q2⟩
    · rcases a2 with e2 | ⟨s, t, q, q2⟩
      · exact Or.inl (by omega)
      · exact Or.inr ⟨s, t, by rw [e]; exact q.mono h1, q2⟩
    · exact Or.inr ⟨s, t, q.mono h2, q2⟩
  · have := (a3 s s0 s1 x).1
    have := (b3 s s0 s1 x).1
    omega
  · rcases (b3 s s0 s1 x).2 with e | ⟨s', t, q, q2⟩
    · rcases (a3 s s0 s1 x).2 with e2 | ⟨s', t, q, q2⟩
      · exact Or.inl (by omega)
      · exact Or.inr ⟨s', t, by rw [e]; exact q.mono h1, q2⟩
    · exact Or.inr ⟨s', t, q.mono h2, q2⟩
  · rcases hQ r i j hq with z | z
    · exact (a5 r i j z hl).mono N (hr r i j hq) (fun s s0 s1 x => (b3 s s0 s1 x).1) b1 (Int.le_refl _)
    · exact b5 r i j z hl
/-- a ride's end, looked at -/
theorem FRg.alight {r : Rn} {i j ab : Int} (N : Net n c W R) (hr : R r) (hj : 0 ≤ i ∧ i < j ∧ j < rz r) (hab : ab = f (rs r i) (rd r i)) (hb : ab < 1000000000) (hle : ∀ i', 0 ≤ i' → i' < j → ab ≤ f (rs r i') (rd r i')) (hL : ra r j ≤ L) (e : AlE n c W L d g g' z z' (rs r j) (ra r j) (ab + rp r)) : FRg n c W (fun r' => r' = r) (fun r' i' j' => r' = r ∧ 0 ≤ i' ∧ i' < j' ∧ j' = j) L d f g g' z z' := by
  obtain ⟨⟨e1, e2⟩, e3, e4, e5⟩ := e
  have b := ((N.2.2.2 r hr).2.1 j (by omega) hj.2.2).1
  have fr : From n (fun r' => r' = r) L f (rs r j) (ra r j) (ab + rp r) := ⟨r, i, j, rfl, hj.1, hj.2.1, hj.2.2, by rw [← hab]; exact hb, rfl, rfl, hL, by rw [hab]⟩
  refine ⟨⟨e1, ?_⟩, fun s s0 s1 x => ⟨(e3 s s0 s1 x).1, ?_⟩, e4, ?_⟩
  · rcases e2 with y | ⟨y1, y2⟩
    · exact Or.inl y
    · exact Or.inr ⟨_, _, by rw [y1]; exact fr, y2⟩
  · rcases (e3 s s0 s1 x).2 with y | ⟨y1, y2⟩
    · exact Or.inl y
    · exact Or.inr ⟨_, _, by rw [y1]; exact fr, y2⟩
  · rintro r' i' j' ⟨rfl, q1, q2, rfl⟩ hl
    exact e5.mono N b (fun s _ _ x => Int.le_refl _) (Int.le_refl _) (by have := hle i' q1 q2; omega)
/-- .. and not worth a look -/
theorem FRg.pass {r : Rn} {j ab : Int} (hm : ∀ s, 0 ≤ s → s < n → ∀ x x', x ≤ x' → g s x' ≤ g s x) (hle : ∀ i', 0 ≤ i' → i' < j → ab ≤ f (rs r i') (rd r i')) (h : z ≤ ab + rp r) : FRg n c W (fun r' => r' = r) (fun r' i' j' => r' = r ∧ 0 ≤ i' ∧ i' < j' ∧ j' = j) L d f g g z z := by
  refine ⟨⟨Int.le_refl _, Or.inl rfl⟩, fun s _ _ x => ⟨Int.le_refl _, Or.inl rfl⟩, hm, ?_⟩
  rintro r' i' j' ⟨rfl, q1, q2, rfl⟩ hl
  exact Or.inl (by have := hle i' q1 q2; omega)
theorem FRg.round (q : FRg n c W R (fun r i j => R r ∧ 0 ≤ i ∧ i < j ∧ j < rz r) L d f f g z z') : FRound n c W R L d f g z z' :=
  ⟨q.1, q.2.1, q.2.2.1, fun r i j h0 h1 h2 h3 h4 => q.2.2.2 r i j ⟨h0, h1, h2, h3⟩ h4⟩
/-! on foot -/
theorem WkE.start {C : Int → Int → Int → Int → Prop} (hC : ∀ q s s' m, C q s s' m → 0 ≤ q) (hm : ∀ s, 0 ≤ s → s < n → ∀ x x', x ≤ x' → g s x' ≤ g s x) : WkE n C L d g g z z s t P 0 :=
  ⟨⟨Int.le_refl _, Or.inl rfl⟩, fun s' _ _ x => ⟨Int.le_refl _, Or.inl rfl⟩, hm, fun q s' m h0 h1 => by have := hC _ _ _ _ h1; omega⟩
/-- a way that leads nowhere, or too late -/
theorem WkE.skip {C : Int → Int → Int → Int → Prop} {k : Int} (q : WkE n C L d g g' z z' s t P k) (h : ∀ s' m, C k s s' m → L < t + m) : WkE n C L d g g' z z' s t P (k + 1) := by
  obtain ⟨⟨q1, q2⟩, q3, q4, q5⟩ := q
  refine ⟨⟨q1, q2.imp id (fun ⟨y, a, m, y1, y2⟩ => ⟨y, a, m, by omega, y2⟩)⟩, fun s' s0 s1 x => ⟨(q3 s' s0 s1 x).1, (q3 s' s0 s1 x).2.imp id (fun ⟨y, a, m, y1, y2⟩ => ⟨y, a, m, by omega, y2⟩)⟩, q4, fun a s' m h0 h1 h2 => ?_⟩
  by_cases ha : a = k
  · subst ha
    have := h s' m h1
    omega
  · exact q5 a s' m (by omega) h1 h2
/-- one that leads to d -/
theorem WkE.goal {C : Int → Int → Int → Int → Prop} {k m : Int} (q : WkE n C L d g g' z z' s t P k) (hc : C k s d m) (hl : t + m ≤ L) (hu : ∀ s' m', C k s s' m' → s' = d ∧ m' = m) : WkE n C L d g g' z (min z' P) s t P (k + 1) := by
  obtain ⟨⟨q1, q2⟩, q3, q4, q5⟩ := q
  refine ⟨⟨by omega, ?_⟩, fun s' s0 s1 x => ⟨(q3 s' s0 s1 x).1, (q3 s' s0 s1 x).2.imp id (fun ⟨y, a, m, y1, y2⟩ => ⟨y, a, m, by omega, y2⟩)⟩, q4, fun a s' m h0 h1 h2 => ?_⟩
  · by_cases hz : z' ≤ P
    · rw [show min z' P = z' by omega]
      exact q2.imp id (fun ⟨y, a, m, y1, y2⟩ => ⟨y, a, m, by omega, y2⟩)
    · exact Or.inr ⟨by omega, k, m, by omega, hc, hl⟩
  · by_cases ha : a = k
    · subst ha
      exact Or.inl ⟨(hu s' m h1).1, by omega⟩
    · rcases q5 a s' m (by omega) h1 h2 with y | y
      · exact Or.inl ⟨y.1, by omega⟩
      · exact Or.inr y
/-- one to another stop b, where it is offered -/
theorem WkE.step {C : Int → Int → Int → Int → Prop} {k m b : Int} (hn : ∀ q s' m, q < k → C q s s' m → 0 ≤ s' ∧ s' < n) (q : WkE n C L d g g1 z z' s t P k) (hc : C k s b m) (hl : t + m ≤ L) (hbd : b ≠ d) (hb : 0 ≤ b ∧ b < n) (hu : ∀ s' m', C k s s' m' → s' = b ∧ m' = m) (hs : ∀ s', 0 ≤ s' → s' < n → s' ≠ b → ∀ x, g2 s' x = g1 s' x) (hg : ∀ x, g2 b x = if t + m ≤ x then min (g1 b x) P else g1 b x) : WkE n C L d g g2 z z' s t P (k + 1) := by
  obtain ⟨⟨q1, q2⟩, q3, q4, q5⟩ := q
  have le : ∀ s', 0 ≤ s' → s' < n → ∀ x, g2 s' x ≤ g1 s' x := fun s' s0 s1 x => by
    by_cases h : s' = b
    · subst h
      rw [hg x]
      split <;> omega
    · rw [hs s' s0 s1 h x]; exact Int.le_refl _
  refine ⟨⟨q1, q2.imp id (fun ⟨y, a, m, y1, y2⟩ => ⟨y, a, m, by omega, y2⟩)⟩, fun s' s0 s1 x => ⟨?_, ?_⟩, fun s' s0 s1 x x' hx => ?_, fun a s' m' h0 h1 h2 => ?_⟩
  · have := (q3 s' s0 s1 x).1
    have := le s' s0 s1 x
    omega
  · have old : g2 s' x = g1 s' x → (g2 s' x = g s' x ∨ (g2 s' x = P ∧ ∃ q m, q < k + 1 ∧ C q s s' m ∧ t + m ≤ x ∧ t + m ≤ L)) := fun e => by
      rw [e]
      exact (q3 s' s0 s1 x).2.imp id (fun ⟨y, a, m, y1, y2⟩ => ⟨y, a, m, by omega, y2⟩)
    by_cases h : s' = b
    · subst h
      by_cases hx : t + m ≤ x
      · by_cases hz : g1 s' x ≤ P
        · exact old (by rw [hg x, if_pos hx]; omega)
        · exact Or.inr ⟨by rw [hg x, if_pos hx]; omega, k, m, by omega, hc, hx, hl⟩
      · exact old (by rw [hg x, if_neg hx])
    · exact old (hs s' s0 s1 h x)
  · by_cases h : s' = b
    · subst h
      have := q4 s' s0 s1 x x' hx
      rw [hg x, hg x']
      split <;> split <;> omega
    · rw [hs s' s0 s1 h x, hs s' s0 s1 h x']
      exact q4 s' s0 s1 x x' hx
  · by_cases ha : a = k
    · subst ha
      obtain ⟨rfl, rfl⟩ := hu s' m' h1
      refine Or.inr ⟨hbd, ?_⟩
      rw [hg, if_pos (Int.le_refl _)]
      omega
    · rcases q5 a s' m' (by omega) h1 h2 with y | y
      · exact Or.inl y
      · refine Or.inr ⟨y.1, ?_⟩
        have h := hn a s' m' (by omega) h1
        have := le s' h.1 h.2 (t + m')
        omega
/-- on foot, as a whole, behind what is offered at the stop itself -/
theorem AlE.of {C : Int → Int → Int → Int → Prop} {k : Int} (hW : ∀ s s' m, W s s' m ↔ ∃ q, q < k ∧ C q s s' m) (hsd : s ≠ d) (hs : 0 ≤ s ∧ s < n) (h1 : (L < t + c s ∧ ∀ s', 0 ≤ s' → s' < n → ∀ x, g1 s' x = g s' x) ∨ (t + c s ≤ L ∧ (∀ s', 0 ≤ s' → s' < n → s' ≠ s → ∀ x, g1 s' x = g s' x) ∧ ∀ x, g1 s x = if t + c s ≤ x then min (g s x) P else g s x)) (q : WkE n C L d g1 g2 z z' s t P k) : AlE n c W L d g g2 z z' s t P := by
  obtain ⟨⟨q1, q2⟩, q3, q4, q5⟩ := q
  have le1 : ∀ s', 0 ≤ s' → s' < n → ∀ x, g1 s' x ≤ g s' x ∧ (g1 s' x = g s' x ∨ (g1 s' x = P ∧ s = s' ∧ t + c s' ≤ x)) := fun s' s0 s1 x => by
    rcases h1 with ⟨-, h⟩ | ⟨h2, h3, h4⟩
    · rw [h s' s0 s1 x]; exact ⟨Int.le_refl _, Or.inl rfl⟩
    · by_cases e : s' = s
      · subst e
        rw [h4 x]
        by_cases hx : t + c s' ≤ x
        · rw [if_pos hx]
          refine ⟨by omega, ?_⟩
          by_cases hz : g s' x ≤ P
          · exact Or.inl (by omega)
          · exact Or.inr ⟨by omega, rfl, hx⟩
        · rw [if_neg hx]; exact ⟨Int.le_refl _, Or.inl rfl⟩
      · rw [h3 s' s0 s1 e x]; exact ⟨Int.le_refl _, Or.inl rfl⟩
  refine ⟨⟨q1, q2.imp id (fun ⟨y, a, m, y1, y2, y3⟩ => ⟨y, Or.inr ⟨m, (hW _ _ _).mpr ⟨a, y1, y2⟩, y3⟩⟩)⟩, fun s' s0 s1 x => ⟨?_, ?_⟩, q4, ?_⟩
  · have := (q3 s' s0 s1 x).1
    have := (le1 s' s0 s1 x).1
    omega
  · rcases (q3 s' s0 s1 x).2 with e | ⟨y, a, m, y1, y2, y3, y4⟩
    · rcases (le1 s' s0 s1 x).2 with e1 | ⟨e1, e2, e3⟩
      · exact Or.inl (by omega)
      · exact Or.inr ⟨by omega, Or.inl ⟨e2, e3⟩⟩
    · exact Or.inr ⟨y, Or.inr ⟨m, (hW _ _ _).mpr ⟨a, y1, y2⟩, y3, y4⟩⟩
  · by_cases hz : z' ≤ P
    · exact Or.inl hz
    · refine Or.inr ⟨hsd, fun hl => ?_, fun s' m hw hl => ?_⟩
      · rcases h1 with ⟨h, -⟩ | ⟨-, -, h4⟩
        · omega
        · have := (q3 s hs.1 hs.2 (t + c s)).1
          have e := h4 (t + c s)
          rw [if_pos (Int.le_refl _)] at e
          omega
      · obtain ⟨a, y1, y2⟩ := (hW _ _ _).mp hw
        rcases q5 a s' m y1 y2 hl with y | y
        · omega
        · exact y
/-- at d itself -/
theorem AlE.goal (hm : ∀ s, 0 ≤ s → s < n → ∀ x x', x ≤ x' → g s x' ≤ g s x) (hsd : s = d) : AlE n c W L d g g z (min z P) s t P :=
  ⟨⟨by omega, by
    by_cases hz : z ≤ P
    · exact Or.inl (by omega)
    · exact Or.inr ⟨by omega, Or.inl hsd⟩⟩, fun s' _ _ x => ⟨Int.le_refl _, Or.inl rfl⟩, hm, Or.inl (by omega)⟩
end FRS
