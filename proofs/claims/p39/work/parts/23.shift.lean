/-! ===== begun earlier, ended earlier; fewer runs (no machine here) ===== -/
section SHF
variable {n : Int} {c : Int → Int} {W : Int → Int → Int → Prop} {R R' : Rn → Prop} {o T T' L L' d D : Int}
/-- begun at T' by L', it can be begun at T and be there by L -/
theorem JA.earlier (N : Net n c W R) (ho : 0 ≤ o ∧ o < n) (hT : T ≤ T') : ∀ (k : Nat) (s t p : Int), JA c W R o T' L' k s t p → t ≤ L → ∃ t1, t1 ≤ t ∧ JA c W R o T L k s t1 p := by
  intro k
  induction k with
  | zero => rintro s t p ⟨rfl, rfl, rfl⟩ h; exact ⟨T, hT, rfl, rfl, rfl⟩
  | succ k ih =>
    rintro s t p ⟨s0, t0, p0, r, i, j, ⟨s', t', ha, hb⟩, hR, h0, h1, h2, rfl, h4, rfl, rfl, h6, rfl⟩ hl
    have hdd := (N.2.2.2 r hR).2.2 i j h0 h1 h2
    have hc := N.1 s' (JA.range N ho _ _ _ _ ha).1 (JA.range N ho _ _ _ _ ha).2
    refine ⟨_, Int.le_refl _, ?_⟩
    rcases hb with ⟨h7, h8⟩ | ⟨m, hw, rfl, hl9⟩
    · obtain ⟨t1, g1, g2⟩ := ih s' t' p0 ha (by split at h8 <;> omega)
      exact ⟨_, t1 + (if k = 0 then 0 else c s'), p0, r, i, j, ⟨s', t1, g2, Or.inl ⟨h7, rfl⟩⟩, hR, h0, h1, h2, rfl, by omega, rfl, rfl, hl, rfl⟩
    · have := (N.2.1 _ _ _ hw).2.2.1
      obtain ⟨t1, g1, g2⟩ := ih s' t' p0 ha (by omega)
      exact ⟨_, t1 + m, p0, r, i, j, ⟨s', t1, g2, Or.inr ⟨m, hw, rfl, by omega⟩⟩, hR, h0, h1, h2, rfl, by omega, rfl, rfl, hl, rfl⟩
theorem JE.earlier (N : Net n c W R) (ho : 0 ≤ o ∧ o < n) (hT : T ≤ T') {k : Nat} {s t p : Int} (h : JE c W R o T' L' k s t p) (hl : t ≤ L) : ∃ t1, t1 ≤ t ∧ JE c W R o T L k s t1 p := by
  rcases h with h | ⟨s', t', m, ha, hw, rfl, -⟩
  · obtain ⟨t1, g1, g2⟩ := JA.earlier N ho hT k _ _ _ h hl
    exact ⟨t1, g1, Or.inl g2⟩
  · have := (N.2.1 _ _ _ hw).2.2.1
    obtain ⟨t1, g1, g2⟩ := JA.earlier (L := L) N ho hT k _ _ _ ha (by omega)
    exact ⟨t1 + m, by omega, Or.inr ⟨s', t1, m, g2, hw, rfl, by omega⟩⟩
/-- only runs between T and L are of use -/
theorem JA.runs (N : Net n c W R) (ho : 0 ≤ o ∧ o < n) (hc : ∀ r i j, R r → 0 ≤ i → i < j → j < rz r → T ≤ rd r i → ra r j ≤ L → R' r) : ∀ (k : Nat) (s t p : Int), JA c W R o T L k s t p → JA c W R' o T L k s t p := by
  intro k
  induction k with
  | zero => intro s t p h; exact h
  | succ k ih =>
    rintro s t p ⟨s0, t0, p0, r, i, j, ⟨s', t', ha, hb⟩, hR, h0, h1, h2, rfl, h4, rfl, rfl, h6, rfl⟩
    have hge := JA.ge N ho _ _ _ _ ha
    have hcc := N.1 s' (JA.range N ho _ _ _ _ ha).1 (JA.range N ho _ _ _ _ ha).2
    have h9 : T ≤ rd r i := by
      rcases hb with ⟨-, h8⟩ | ⟨m, hw, rfl, -⟩
      · split at h8 <;> omega
      · have := (N.2.1 _ _ _ hw).2.2.1
        omega
    exact ⟨_, t0, p0, r, i, j, ⟨s', t', ih _ _ _ ha, hb⟩, hc r i j hR h0 h1 h2 h9 h6, h0, h1, h2, rfl, h4, rfl, rfl, h6, rfl⟩
theorem JE.runs (N : Net n c W R) (ho : 0 ≤ o ∧ o < n) (hc : ∀ r i j, R r → 0 ≤ i → i < j → j < rz r → T ≤ rd r i → ra r j ≤ L → R' r) {k : Nat} {s t p : Int} (h : JE c W R o T L k s t p) : JE c W R' o T L k s t p := by
  rcases h with h | ⟨s', t', m, ha, hw, h1, h2⟩
  · exact Or.inl (JA.runs N ho hc k _ _ _ h)
  · exact Or.inr ⟨s', t', m, JA.runs N ho hc k _ _ _ ha, hw, h1, h2⟩
theorem JA.sub (hc : ∀ r, R' r → R r) : ∀ (k : Nat) (s t p : Int), JA c W R' o T L k s t p → JA c W R o T L k s t p := by
  intro k
  induction k with
  | zero => intro s t p h; exact h
  | succ k ih =>
    rintro s t p ⟨s0, t0, p0, r, i, j, ⟨s', t', ha, hb⟩, hR, h⟩
    exact ⟨s0, t0, p0, r, i, j, ⟨s', t', ih _ _ _ ha, hb⟩, hc r hR, h⟩
theorem JE.sub (hc : ∀ r, R' r → R r) {k : Nat} {s t p : Int} (h : JE c W R' o T L k s t p) : JE c W R o T L k s t p := by
  rcases h with h | ⟨s', t', m, ha, hw, h1, h2⟩
  · exact Or.inl (JA.sub hc k _ _ _ h)
  · exact Or.inr ⟨s', t', m, JA.sub hc k _ _ _ ha, hw, h1, h2⟩
/-- the least end of a journey with at most K rides: 1000000000 if there is none -/
def JL (c : Int → Int) (W : Int → Int → Int → Prop) (R : Rn → Prop) (o T L : Int) (K : Nat) (d e : Int) : Prop := (e = 1000000000 ∨ ∃ j p, j ≤ K ∧ JE c W R o T L j d e p) ∧ ∀ j t p, j ≤ K → JE c W R o T L j d t p → e ≤ t
theorem JL.uniq (hL : L < 1000000000) (hTL : T ≤ L) {K : Nat} {e e' : Int} (h : JL c W R o T L K d e) (h' : JL c W R o T L K d e') : e = e' := by
  obtain ⟨h1, h2⟩ := h
  obtain ⟨g1, g2⟩ := h'
  rcases h1 with rfl | ⟨j, p, hj, he⟩
  · rcases g1 with rfl | ⟨j', p', hj', he'⟩
    · rfl
    · have := h2 _ _ _ hj' he'
      have := JE.le hTL he'
      omega
  · have a := g2 _ _ _ hj he
    rcases g1 with rfl | ⟨j', p', hj', he'⟩
    · have := JE.le hTL he
      omega
    · have := h2 _ _ _ hj' he'
      omega
theorem Exact.le {k : Nat} {f y e : Int → Int} (E : Exact n c W R o T L k f y e) (hd : 0 ≤ d ∧ d < n) : JL c W R o T L k d (e d) := ⟨E.2.2.2.2.1 d hd.1 hd.2, fun j t p hj h => E.2.2.2.2.2.1 j d t p hj h⟩
theorem JL.runs (N : Net n c W R) (ho : 0 ≤ o ∧ o < n) (hs : ∀ r, R' r → R r) (hc : ∀ r i j, R r → 0 ≤ i → i < j → j < rz r → T ≤ rd r i → ra r j ≤ L → R' r) {K : Nat} {e : Int} (h : JL c W R' o T L K d e) : JL c W R o T L K d e := by
  refine ⟨h.1.imp id fun ⟨j, p, hj, he⟩ => ⟨j, p, hj, JE.sub hs he⟩, fun j t p hj he => h.2 j t p hj (JE.runs N ho hc he)⟩
end SHF
