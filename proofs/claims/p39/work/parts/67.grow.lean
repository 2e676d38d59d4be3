/-! ===== what grows it: a stop, a footway, a calendar, a trip, a call; what is told (no machine here) ===== -/
theorem fm.put {P R : Nat → Prop} {h h1 : Hp} {a : Nat} {k v : Int} (e : fm P R h h1) (ha : nx h ≤ a ∨ P a) : fm P R h (setI h1 a k v) := by
  obtain ⟨e1, e2, e3, e4, e5, e6⟩ := e
  refine ⟨e1, e2, fun x j hx hP => ?_, e4, e5, e6⟩
  have hne : x ≠ a := fun z => by
    rcases ha with y | y
    · omega
    · exact hP (by rw [z]; exact y)
  rw [hi_setI_ne hne]
  exact e3 x j hx hP
theorem fm.putR {P R : Nat → Prop} {h h1 : Hp} {a : Nat} {k : Int} {v : Option Nat} (e : fm P R h h1) (ha : nx h ≤ a ∨ R a) : fm P R h (setR h1 a k v) := by
  obtain ⟨e1, e2, e3, e4, e5, e6⟩ := e
  refine ⟨e1, e2, e3, fun x j hx hR => ?_, e5, e6⟩
  have hne : x ≠ a := fun z => by
    rcases ha with y | y
    · omega
    · exact hR (by rw [z]; exact y)
  rw [hr_setR, up2_ne _ _ (fun z => hne z.1)]
  exact e4 x j hx hR
/-- one call more -/
def apT (h : Hp) (a : Nat) (s x y : Int) : Hp := setI (setI (setI (setI h (a + 1) (hi h a 7) s) (a + 2) (hi h a 7) x) (a + 3) (hi h a 7) y) a 7 (hi h a 7 + 1)
section GTG
variable {h h1 : Hp} {w Y X : Nat}
theorem TT.stop {c : Int} (q : TT h w X) (hc : 0 ≤ c ∧ c ≤ 30) (hn : hi h (w + 1) 4 < 16) (z5 : hi h (w + 1) 5 = 0) (z7 : hi h (w + 1) 7 = 0) : TT (setI (setI h (w + 2) (hi h (w + 1) 4) c) (w + 1) 4 (hi h (w + 1) 4 + 1)) w X := by
  obtain ⟨p1, p2, p3, p4, p5, p6, p7, p8⟩ := q
  have e1 : ∀ k, k ≠ 4 → hi (setI (setI h (w + 2) (hi h (w + 1) 4) c) (w + 1) 4 (hi h (w + 1) 4 + 1)) (w + 1) k = hi h (w + 1) k := fun k hk => by rw [hi_upF, upF_ne _ hk, hi_setI_ne (by omega)]
  have e4 : hi (setI (setI h (w + 2) (hi h (w + 1) 4) c) (w + 1) 4 (hi h (w + 1) 4 + 1)) (w + 1) 4 = hi h (w + 1) 4 + 1 := by rw [hi_upF, upF_same]
  refine ⟨by rw [e4]; omega, by rw [e1 5 (by decide)]; exact p2, by rw [e1 7 (by decide)]; exact p3, fun k => ?_, fun i z0 z1 => ?_, fun t z0 z1 => ?_, p7, p8⟩
  · rw [hi_setI_ne (by omega), hi_upF]
    by_cases hk : k = hi h (w + 1) 4
    · rw [hk, upF_same]; exact hc
    · rw [upF_ne _ hk]; exact p4 k
  · rw [e1 5 (by decide)] at z1; omega
  · rw [e1 7 (by decide)] at z1; omega
theorem GT.stop {c : Int} (q : GT h w Y X) (hc : 0 ≤ c ∧ c ≤ 30) (hn : hi h (w + 1) 4 < 16) (z5 : hi h (w + 1) 5 = 0) (z6 : hi h (w + 1) 6 = 0) (z7 : hi h (w + 1) 7 = 0) : GT (setI (setI h (w + 2) (hi h (w + 1) 4) c) (w + 1) 4 (hi h (w + 1) 4 + 1)) w Y X := by
  obtain ⟨qT, qY, q6, qc, qf, qt, o1, o2, o3⟩ := q
  have e1 : ∀ k, k ≠ 4 → hi (setI (setI h (w + 2) (hi h (w + 1) 4) c) (w + 1) 4 (hi h (w + 1) 4 + 1)) (w + 1) k = hi h (w + 1) k := fun k hk => by rw [hi_upF, upF_ne _ hk, hi_setI_ne (by omega)]
  refine ⟨qT.stop hc hn z5 z7, qY, by rw [e1 6 (by decide)]; exact q6, fun i z0 z1 => ?_, fun i z0 z1 => ?_, fun t z0 z1 => ?_, fun i j z0 z1 z2 => ?_, fun s t z0 z1 z2 => ?_, fun i t z0 z1 z2 z3 => ?_⟩
  · rw [e1 6 (by decide)] at z1; omega
  · rw [e1 5 (by decide)] at z1; omega
  · rw [e1 7 (by decide)] at z1; omega
  · rw [e1 6 (by decide)] at z2; omega
  · rw [e1 7 (by decide)] at z2; omega
  · rw [e1 6 (by decide)] at z1; omega
/-- a list of references grows by one: the others stay -/
theorem GT.base (q : GT h w Y X) (e : fm nP nP h h1) : GT h1 w Y (nx h) ∧ (∀ a, a < nx h → kd h1 a = kd h a ∧ hi h1 a = hi h a ∧ hr h1 a = hr h a) := by
  have hX := q.1.2.2.2.2.2.2
  have g := (q.eq (EqOn.of e hX.1 (by omega) (fun a z => z.elim) (fun a z => z.elim))).1
  exact ⟨g.up hX.1 e.1, fun a ha => ⟨(e.2.1 a ha).1, funext fun k => e.2.2.1 a k ha (fun z => z), funext fun k => e.2.2.2.1 a k ha (fun z => z)⟩⟩
theorem GT.foot {s o m : Int} (q : GT h w Y X) (f : FwN h h1 s o m) (hs : 0 ≤ s ∧ s < hi h (w + 1) 4) (ho : 0 ≤ o ∧ o < hi h (w + 1) 4) (hm : 1 ≤ m ∧ m ≤ 60) (hn : hi h (w + 1) 5 < 20) (z6 : hi h (w + 1) 6 = 0) (z7 : hi h (w + 1) 7 = 0) : GT (setI (setR h1 (w + 3) (hi h (w + 1) 5) (some (nx h))) (w + 1) 5 (hi h (w + 1) 5 + 1)) w Y (nx h1) := by
  obtain ⟨e, n1, -, k1, v0, v1, v2⟩ := f
  have hXn := q.1.2.2.2.2.2.2
  obtain ⟨g, old⟩ := q.base e
  have i1 : hi h1 (w + 1) = hi h (w + 1) := (old _ (by omega)).2.1
  generalize hg : setI (setR h1 (w + 3) (hi h (w + 1) 5) (some (nx h))) (w + 1) 5 (hi h (w + 1) 5 + 1) = h'
  have ekd : kd h' = kd h1 := by rw [← hg]; rfl
  have enx : nx h' = nx h1 := by rw [← hg]; rfl
  have e1 : ∀ k, k ≠ 5 → hi h' (w + 1) k = hi h (w + 1) k := fun k hk => by rw [← hg, hi_upF, upF_ne _ hk, ← i1]; rfl
  have e5 : hi h' (w + 1) 5 = hi h (w + 1) 5 + 1 := by rw [← hg, hi_upF, upF_same]
  have eo : ∀ a, a ≠ w + 1 → hi h' a = hi h1 a := fun a ha => by rw [← hg, hi_setI_ne ha]; rfl
  have er : ∀ a, a ≠ w + 3 → hr h' a = hr h1 a := fun a ha => funext fun k => by rw [← hg, hr_setI, hr_setR, up2_ne _ _ (fun z => ha z.1)]
  have e3 : ∀ i, i ≠ hi h (w + 1) 5 → hr h' (w + 3) i = hr h1 (w + 3) i := fun i hi_ => by rw [← hg, hr_setI, hr_setR, up2_ne _ _ (fun z => hi_ z.2)]
  have e3n : hr h' (w + 3) (hi h (w + 1) 5) = some (nx h) := by rw [← hg, hr_setI, hr_setR, up2_same]
  obtain ⟨qT, ⟨qY, qX⟩, q6, qc, qf, qt, o1, o2, o3⟩ := g
  obtain ⟨p1, p2, p3, p4, p5, p6, p7, p8⟩ := qT
  rw [i1] at p1 p2 p3 p5 qf q6
  have hT' : TT h' w (nx h1) := by
    refine ⟨by rw [e1 4 (by decide)]; exact p1, by rw [e5]; omega, by rw [e1 7 (by decide)]; exact p3, fun k => by rw [eo _ (by omega)]; exact p4 k, fun i z0 z1 => ?_, fun t z0 z1 => by rw [e1 7 (by decide)] at z1; omega, by rw [enx]; exact Nat.le_refl _, by omega⟩
    rw [e5] at z1
    rw [e1 4 (by decide)]
    by_cases hi_ : i = hi h (w + 1) 5
    · rw [hi_]
      refine ⟨nx h, e3n, by omega, by omega, by rw [ekd]; exact k1, ?_⟩
      rw [eo _ (by omega), v0, v1, v2]
      exact ⟨hs, ho, hm⟩
    · obtain ⟨a, y1, y2, y3, y4, y5⟩ := p5 i z0 (by omega)
      refine ⟨a, (e3 i hi_).trans y1, y2, by omega, by rw [ekd]; exact y4, ?_⟩
      rw [eo _ (by omega)]
      exact y5
  refine ⟨hT', ⟨qY, by omega⟩, by rw [e1 6 (by decide)]; exact q6, fun i z0 z1 => by rw [e1 6 (by decide)] at z1; omega, fun i z0 z1 => ?_, fun t z0 z1 => by rw [e1 7 (by decide)] at z1; omega, fun i j z0 z1 z2 => by rw [e1 6 (by decide)] at z2; omega, fun s t z0 z1 z2 => by rw [e1 7 (by decide)] at z2; omega, fun i t z0 z1 z2 z3 => by rw [e1 6 (by decide)] at z1; omega⟩
  rw [e5] at z1
  unfold fwA
  by_cases hi_ : i = hi h (w + 1) 5
  · rw [hi_, e3n]
    show Y ≤ nx h
    omega
  · rw [e3 i hi_]
    exact qf i z0 (by omega)
theorem GT.cal {wd fi la : Int} (q : GT h w Y X) (f : CaN h h1 wd fi la) (hn : hi h (w + 1) 6 < 6) (z7 : hi h (w + 1) 7 = 0) : GT (setI (setR h1 (w + 4) (hi h (w + 1) 6) (some (nx h))) (w + 1) 6 (hi h (w + 1) 6 + 1)) w Y (nx h1) ∧ caA (setI (setR h1 (w + 4) (hi h (w + 1) 6) (some (nx h))) (w + 1) 6 (hi h (w + 1) 6 + 1)) w (hi h (w + 1) 6) = nx h ∧ ∀ i, 0 ≤ i → i < hi h (w + 1) 6 → caA (setI (setR h1 (w + 4) (hi h (w + 1) 6) (some (nx h))) (w + 1) 6 (hi h (w + 1) 6 + 1)) w i = caA h w i := by
  obtain ⟨e, n1, -, k1, v0, v1⟩ := f
  have hXn := q.1.2.2.2.2.2.2
  obtain ⟨g, old⟩ := q.base e
  have i1 : hi h1 (w + 1) = hi h (w + 1) := (old _ (by omega)).2.1
  have r4 : hr h1 (w + 4) = hr h (w + 4) := (old _ (by omega)).2.2
  have qc0 := q.2.2.2.1
  generalize hg : setI (setR h1 (w + 4) (hi h (w + 1) 6) (some (nx h))) (w + 1) 6 (hi h (w + 1) 6 + 1) = h'
  have ekd : kd h' = kd h1 := by rw [← hg]; rfl
  have eln : ln h' = ln h1 := by rw [← hg]; rfl
  have enx : nx h' = nx h1 := by rw [← hg]; rfl
  have e1 : ∀ k, k ≠ 6 → hi h' (w + 1) k = hi h (w + 1) k := fun k hk => by rw [← hg, hi_upF, upF_ne _ hk, ← i1]; rfl
  have e6 : hi h' (w + 1) 6 = hi h (w + 1) 6 + 1 := by rw [← hg, hi_upF, upF_same]
  have eo : ∀ a, a ≠ w + 1 → hi h' a = hi h1 a := fun a ha => by rw [← hg, hi_setI_ne ha]; rfl
  have er : ∀ a, a ≠ w + 4 → hr h' a = hr h1 a := fun a ha => funext fun k => by rw [← hg, hr_setI, hr_setR, up2_ne _ _ (fun z => ha z.1)]
  have e4 : ∀ i, i ≠ hi h (w + 1) 6 → hr h' (w + 4) i = hr h (w + 4) i := fun i hi_ => by rw [← hg, hr_setI, hr_setR, up2_ne _ _ (fun z => hi_ z.2), r4]
  have e4n : hr h' (w + 4) (hi h (w + 1) 6) = some (nx h) := by rw [← hg, hr_setI, hr_setR, up2_same]
  have cn : caA h' w (hi h (w + 1) 6) = nx h := by unfold caA; rw [e4n]; rfl
  have co : ∀ i, i ≠ hi h (w + 1) 6 → caA h' w i = caA h w i := fun i hi_ => by unfold caA; rw [e4 i hi_]
  have cok : ∀ a, CalOk h1 a → a ≠ w + 4 → CalOk h' a := fun a z hne => by
    unfold CalOk
    rw [ekd, eln, er a hne]
    exact z
  obtain ⟨qT, ⟨qY, qX⟩, q6, qc, qf, qt, o1, o2, o3⟩ := g
  obtain ⟨p1, p2, p3, p4, p5, p6, p7, p8⟩ := qT
  rw [i1] at p1 p2 p3 p5 qf q6 qc o1
  have eca : ∀ i, caA h1 w i = caA h w i := fun i => by unfold caA; rw [r4]
  have hT' : TT h' w (nx h1) := by
    refine ⟨by rw [e1 4 (by decide)]; exact p1, by rw [e1 5 (by decide)]; exact p2, by rw [e1 7 (by decide)]; exact p3, fun k => by rw [eo _ (by omega)]; exact p4 k, fun i z0 z1 => ?_, fun t z0 z1 => by rw [e1 7 (by decide)] at z1; omega, by rw [enx]; exact Nat.le_refl _, by omega⟩
    rw [e1 5 (by decide)] at z1
    rw [e1 4 (by decide), er _ (by omega)]
    obtain ⟨a, y1, y2, y3, y4, y5⟩ := p5 i z0 z1
    refine ⟨a, y1, y2, by omega, by rw [ekd]; exact y4, ?_⟩
    rw [eo _ (by omega)]
    exact y5
  refine ⟨⟨hT', ⟨qY, by omega⟩, by rw [e6]; omega, fun i z0 z1 => ?_, fun i z0 z1 => ?_, fun t z0 z1 => by rw [e1 7 (by decide)] at z1; omega, fun i j z0 z1 z2 => ?_, fun s t z0 z1 z2 => by rw [e1 7 (by decide)] at z2; omega, fun i t z0 z1 z2 z3 => by rw [e1 7 (by decide)] at z3; omega⟩, cn, fun i z0 z1 => co i (by omega)⟩
  · rw [e6] at z1
    by_cases hi_ : i = hi h (w + 1) 6
    · rw [hi_, cn]
      exact ⟨e4n, ⟨by omega, by omega⟩, cok _ k1 (by omega)⟩
    · have y := qc i z0 (by omega)
      rw [eca] at y
      rw [co i hi_, e4 i hi_, ← r4]
      exact ⟨y.1, ⟨y.2.1.1, by omega⟩, cok _ y.2.2 (by omega)⟩
  · rw [e1 5 (by decide)] at z1
    have := qf i z0 z1
    unfold fwA at *
    rw [er _ (by omega)]
    exact this
  · rw [e6] at z2
    rw [co i (by omega)]
    by_cases hj : j = hi h (w + 1) 6
    · rw [hj, cn]
      exact Nat.le_trans (qc0 i z0 (by omega)).2.1.2 hXn.1
    · rw [co j hj]
      have := o1 i j z0 z1 (by omega)
      rw [eca, eca] at this
      exact this
theorem GT.trip {st dp p c : Int} (q : GT h w Y X) (f : TrN h h1 (hi h (w + 1) 7) p (caA h w c)) (hs : 0 ≤ st ∧ st < hi h (w + 1) 4) (hd : 0 ≤ dp ∧ dp ≤ 2879) (hp : 0 ≤ p ∧ p ≤ 500) (hc : 0 ≤ c ∧ c < hi h (w + 1) 6) (hn : hi h (w + 1) 7 < 24) : GT (setI (setR (apT h1 (nx h) st dp dp) (w + 5) (hi h (w + 1) 7) (some (nx h))) (w + 1) 7 (hi h (w + 1) 7 + 1)) w Y (nx h1) ∧ (adT (setI (setR (apT h1 (nx h) st dp dp) (w + 5) (hi h (w + 1) 7) (some (nx h))) (w + 1) 7 (hi h (w + 1) 7 + 1)) w (hi h (w + 1) 7) = nx h) ∧ (∀ t, 0 ≤ t → t < hi h (w + 1) 7 → adT (setI (setR (apT h1 (nx h) st dp dp) (w + 5) (hi h (w + 1) 7) (some (nx h))) (w + 1) 7 (hi h (w + 1) 7 + 1)) w t = adT h w t) := by
  obtain ⟨e, n1, -, k1, ⟨r1, r3, r4, r5, r6⟩, ⟨v0, v2, v7⟩, ⟨⟨a1, b1⟩, ⟨a2, b2⟩, ⟨a3, b3⟩, a4, b4⟩, zz⟩ := f
  have hXn := q.1.2.2.2.2.2.2
  obtain ⟨g, old⟩ := q.base e
  have i1 : hi h1 (w + 1) = hi h (w + 1) := (old _ (by omega)).2.1
  have r5o : hr h1 (w + 5) = hr h (w + 5) := (old _ (by omega)).2.2
  have qc0 := q.2.2.2.1
  have qt0 := q.2.2.2.2.2.1
  have qT0 := q.1
  generalize hg : setI (setR (apT h1 (nx h) st dp dp) (w + 5) (hi h (w + 1) 7) (some (nx h))) (w + 1) 7 (hi h (w + 1) 7 + 1) = h'
  have ekd : kd h' = kd h1 := by rw [← hg]; rfl
  have eln : ln h' = ln h1 := by rw [← hg]; rfl
  have enx : nx h' = nx h1 := by rw [← hg]; rfl
  have eo : ∀ a, a ≠ w + 1 → a < nx h → hi h' a = hi h1 a := fun a ha hl => by
    rw [← hg, hi_setI_ne ha]
    show hi (apT h1 (nx h) st dp dp) a = _
    unfold apT
    rw [hi_setI_ne (by omega), hi_setI_ne (by omega), hi_setI_ne (by omega), hi_setI_ne (by omega)]
  have e1 : ∀ k, k ≠ 7 → hi h' (w + 1) k = hi h (w + 1) k := fun k hk => by
    rw [← hg, hi_upF, upF_ne _ hk]
    show hi (apT h1 (nx h) st dp dp) (w + 1) k = _
    unfold apT
    rw [hi_setI_ne (by omega), hi_setI_ne (by omega), hi_setI_ne (by omega), hi_setI_ne (by omega), i1]
  have e7 : hi h' (w + 1) 7 = hi h (w + 1) 7 + 1 := by rw [← hg, hi_upF, upF_same]
  have er : ∀ a, a ≠ w + 5 → hr h' a = hr h1 a := fun a ha => funext fun k => by rw [← hg, hr_setI, hr_setR, up2_ne _ _ (fun z => ha z.1)]; rfl
  have e5 : ∀ i, i ≠ hi h (w + 1) 7 → hr h' (w + 5) i = hr h (w + 5) i := fun i hi_ => by
    rw [← hg, hr_setI, hr_setR, up2_ne _ _ (fun z => hi_ z.2), ← r5o]
    rfl
  have e5n : hr h' (w + 5) (hi h (w + 1) 7) = some (nx h) := by rw [← hg, hr_setI, hr_setR, up2_same]
  have an : adT h' w (hi h (w + 1) 7) = nx h := by unfold adT; rw [e5n]; rfl
  have ao : ∀ i, i ≠ hi h (w + 1) 7 → adT h' w i = adT h w i := fun i hi_ => by unfold adT; rw [e5 i hi_]
  -- the new one's numbers
  have m7 : hi h' (nx h) 7 = 1 := by
    rw [← hg, hi_setI_ne (by omega)]
    show hi (apT h1 (nx h) st dp dp) (nx h) 7 = _
    unfold apT
    rw [hi_upF, upF_same, v7]
    rfl
  have mo : ∀ k, k ≠ 7 → hi h' (nx h) k = hi h1 (nx h) k := fun k hk => by
    rw [← hg, hi_setI_ne (by omega)]
    show hi (apT h1 (nx h) st dp dp) (nx h) k = _
    unfold apT
    rw [hi_upF, upF_ne _ hk, hi_setI_ne (by omega), hi_setI_ne (by omega), hi_setI_ne (by omega)]
  have m1 : hi h' (nx h + 1) 0 = st := by
    rw [← hg, hi_setI_ne (by omega)]
    show hi (apT h1 (nx h) st dp dp) (nx h + 1) 0 = _
    unfold apT
    rw [hi_setI_ne (by omega), hi_setI_ne (by omega), hi_setI_ne (by omega), hi_upF, v7, upF_same]
  have m2 : hi h' (nx h + 2) 0 = dp := by
    rw [← hg, hi_setI_ne (by omega)]
    show hi (apT h1 (nx h) st dp dp) (nx h + 2) 0 = _
    unfold apT
    rw [hi_setI_ne (by omega), hi_setI_ne (by omega), hi_upF, v7, upF_same]
  have m3 : hi h' (nx h + 3) 0 = dp := by
    rw [← hg, hi_setI_ne (by omega)]
    show hi (apT h1 (nx h) st dp dp) (nx h + 3) 0 = _
    unfold apT
    rw [hi_setI_ne (by omega), hi_upF, v7, upF_same]
  have m4 : hi h' (nx h + 4) = hi h1 (nx h + 4) := by
    rw [← hg, hi_setI_ne (by omega)]
    show hi (apT h1 (nx h) st dp dp) (nx h + 4) = _
    unfold apT
    rw [hi_setI_ne (by omega), hi_setI_ne (by omega), hi_setI_ne (by omega), hi_setI_ne (by omega)]
  obtain ⟨qT, ⟨qY, qX⟩, q6, qc, qf, qt, o1, o2, o3⟩ := g
  obtain ⟨p1, p2, p3, p4, p5, p6, p7, p8⟩ := qT
  rw [i1] at p1 p2 p3 p5 p6 qf q6 qc qt o1 o2 o3
  have r4o : hr h1 (w + 4) = hr h (w + 4) := (old _ (by omega)).2.2
  have eca : ∀ i, caA h' w i = caA h w i := fun i => by unfold caA; rw [er _ (by omega), r4o]
  have eca1 : ∀ i, caA h1 w i = caA h w i := fun i => by unfold caA; rw [r4o]
  have ead1 : ∀ i, adT h1 w i = adT h w i := fun i => by unfold adT; rw [r5o]
  have cok : ∀ a, CalOk h1 a → a ≠ w + 5 → CalOk h' a := fun a z hne => by
    unfold CalOk
    rw [ekd, eln, er a hne]
    exact z
  have ccc := qc c hc.1 hc.2
  rw [eca1] at ccc
  have T : TripOk h' (hi h (w + 1) 4) (nx h) := by
    refine ⟨by rw [ekd]; exact k1, by rw [er _ (by omega)]; exact ⟨r3, r4, r5, r6⟩, by rw [ekd, eln]; exact ⟨⟨a1, b1⟩, ⟨a2, b2⟩, ⟨a3, b3⟩, a4, b4⟩, by rw [m7]; omega, fun i z0 z1 => ?_, fun i j z0 z1 z2 => by rw [m7] at z2; omega, fun d z0 z1 => by rw [m4, zz]; omega, by rw [mo 2 (by decide), v2]; exact hp⟩
    rw [m7] at z1
    obtain rfl : i = 0 := by omega
    rw [m1, m2, m3]
    exact ⟨hs, hd.1, Int.le_refl _, hd.2⟩
  have tkeep : ∀ a, a + 5 ≤ nx h → w + 154 ≤ a → TripOk h1 (hi h (w + 1) 4) a → TripOk h' (hi h (w + 1) 4) a := fun a z0 z1 z => by
    unfold TripOk
    rw [ekd, eln, er a (by omega), eo a (by omega) (by omega), eo (a + 1) (by omega) (by omega), eo (a + 2) (by omega) (by omega), eo (a + 3) (by omega) (by omega), eo (a + 4) (by omega) (by omega)]
    exact z
  have hT' : TT h' w (nx h1) := by
    refine ⟨by rw [e1 4 (by decide)]; exact p1, by rw [e1 5 (by decide)]; exact p2, by rw [e7]; omega, fun k => by rw [eo _ (by omega) (by omega)]; exact p4 k, fun i z0 z1 => ?_, fun t z0 z1 => ?_, by rw [enx]; exact Nat.le_refl _, by omega⟩
    · rw [e1 5 (by decide)] at z1
      rw [e1 4 (by decide), er _ (by omega)]
      obtain ⟨a, y1, y2, y3, y4, y5⟩ := p5 i z0 z1
      refine ⟨a, y1, y2, by omega, by rw [ekd]; exact y4, ?_⟩
      rw [eo _ (by omega) (by omega)]
      exact y5
    · rw [e7] at z1
      rw [e1 4 (by decide)]
      by_cases ht : t = hi h (w + 1) 7
      · rw [ht]
        exact ⟨nx h, caA h w c, e5n, by omega, by omega, T, by rw [mo 0 (by decide), v0], by rw [er _ (by omega)]; exact r1, by omega, by omega, cok _ ccc.2.2 (by omega)⟩
      · obtain ⟨a, c', y1, y2, y3, y4, y5, y6, y7, y8, y9⟩ := p6 t z0 (by omega)
        exact ⟨a, c', (e5 t ht).trans (by rw [← r5o]; exact y1), y2, by omega, tkeep a y3 y2 y4, by rw [eo _ (by omega) (by omega)]; exact y5, by rw [er _ (by omega)]; exact y6, y7, by omega, cok _ y9 (by omega)⟩
  refine ⟨⟨hT', ⟨qY, by omega⟩, by rw [e1 6 (by decide)]; exact q6, fun i z0 z1 => ?_, fun i z0 z1 => ?_, fun t z0 z1 => ?_, fun i j z0 z1 z2 => ?_, fun s t z0 z1 z2 => ?_, fun i t z0 z1 z2 z3 => ?_⟩, an, fun t z0 z1 => ao t (by omega)⟩
  · rw [e1 6 (by decide)] at z1
    have y := qc i z0 z1
    rw [eca1] at y
    rw [eca, er _ (by omega)]
    exact ⟨y.1, ⟨y.2.1.1, by omega⟩, cok _ y.2.2 (by omega)⟩
  · rw [e1 5 (by decide)] at z1
    have := qf i z0 z1
    unfold fwA at *
    rw [er _ (by omega)]
    exact this
  · rw [e7] at z1
    by_cases ht : t = hi h (w + 1) 7
    · rw [ht, an, e1 6 (by decide)]
      exact ⟨by omega, c, hc, by rw [er _ (by omega), eca]; exact r1⟩
    · rw [ao t ht, e1 6 (by decide)]
      obtain ⟨y1, i, y2, y3⟩ := qt t z0 (by omega)
      rw [ead1, eca1] at y3
      rw [ead1] at y1
      obtain ⟨c9, x1, x2, x3, -⟩ := adT_of qT0 z0 (by omega : t < hi h (w + 1) 7)
      exact ⟨y1, i, y2, by rw [er _ (by omega), eca]; exact y3⟩
  · rw [e1 6 (by decide)] at z2
    have := o1 i j z0 z1 z2
    rw [eca1, eca1] at this
    rw [eca, eca]
    exact this
  · rw [e7] at z2
    rw [ao s (by omega)]
    obtain ⟨c9, x1, x2, x3, -⟩ := adT_of qT0 z0 (by omega : s < hi h (w + 1) 7)
    by_cases ht : t = hi h (w + 1) 7
    · rw [ht, an]; omega
    · rw [ao t ht]
      have := o2 s t z0 z1 (by omega)
      rw [ead1, ead1] at this
      exact this
  · rw [e1 6 (by decide)] at z1
    rw [e7] at z3
    rw [eca]
    by_cases ht : t = hi h (w + 1) 7
    · rw [ht, an]
      exact Nat.le_trans (qc0 i z0 z1).2.1.2 hXn.1
    · rw [ao t ht]
      have := o3 i t z0 z1 z2 (by omega)
      rw [eca1, ead1] at this
      exact this
end GTG
