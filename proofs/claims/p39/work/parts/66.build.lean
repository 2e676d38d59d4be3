/-! ===== a timetable that grows ===== -/
def caA (h : Hp) (w : Nat) (i : Int) : Nat := (hr h (w + 4) i).getD 0
def fwA (h : Hp) (w : Nat) (i : Int) : Nat := (hr h (w + 3) i).getD 0
/-- the timetable with its calendars; its blocks lie between Y and X, one behind the other -/
def GT (h : Hp) (w Y X : Nat) : Prop := TT h w X ∧ (w + 154 ≤ Y ∧ Y ≤ X) ∧ (0 ≤ hi h (w + 1) 6 ∧ hi h (w + 1) 6 ≤ 6) ∧
  (∀ i, 0 ≤ i → i < hi h (w + 1) 6 → hr h (w + 4) i = some (caA h w i) ∧ (Y ≤ caA h w i ∧ caA h w i + 2 ≤ X) ∧ CalOk h (caA h w i)) ∧
  (∀ i, 0 ≤ i → i < hi h (w + 1) 5 → Y ≤ fwA h w i) ∧
  (∀ t, 0 ≤ t → t < hi h (w + 1) 7 → Y ≤ adT h w t ∧ ∃ i, (0 ≤ i ∧ i < hi h (w + 1) 6) ∧ hr h (adT h w t) 1 = some (caA h w i)) ∧
  (∀ i j, 0 ≤ i → i < j → j < hi h (w + 1) 6 → caA h w i + 2 ≤ caA h w j) ∧
  (∀ s t, 0 ≤ s → s < t → t < hi h (w + 1) 7 → adT h w s + 5 ≤ adT h w t) ∧
  (∀ i t, 0 ≤ i → i < hi h (w + 1) 6 → 0 ≤ t → t < hi h (w + 1) 7 → caA h w i + 2 ≤ adT h w t)
/-- the cells of the timetable are as they were -/
def EqOn (h h' : Hp) (w Y X : Nat) : Prop := nx h ≤ nx h' ∧ ∀ a, ((w ≤ a ∧ a ≤ w + 5) ∨ (Y ≤ a ∧ a < X)) → kd h' a = kd h a ∧ ln h' a = ln h a ∧ hi h' a = hi h a ∧ hr h' a = hr h a
theorem EqOn.of {P R : Nat → Prop} {h h' : Hp} {w Y X : Nat} (e : fm P R h h') (hX : X ≤ nx h) (hw : w + 6 ≤ nx h) (hP : ∀ a, P a → ¬ ((w ≤ a ∧ a ≤ w + 5) ∨ (Y ≤ a ∧ a < X))) (hR : ∀ a, R a → ¬ ((w ≤ a ∧ a ≤ w + 5) ∨ (Y ≤ a ∧ a < X))) : EqOn h h' w Y X :=
  ⟨e.1, fun a ha => ⟨(e.2.1 a (by omega)).1, (e.2.1 a (by omega)).2, funext fun k => e.2.2.1 a k (by omega) (fun z => hP a z ha), funext fun k => e.2.2.2.1 a k (by omega) (fun z => hR a z ha)⟩⟩
section GTS
variable {h h' : Hp} {w Y X : Nat}
theorem GT.fw (q : GT h w Y X) {i : Int} (h0 : 0 ≤ i) (h1 : i < hi h (w + 1) 5) : hr h (w + 3) i = some (fwA h w i) ∧ Y ≤ fwA h w i ∧ fwA h w i < X ∧ kd h (fwA h w i) = 6 := by
  obtain ⟨a, g1, g2, g3, g4, -⟩ := q.1.2.2.2.2.1 i h0 h1
  have e : fwA h w i = a := by unfold fwA; rw [g1]; rfl
  have := q.2.2.2.2.1 i h0 h1
  rw [e] at this ⊢
  exact ⟨g1, this, g3, g4⟩
/-- nothing of the timetable changed -/
theorem GT.eq (q : GT h w Y X) (e : EqOn h h' w Y X) : GT h' w Y X ∧ Wy h' w = Wy h w ∧ Ra h' w = Ra h w ∧ (∀ i, 0 ≤ i → i < hi h (w + 1) 6 → caA h' w i = caA h w i ∧ ∀ d, isRun h' (caA h w i) d ↔ isRun h (caA h w i) d) ∧ (∀ t, 0 ≤ t → t < hi h (w + 1) 7 → adT h' w t = adT h w t ∧ (∀ d, hasRn h' (adT h w t) d ↔ hasRn h (adT h w t) d)) := by
  have q0 := q
  obtain ⟨qT, ⟨qY, qX⟩, q6, qc, qf, qt, o1, o2, o3⟩ := q
  obtain ⟨e0, e1⟩ := e
  have W : ∀ a, w ≤ a → a ≤ w + 5 → kd h' a = kd h a ∧ ln h' a = ln h a ∧ hi h' a = hi h a ∧ hr h' a = hr h a := fun a z0 z1 => e1 a (Or.inl ⟨z0, z1⟩)
  have V : ∀ a, Y ≤ a → a < X → kd h' a = kd h a ∧ ln h' a = ln h a ∧ hi h' a = hi h a ∧ hr h' a = hr h a := fun a z0 z1 => e1 a (Or.inr ⟨z0, z1⟩)
  have i1 : hi h' (w + 1) = hi h (w + 1) := (W (w + 1) (by omega) (by omega)).2.2.1
  have i2 : hi h' (w + 2) = hi h (w + 2) := (W (w + 2) (by omega) (by omega)).2.2.1
  have r3 : hr h' (w + 3) = hr h (w + 3) := (W (w + 3) (by omega) (by omega)).2.2.2
  have r4 : hr h' (w + 4) = hr h (w + 4) := (W (w + 4) (by omega) (by omega)).2.2.2
  have r5 : hr h' (w + 5) = hr h (w + 5) := (W (w + 5) (by omega) (by omega)).2.2.2
  have eca : ∀ i, caA h' w i = caA h w i := fun i => by unfold caA; rw [r4]
  have efw : ∀ i, fwA h' w i = fwA h w i := fun i => by unfold fwA; rw [r3]
  have ead : ∀ i, adT h' w i = adT h w i := fun i => by unfold adT; rw [r5]
  have trip : ∀ t, 0 ≤ t → t < hi h (w + 1) 7 → ∃ c, hr h (w + 5) t = some (adT h w t) ∧ adT h w t + 5 ≤ X ∧ TripOk h (hi h (w + 1) 4) (adT h w t) ∧ hi h (adT h w t) 0 = t ∧ hr h (adT h w t) 1 = some c ∧ w + 154 ≤ c ∧ c + 2 ≤ X ∧ CalOk h c ∧ Y ≤ adT h w t ∧ Y ≤ c := fun t t0 t1 => by
    obtain ⟨c, g1, g2, g3, g4, g5, g6, g7, g8, g9⟩ := adT_of qT t0 t1
    obtain ⟨y1, i, ⟨y2, y3⟩, y4⟩ := qt t t0 t1
    have := (qc i y2 y3).2.1
    rw [g6] at y4
    have ec := Option.some.inj y4
    exact ⟨c, g1, g3, g4, g5, g6, g7, g8, g9, y1, by omega⟩
  have tOk : ∀ a n, Y ≤ a → a + 5 ≤ X → TripOk h n a → TripOk h' n a := fun a n z0 z1 z => by
    unfold TripOk
    rw [(V a z0 (by omega)).1, (V a z0 (by omega)).2.2.1, (V a z0 (by omega)).2.2.2, (V (a + 1) (by omega) (by omega)).1, (V (a + 1) (by omega) (by omega)).2.1, (V (a + 1) (by omega) (by omega)).2.2.1, (V (a + 2) (by omega) (by omega)).1, (V (a + 2) (by omega) (by omega)).2.1, (V (a + 2) (by omega) (by omega)).2.2.1, (V (a + 3) (by omega) (by omega)).1, (V (a + 3) (by omega) (by omega)).2.1, (V (a + 3) (by omega) (by omega)).2.2.1, (V (a + 4) (by omega) (by omega)).1, (V (a + 4) (by omega) (by omega)).2.1, (V (a + 4) (by omega) (by omega)).2.2.1]
    exact z
  have cOk : ∀ a, Y ≤ a → a + 2 ≤ X → CalOk h a → CalOk h' a := fun a z0 z1 z => by
    unfold CalOk
    rw [(V a z0 (by omega)).1, (V a z0 (by omega)).2.2.2, (V (a + 1) (by omega) (by omega)).1, (V (a + 1) (by omega) (by omega)).2.1]
    exact z
  have run : ∀ a d, Y ≤ a → a + 2 ≤ X → (isRun h' a d ↔ isRun h a d) := fun a d z0 z1 => by
    unfold isRun
    rw [(V a z0 (by omega)).2.2.1, (V (a + 1) (by omega) (by omega)).2.2.1]
  have hrn : ∀ t d, 0 ≤ t → t < hi h (w + 1) 7 → (hasRn h' (adT h w t) d ↔ hasRn h (adT h w t) d) := fun t d t0 t1 => by
    obtain ⟨c, g1, g3, g4, g5, g6, g7, g8, g9, y1, y2⟩ := trip t t0 t1
    unfold hasRn
    rw [(V _ y1 (by omega)).2.2.2, (V (adT h w t + 4) (by omega) (by omega)).2.2.1]
    constructor
    · rintro ⟨z1, z2, c', z3, z4⟩
      cases z3.symm.trans g6
      exact ⟨z1, z2, _, g6, (run _ d y2 g8).mp z4⟩
    · rintro ⟨z1, z2, c', z3, z4⟩
      cases z3.symm.trans g6
      exact ⟨z1, z2, _, g6, (run _ d y2 g8).mpr z4⟩
  have hT' : TT h' w X := by
    obtain ⟨p1, p2, p3, p4, p5, p6, p7, p8⟩ := qT
    unfold TT
    rw [i1, i2, r3, r5]
    refine ⟨p1, p2, p3, p4, fun i z0 z1 => ?_, fun t z0 z1 => ?_, by omega, p8⟩
    · obtain ⟨g1, g2, g3, g4⟩ := q0.fw z0 z1
      obtain ⟨a, y1, y2, y3, y4, y5⟩ := p5 i z0 z1
      cases y1.symm.trans g1
      refine ⟨_, g1, y2, g3, (V _ g2 g3).1.trans g4, ?_⟩
      rw [(V _ g2 g3).2.2.1]
      exact y5
    · obtain ⟨c, g1, g3, g4, g5, g6, g7, g8, g9, y1, y2⟩ := trip t z0 z1
      exact ⟨_, c, g1, by omega, g3, tOk _ _ y1 g3 g4, by rw [(V _ y1 (by omega)).2.2.1]; exact g5, by rw [(V _ y1 (by omega)).2.2.2]; exact g6, g7, g8, cOk _ y2 g8 g9⟩
  refine ⟨⟨hT', ⟨qY, qX⟩, by rw [i1]; exact q6, fun i z0 z1 => ?_, fun i z0 z1 => ?_, fun t z0 z1 => ?_, fun i j z0 z1 z2 => ?_, fun s t z0 z1 z2 => ?_, fun i t z0 z1 z2 z3 => ?_⟩, ?_, ?_, fun i z0 z1 => ⟨eca i, fun d => ?_⟩, fun t z0 z1 => ⟨ead t, fun d => hrn t d z0 z1⟩⟩
  · rw [i1] at z1
    have := qc i z0 z1
    rw [eca, r4]
    exact ⟨this.1, this.2.1, cOk _ this.2.1.1 this.2.1.2 this.2.2⟩
  · rw [i1] at z1
    rw [efw]
    exact qf i z0 z1
  · rw [i1] at z1
    obtain ⟨y1, i, y2, y3⟩ := qt t z0 z1
    obtain ⟨c, g1, g3, -⟩ := trip t z0 z1
    rw [ead, i1]
    exact ⟨y1, i, y2, by rw [(V _ y1 (by omega)).2.2.2, eca]; exact y3⟩
  · rw [i1] at z2; rw [eca, eca]; exact o1 i j z0 z1 z2
  · rw [i1] at z2; rw [ead, ead]; exact o2 s t z0 z1 z2
  · rw [i1] at z1 z3; rw [eca, ead]; exact o3 i t z0 z1 z2 z3
  · funext s s' m
    apply propext
    unfold Wy
    rw [i1, r3]
    constructor
    · rintro ⟨i, a, z0, z1, z2, z3⟩
      obtain ⟨g1, g2, g3, g4⟩ := q0.fw z0 z1
      cases z2.symm.trans g1
      rw [(V _ g2 g3).2.2.1] at z3
      exact ⟨i, _, z0, z1, g1, z3⟩
    · rintro ⟨i, a, z0, z1, z2, z3⟩
      obtain ⟨g1, g2, g3, g4⟩ := q0.fw z0 z1
      cases z2.symm.trans g1
      rw [← (V _ g2 g3).2.2.1] at z3
      exact ⟨i, _, z0, z1, g1, z3⟩
  · have er : ∀ t, 0 ≤ t → t < hi h (w + 1) 7 → rnB h' (adT h w t) = rnB h (adT h w t) ∧ baseOf h' (adT h w t) = baseOf h (adT h w t) := fun t t0 t1 => by
      obtain ⟨c, g1, g3, g4, g5, g6, g7, g8, g9, y1, y2⟩ := trip t t0 t1
      constructor
      · funext b
        unfold rnB
        rw [(V _ y1 (by omega)).2.2.1, (V (adT h w t + 1) (by omega) (by omega)).2.2.1, (V (adT h w t + 2) (by omega) (by omega)).2.2.1, (V (adT h w t + 3) (by omega) (by omega)).2.2.1]
      · funext b
        unfold baseOf
        rw [(V (adT h w t + 4) (by omega) (by omega)).2.2.1]
    funext r
    apply propext
    unfold Ra
    rw [i1, r5]
    constructor
    · rintro ⟨t, a, d, z0, z1, z2, z3, rfl⟩
      obtain ⟨c, g1, -⟩ := trip t z0 z1
      cases z2.symm.trans g1
      exact ⟨t, _, d, z0, z1, g1, (hrn t d z0 z1).mp z3, by rw [(er t z0 z1).1, (er t z0 z1).2]⟩
    · rintro ⟨t, a, d, z0, z1, z2, z3, rfl⟩
      obtain ⟨c, g1, -⟩ := trip t z0 z1
      cases z2.symm.trans g1
      exact ⟨t, _, d, z0, z1, g1, (hrn t d z0 z1).mpr z3, by rw [(er t z0 z1).1, (er t z0 z1).2]⟩
  · have := (qc i z0 z1).2.1
    exact run _ d this.1 this.2
/-- it may reach further -/
theorem TT.up {X' : Nat} (q : TT h w X) (h1 : X ≤ X') (h2 : X' ≤ nx h) : TT h w X' := by
  obtain ⟨p1, p2, p3, p4, p5, p6, p7, p8⟩ := q
  refine ⟨p1, p2, p3, p4, fun i z0 z1 => ?_, fun t z0 z1 => ?_, h2, by omega⟩
  · obtain ⟨a, y1, y2, y3, y4⟩ := p5 i z0 z1
    exact ⟨a, y1, y2, by omega, y4⟩
  · obtain ⟨a, c, y1, y2, y3, y4, y5, y6, y7, y8, y9⟩ := p6 t z0 z1
    exact ⟨a, c, y1, y2, by omega, y4, y5, y6, y7, by omega, y9⟩
theorem GT.up {X' : Nat} (q : GT h w Y X) (h1 : X ≤ X') (h2 : X' ≤ nx h) : GT h w Y X' := by
  obtain ⟨qT, ⟨qY, qX⟩, q6, qc, qf, qt, o1, o2, o3⟩ := q
  refine ⟨qT.up h1 h2, ⟨qY, by omega⟩, q6, fun i z0 z1 => ?_, qf, qt, o1, o2, o3⟩
  have := qc i z0 z1
  exact ⟨this.1, ⟨this.2.1.1, by omega⟩, this.2.2⟩
end GTS
/-- an array of numbers made and put into a field -/
theorem AnS {h : Hp} {a : Nat} {n k : Int} (ha : a < nx h) (hn : 0 ≤ n) : fm nP (fun b => b = a) h (setR (mkO h 100 n) a k (some (nx h))) ∧ nx (setR (mkO h 100 n) a k (some (nx h))) = nx h + 1 ∧ (us (setR (mkO h 100 n) a k (some (nx h))) : Int) = us h + n ∧ (kd (setR (mkO h 100 n) a k (some (nx h))) (nx h) = 100 ∧ ln (setR (mkO h 100 n) a k (some (nx h))) (nx h) = n ∧ ∀ j, hi (setR (mkO h 100 n) a k (some (nx h))) (nx h) j = 0) ∧ hr (setR (mkO h 100 n) a k (some (nx h))) a k = some (nx h) ∧ ∀ j, j ≠ k → hr (setR (mkO h 100 n) a k (some (nx h))) a j = hr h a j := by
  have hne : ∀ b, b < nx h → ¬ b = nx h := fun b z => by omega
  refine ⟨⟨by show nx h ≤ nx h + 1; omega, fun b z => ⟨?_, ?_⟩, fun b j z _ => ?_, fun b j z y => ?_, rfl, rfl⟩, rfl, ?_, ⟨?_, ?_, fun j => ?_⟩, ?_, fun j hj => ?_⟩
  · rw [kd_setR, kd_mkO, up1_ne _ _ (hne b z)]
  · rw [ln_setR, ln_mkO, up1_ne _ _ (hne b z)]
  · rw [hi_setR, hi_mkO, up1_ne _ _ (hne b z)]
  · rw [hr_setR, up2_ne _ _ (fun x => y x.1), hr_mkO, up1_ne _ _ (hne b z)]
  · rw [us_setR, us_mkO]; omega
  · rw [kd_setR, kd_mkO, up1_same]
  · rw [ln_setR, ln_mkO, up1_same]
  · rw [hi_setR, hi_mkO, up1_same]
  · rw [hr_setR, up2_same]
  · rw [hr_setR, up2_ne _ _ (fun x => hj x.2), hr_mkO, up1_ne _ _ (hne a ha)]
/-- a new cell -/
theorem fm_mkO {h : Hp} {K : Nat} {n : Int} : fm nP nP h (mkO h K n) := by
  have hne : ∀ b, b < nx h → ¬ b = nx h := fun b z => by omega
  refine ⟨by show nx h ≤ nx h + 1; omega, fun b z => ⟨?_, ?_⟩, fun b j z _ => ?_, fun b j z _ => ?_, rfl, rfl⟩
  · rw [kd_mkO, up1_ne _ _ (hne b z)]
  · rw [ln_mkO, up1_ne _ _ (hne b z)]
  · rw [hi_mkO, up1_ne _ _ (hne b z)]
  · rw [hr_mkO, up1_ne _ _ (hne b z)]
/-- new footway, calendar, trip: where nx h was -/
def FwN (h h' : Hp) (s o m : Int) : Prop := fm nP nP h h' ∧ nx h' = nx h + 1 ∧ us h' = us h + 3 ∧ kd h' (nx h) = 6 ∧ hi h' (nx h) 0 = s ∧ hi h' (nx h) 1 = o ∧ hi h' (nx h) 2 = m
def CaN (h h' : Hp) (wd fi la : Int) : Prop := fm nP nP h h' ∧ nx h' = nx h + 2 ∧ us h' = us h + 370 ∧ CalOk h' (nx h) ∧ (hi h' (nx h) 0 = wd ∧ hi h' (nx h) 1 = fi ∧ hi h' (nx h) 2 = la) ∧ ∀ k, hi h' (nx h + 1) k = 0
def TrN (h h' : Hp) (t p : Int) (c : Nat) : Prop := fm nP nP h h' ∧ nx h' = nx h + 5 ∧ us h' = us h + 398 ∧ kd h' (nx h) = 12 ∧ (hr h' (nx h) 1 = some c ∧ hr h' (nx h) 3 = some (nx h + 1) ∧ hr h' (nx h) 4 = some (nx h + 2) ∧ hr h' (nx h) 5 = some (nx h + 3) ∧ hr h' (nx h) 6 = some (nx h + 4)) ∧ (hi h' (nx h) 0 = t ∧ hi h' (nx h) 2 = p ∧ hi h' (nx h) 7 = 0) ∧ ((kd h' (nx h + 1) = 100 ∧ ln h' (nx h + 1) = 8) ∧ (kd h' (nx h + 2) = 100 ∧ ln h' (nx h + 2) = 8) ∧ (kd h' (nx h + 3) = 100 ∧ ln h' (nx h + 3) = 8) ∧ kd h' (nx h + 4) = 100 ∧ ln h' (nx h + 4) = 366) ∧ ∀ k, hi h' (nx h + 4) k = 0
