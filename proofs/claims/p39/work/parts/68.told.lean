/-! ===== what is told of a trip, or of a calendar (no machine here) ===== -/
/-- kinds, lengths, references and room are as they were -/
def SmS (h h' : Hp) : Prop := kd h' = kd h ∧ ln h' = ln h ∧ hr h' = hr h ∧ nx h' = nx h ∧ us h' = us h ∧ cn h' = cn h ∧ cs h' = cs h
section GTT
variable {h h' : Hp} {w Y X : Nat}
theorem GT.tripset {t0 : Int} (q : GT h w Y X) (hs : SmS h h') (h0 : 0 ≤ t0 ∧ t0 < hi h (w + 1) 7) (ei : ∀ a, ¬ (adT h w t0 ≤ a ∧ a ≤ adT h w t0 + 4) → hi h' a = hi h a) (T0 : TripOk h' (hi h (w + 1) 4) (adT h w t0)) (e0 : hi h' (adT h w t0) 0 = t0) : GT h' w Y X ∧ hi h' (w + 1) = hi h (w + 1) ∧ (∀ i, caA h' w i = caA h w i) ∧ (∀ t, adT h' w t = adT h w t) ∧ (∀ i, 0 ≤ i → i < hi h (w + 1) 6 → ∀ d, isRun h' (caA h w i) d ↔ isRun h (caA h w i) d) ∧ ∀ t, 0 ≤ t → t < hi h (w + 1) 7 → t ≠ t0 → hi h' (adT h w t + 4) = hi h (adT h w t + 4) := by
  have q0 := q
  obtain ⟨ekd, eln, ehr, enx, -⟩ := hs
  obtain ⟨qT, ⟨qY, qX⟩, q6, qc, qf, qt, o1, o2, o3⟩ := q
  obtain ⟨c0, g1, g2, g3, g4, g5, g6, g7, g8, g9⟩ := adT_of qT h0.1 h0.2
  have hX := qT.2.2.2.2.2.2
  have i1 : hi h' (w + 1) = hi h (w + 1) := ei _ (by omega)
  have eca : ∀ i, caA h' w i = caA h w i := fun i => by unfold caA; rw [ehr]
  have ead : ∀ i, adT h' w i = adT h w i := fun i => by unfold adT; rw [ehr]
  have efw : ∀ i, fwA h' w i = fwA h w i := fun i => by unfold fwA; rw [ehr]
  have K0 := g4.1
  have K1 := g4.2.2.1
  have oth : ∀ t, 0 ≤ t → t < hi h (w + 1) 7 → t ≠ t0 → ∀ j, j ≤ 4 → hi h' (adT h w t + j) = hi h (adT h w t + j) := fun t z0 z1 z2 j hj => by
    refine ei _ (fun z => ?_)
    rcases Int.lt_trichotomy t t0 with y | y | y
    · have := o2 t t0 z0 y h0.2
      omega
    · exact z2 y
    · have := o2 t0 t h0.1 y z1
      omega
  have cal : ∀ i, 0 ≤ i → i < hi h (w + 1) 6 → hi h' (caA h w i) = hi h (caA h w i) ∧ hi h' (caA h w i + 1) = hi h (caA h w i + 1) := fun i z0 z1 => by
    have := o3 i t0 z0 z1 h0.1 h0.2
    exact ⟨ei _ (by omega), ei _ (by omega)⟩
  have foot : ∀ i, 0 ≤ i → i < hi h (w + 1) 5 → hi h' (fwA h w i) = hi h (fwA h w i) := fun i z0 z1 => by
    obtain ⟨-, -, -, y4⟩ := q0.fw z0 z1
    refine ei _ (fun z => ?_)
    obtain ⟨⟨k1, -⟩, ⟨k2, -⟩, ⟨k3, -⟩, k4, -⟩ := K1
    have : fwA h w i = adT h w t0 ∨ fwA h w i = adT h w t0 + 1 ∨ fwA h w i = adT h w t0 + 2 ∨ fwA h w i = adT h w t0 + 3 ∨ fwA h w i = adT h w t0 + 4 := by omega
    rcases this with y | y | y | y | y <;> rw [y] at y4 <;> omega
  have tk : ∀ t, 0 ≤ t → t < hi h (w + 1) 7 → TripOk h (hi h (w + 1) 4) (adT h w t) → TripOk h' (hi h (w + 1) 4) (adT h w t) ∧ hi h' (adT h w t) 0 = t := fun t z0 z1 z => by
    by_cases c : t = t0
    · rw [c]; exact ⟨T0, e0⟩
    · have y := oth t z0 z1 c
      have y0 := y 0 (by omega)
      rw [Nat.add_zero] at y0
      obtain ⟨c9, x1, x2, x3, x4, x5, -⟩ := adT_of qT z0 z1
      refine ⟨?_, by rw [y0]; exact x5⟩
      unfold TripOk
      rw [ekd, eln, ehr, y0, y 1 (by omega), y 2 (by omega), y 3 (by omega), y 4 (by omega)]
      exact z
  have hT' : TT h' w X := by
    obtain ⟨p1, p2, p3, p4, p5, p6, p7, p8⟩ := qT
    unfold TT
    rw [i1, ehr, ekd, enx, ei (w + 2) (by omega)]
    refine ⟨p1, p2, p3, p4, fun i z0 z1 => ?_, fun t z0 z1 => ?_, p7, p8⟩
    · obtain ⟨a, y1, y2⟩ := p5 i z0 z1
      obtain ⟨x1, -⟩ := q0.fw z0 z1
      cases y1.symm.trans x1
      rw [← foot i z0 z1] at y2
      exact ⟨_, x1, y2⟩
    · obtain ⟨a, c', y1, y2, y3, y4, y5, y6⟩ := p6 t z0 z1
      obtain ⟨c9, x1, -⟩ := adT_of q0.1 z0 z1
      cases y1.symm.trans x1
      obtain ⟨z3, z4⟩ := tk t z0 z1 y4
      have ck : ∀ a, CalOk h' a ↔ CalOk h a := fun a => by unfold CalOk; rw [ekd, eln, ehr]
      exact ⟨_, c', x1, y2, y3, z3, z4, y6.1, y6.2.1, y6.2.2.1, (ck _).mpr y6.2.2.2⟩
  have ck : ∀ a, CalOk h' a ↔ CalOk h a := fun a => by unfold CalOk; rw [ekd, eln, ehr]
  refine ⟨⟨hT', ⟨qY, qX⟩, by rw [i1]; exact q6, fun i z0 z1 => ?_, fun i z0 z1 => ?_, fun t z0 z1 => ?_, fun i j z0 z1 z2 => ?_, fun s t z0 z1 z2 => ?_, fun i t z0 z1 z2 z3 => ?_⟩, i1, eca, ead, fun i z0 z1 d => ?_, fun t z0 z1 z2 => oth t z0 z1 z2 4 (by omega)⟩
  · rw [i1] at z1
    rw [eca, ehr, ck]
    exact qc i z0 z1
  · rw [i1] at z1
    rw [efw]
    exact qf i z0 z1
  · rw [i1] at z1
    obtain ⟨y1, i, y2, y3⟩ := qt t z0 z1
    rw [ead, i1, ehr]
    exact ⟨y1, i, y2, by rw [eca]; exact y3⟩
  · rw [i1] at z2; rw [eca, eca]; exact o1 i j z0 z1 z2
  · rw [i1] at z2; rw [ead, ead]; exact o2 s t z0 z1 z2
  · rw [i1] at z1 z3; rw [eca, ead]; exact o3 i t z0 z1 z2 z3
  · unfold isRun
    rw [(cal i z0 z1).1, (cal i z0 z1).2]
/-- a call more on the trip t0 -/
theorem GT.call {t0 s x y : Int} (q : GT h w Y X) (h0 : 0 ≤ t0 ∧ t0 < hi h (w + 1) 7) (hs : 0 ≤ s ∧ s < hi h (w + 1) 4) (hx : hi h (adT h w t0 + 3) (hi h (adT h w t0) 7 - 1) ≤ x ∧ x ≤ y ∧ y ≤ 2879) (hz : hi h (adT h w t0) 7 < 8) : GT (apT h (adT h w t0) s x y) w Y X ∧ hi (apT h (adT h w t0) s x y) (w + 1) = hi h (w + 1) ∧ (∀ i, caA (apT h (adT h w t0) s x y) w i = caA h w i) ∧ (∀ t, adT (apT h (adT h w t0) s x y) w t = adT h w t) ∧ (∀ i, 0 ≤ i → i < hi h (w + 1) 6 → ∀ d, isRun (apT h (adT h w t0) s x y) (caA h w i) d ↔ isRun h (caA h w i) d) ∧ (∀ t, 0 ≤ t → t < hi h (w + 1) 7 → hi (apT h (adT h w t0) s x y) (adT h w t + 4) = hi h (adT h w t + 4)) ∧ hi (apT h (adT h w t0) s x y) (adT h w t0) 7 = hi h (adT h w t0) 7 + 1 ∧ hi (apT h (adT h w t0) s x y) (adT h w t0 + 3) (hi h (adT h w t0) 7) = y := by
  have q0 := q
  obtain ⟨c0, g1, g2, g3, g4, g5, g6, g7, g8, g9⟩ := adT_of q.1 h0.1 h0.2
  generalize ha : adT h w t0 = a at *
  obtain ⟨t1, u, ⟨⟨v1, v2⟩, ⟨v3, v4⟩, ⟨v5, v6⟩, v7, v8⟩, t4, t5, t6, t7, t8⟩ := g4
  generalize hg : apT h a s x y = h'
  have sm : SmS h h' := by rw [← hg]; exact ⟨rfl, rfl, rfl, rfl, rfl, rfl, rfl⟩
  have ei : ∀ b, ¬ (a ≤ b ∧ b ≤ a + 4) → hi h' b = hi h b := fun b hb => by
    rw [← hg]
    unfold apT
    rw [hi_setI_ne (by omega), hi_setI_ne (by omega), hi_setI_ne (by omega), hi_setI_ne (by omega)]
  have m7 : hi h' a 7 = hi h a 7 + 1 := by rw [← hg]; unfold apT; rw [hi_upF, upF_same]
  have mo : ∀ k, k ≠ 7 → hi h' a k = hi h a k := fun k hk => by
    rw [← hg]; unfold apT
    rw [hi_upF, upF_ne _ hk, hi_setI_ne (by omega), hi_setI_ne (by omega), hi_setI_ne (by omega)]
  have m1 : hi h' (a + 1) = upF (hi h (a + 1)) (hi h a 7) s := by
    rw [← hg]; unfold apT
    rw [hi_setI_ne (by omega), hi_setI_ne (by omega), hi_setI_ne (by omega), hi_upF]
  have m2 : hi h' (a + 2) = upF (hi h (a + 2)) (hi h a 7) x := by
    rw [← hg]; unfold apT
    rw [hi_setI_ne (by omega), hi_setI_ne (by omega), hi_upF, hi_setI_ne (by omega)]
  have m3 : hi h' (a + 3) = upF (hi h (a + 3)) (hi h a 7) y := by
    rw [← hg]; unfold apT
    rw [hi_setI_ne (by omega), hi_upF, hi_setI_ne (by omega), hi_setI_ne (by omega)]
  have m4 : hi h' (a + 4) = hi h (a + 4) := by
    rw [← hg]; unfold apT
    rw [hi_setI_ne (by omega), hi_setI_ne (by omega), hi_setI_ne (by omega), hi_setI_ne (by omega)]
  have ekd := sm.1
  have eln := sm.2.1
  have ehr := sm.2.2.1
  have last : ∀ i, 0 ≤ i → i < hi h a 7 → hi h (a + 3) i ≤ x := fun i i0 i1 => by
    by_cases c : i = hi h a 7 - 1
    · rw [c]; exact hx.1
    · have z1 := t6 i (hi h a 7 - 1) i0 (by omega) (by omega)
      have z2 := t5 (hi h a 7 - 1) (by omega) (by omega)
      omega
  have T0 : TripOk h' (hi h (w + 1) 4) a := by
    unfold TripOk
    rw [ekd, eln, ehr, m7, m1, m2, m3, m4, mo 2 (by decide)]
    refine ⟨t1, u, ⟨⟨v1, v2⟩, ⟨v3, v4⟩, ⟨v5, v6⟩, v7, v8⟩, by omega, fun i i0 i1 => ?_, fun i j i0 ij jn => ?_, t7, t8⟩
    · by_cases c : i = hi h a 7
      · rw [c, upF_same, upF_same, upF_same]
        have := t5 (hi h a 7 - 1) (by omega) (by omega)
        exact ⟨hs, by omega, hx.2.1, hx.2.2⟩
      · rw [upF_ne _ c, upF_ne _ c, upF_ne _ c]
        exact t5 i i0 (by omega)
    · rw [upF_ne _ (by omega)]
      by_cases c : j = hi h a 7
      · rw [c, upF_same]
        exact last i i0 (by omega)
      · rw [upF_ne _ c]
        exact t6 i j i0 ij (by omega)
  obtain ⟨r1, r2, r3, r4, r5, r6⟩ := q0.tripset (t0 := t0) sm h0 (by rw [ha]; exact ei) (by rw [ha]; exact T0) (by rw [ha, mo 0 (by decide)]; exact g5)
  refine ⟨r1, r2, r3, r4, r5, fun t z0 z1 => ?_, m7, by rw [m3, upF_same]⟩
  by_cases c : t = t0
  · rw [c, ha]; exact m4
  · exact r6 t z0 z1 c
/-- how late it is on a day, or cancelled -/
theorem GT.tell {t0 d x : Int} (q : GT h w Y X) (h0 : 0 ≤ t0 ∧ t0 < hi h (w + 1) 7) (hx : -1 ≤ x ∧ x ≤ 180) : GT (setI h (adT h w t0 + 4) d x) w Y X ∧ hi (setI h (adT h w t0 + 4) d x) (w + 1) = hi h (w + 1) ∧ (∀ i, caA (setI h (adT h w t0 + 4) d x) w i = caA h w i) ∧ (∀ t, adT (setI h (adT h w t0 + 4) d x) w t = adT h w t) ∧ (∀ i, 0 ≤ i → i < hi h (w + 1) 6 → ∀ d', isRun (setI h (adT h w t0 + 4) d x) (caA h w i) d' ↔ isRun h (caA h w i) d') ∧ (∀ t, 0 ≤ t → t < hi h (w + 1) 7 → t ≠ t0 → hi (setI h (adT h w t0 + 4) d x) (adT h w t + 4) = hi h (adT h w t + 4)) ∧ hi (setI h (adT h w t0 + 4) d x) (adT h w t0 + 4) = upF (hi h (adT h w t0 + 4)) d x := by
  obtain ⟨c0, g1, g2, g3, g4, g5, g6, g7, g8, g9⟩ := adT_of q.1 h0.1 h0.2
  obtain ⟨t1, u, v, t4, t5, t6, t7, t8⟩ := g4
  have e : ∀ b, b ≠ adT h w t0 + 4 → hi (setI h (adT h w t0 + 4) d x) b = hi h b := fun b hb => hi_setI_ne hb
  have e4 : hi (setI h (adT h w t0 + 4) d x) (adT h w t0 + 4) = upF (hi h (adT h w t0 + 4)) d x := hi_upF _ _ _ _
  have T0 : TripOk (setI h (adT h w t0 + 4) d x) (hi h (w + 1) 4) (adT h w t0) := by
    unfold TripOk
    rw [e (adT h w t0) (by omega), e (adT h w t0 + 1) (by omega), e (adT h w t0 + 2) (by omega), e (adT h w t0 + 3) (by omega), e4]
    refine ⟨t1, u, v, t4, t5, t6, fun d' d0 d1 => ?_, t8⟩
    by_cases c : d' = d
    · rw [c, upF_same]; exact hx
    · rw [upF_ne _ c]; exact t7 d' d0 d1
  obtain ⟨r1, r2, r3, r4, r5, r6⟩ := q.tripset (h' := setI h (adT h w t0 + 4) d x) (t0 := t0) ⟨rfl, rfl, rfl, rfl, rfl, rfl, rfl⟩ h0 (fun b hb => e b (by omega)) T0 (by rw [e _ (by omega)]; exact g5)
  exact ⟨r1, r2, r3, r4, r5, r6, e4⟩
/-- an exception of a calendar -/
theorem GT.exc {c0 d x : Int} (q : GT h w Y X) (h0 : 0 ≤ c0 ∧ c0 < hi h (w + 1) 6) (hd : 0 ≤ d ∧ d ≤ 365) (hx : x = 1 ∨ x = 2) : GT (setI h (caA h w c0 + 1) d x) w Y X ∧ hi (setI h (caA h w c0 + 1) d x) (w + 1) = hi h (w + 1) ∧ (∀ i, caA (setI h (caA h w c0 + 1) d x) w i = caA h w i) ∧ (∀ t, adT (setI h (caA h w c0 + 1) d x) w t = adT h w t) ∧ (∀ i, 0 ≤ i → i < hi h (w + 1) 6 → ∀ d', isRun (setI h (caA h w c0 + 1) d x) (caA h w i) d' ↔ if i = c0 ∧ d' = d then x = 1 else isRun h (caA h w i) d') ∧ (∀ t, 0 ≤ t → t < hi h (w + 1) 7 → hi (setI h (caA h w c0 + 1) d x) (adT h w t + 4) = hi h (adT h w t + 4)) := by
  have q0 := q
  obtain ⟨qT, ⟨qY, qX⟩, q6, qc, qf, qt, o1, o2, o3⟩ := q
  have g := qc c0 h0.1 h0.2
  have kc := g.2.2.2.2.1
  have kc0 := g.2.2.1
  have e : ∀ b, b ≠ caA h w c0 + 1 → hi (setI h (caA h w c0 + 1) d x) b = hi h b := fun b hb => hi_setI_ne hb
  have e4 : hi (setI h (caA h w c0 + 1) d x) (caA h w c0 + 1) = upF (hi h (caA h w c0 + 1)) d x := hi_upF _ _ _ _
  generalize hg : setI h (caA h w c0 + 1) d x = h' at *
  have ekd : kd h' = kd h := by rw [← hg]; rfl
  have eln : ln h' = ln h := by rw [← hg]; rfl
  have ehr : hr h' = hr h := by rw [← hg]; rfl
  have enx : nx h' = nx h := by rw [← hg]; rfl
  have i1 : hi h' (w + 1) = hi h (w + 1) := e _ (by omega)
  have eca : ∀ i, caA h' w i = caA h w i := fun i => by unfold caA; rw [ehr]
  have ead : ∀ i, adT h' w i = adT h w i := fun i => by unfold adT; rw [ehr]
  have efw : ∀ i, fwA h' w i = fwA h w i := fun i => by unfold fwA; rw [ehr]
  have oth : ∀ t, 0 ≤ t → t < hi h (w + 1) 7 → ∀ j, hi h' (adT h w t + j) = hi h (adT h w t + j) := fun t z0 z1 j => by
    have := o3 c0 t h0.1 h0.2 z0 z1
    exact e _ (by omega)
  have ck : ∀ a, CalOk h' a ↔ CalOk h a := fun a => by unfold CalOk; rw [ekd, eln, ehr]
  have hT' : TT h' w X := by
    obtain ⟨p1, p2, p3, p4, p5, p6, p7, p8⟩ := qT
    unfold TT
    rw [i1, ehr, ekd, enx, e (w + 2) (by omega)]
    refine ⟨p1, p2, p3, p4, fun i z0 z1 => ?_, fun t z0 z1 => ?_, p7, p8⟩
    · obtain ⟨a, y1, y2, y3, y4, y5⟩ := p5 i z0 z1
      refine ⟨a, y1, y2, y3, y4, ?_⟩
      rw [e a (fun z => by rw [z] at y4; omega)]
      exact y5
    · obtain ⟨a, c', y1, y2, y3, y4, y5, y6⟩ := p6 t z0 z1
      obtain ⟨c9, x1, -⟩ := adT_of q0.1 z0 z1
      cases y1.symm.trans x1
      have y0 := oth t z0 z1 0
      rw [Nat.add_zero] at y0
      refine ⟨_, c', x1, y2, y3, ?_, by rw [y0]; exact y5, y6.1, y6.2.1, y6.2.2.1, (ck _).mpr y6.2.2.2⟩
      unfold TripOk
      rw [ekd, eln, ehr, y0, oth t z0 z1 1, oth t z0 z1 2, oth t z0 z1 3, oth t z0 z1 4]
      exact y4
  refine ⟨⟨hT', ⟨qY, qX⟩, by rw [i1]; exact q6, fun i z0 z1 => ?_, fun i z0 z1 => ?_, fun t z0 z1 => ?_, fun i j z0 z1 z2 => ?_, fun s t z0 z1 z2 => ?_, fun i t z0 z1 z2 z3 => ?_⟩, i1, eca, ead, fun i z0 z1 d' => ?_, fun t z0 z1 => oth t z0 z1 4⟩
  · rw [i1] at z1
    rw [eca, ehr, ck]
    exact qc i z0 z1
  · rw [i1] at z1
    rw [efw]
    exact qf i z0 z1
  · rw [i1] at z1
    obtain ⟨y1, i, y2, y3⟩ := qt t z0 z1
    rw [ead, i1, ehr]
    exact ⟨y1, i, y2, by rw [eca]; exact y3⟩
  · rw [i1] at z2; rw [eca, eca]; exact o1 i j z0 z1 z2
  · rw [i1] at z2; rw [ead, ead]; exact o2 s t z0 z1 z2
  · rw [i1] at z1 z3; rw [eca, ead]; exact o3 i t z0 z1 z2 z3
  · by_cases c : i = c0
    · rw [c]
      unfold isRun
      rw [e (caA h w c0) (by omega), e4]
      by_cases cd : d' = d
      · rw [cd, upF_same, if_pos ⟨rfl, rfl⟩]
        constructor
        · rintro ⟨-, z | z⟩
          · exact z
          · omega
        · intro z
          exact ⟨hd, Or.inl z⟩
      · rw [upF_ne _ cd, if_neg (fun z => cd z.2)]
    · have y : hi h' (caA h w i) = hi h (caA h w i) ∧ hi h' (caA h w i + 1) = hi h (caA h w i + 1) := by
        have ki := (qc i z0 z1).2.2.1
        rcases Int.lt_trichotomy i c0 with z | z | z
        · have := o1 i c0 z0 z h0.2
          exact ⟨e _ (by omega), e _ (by omega)⟩
        · exact absurd z c
        · have := o1 c0 i h0.1 z z1
          exact ⟨e _ (by omega), e _ (by omega)⟩
      rw [if_neg (fun z => c z.1)]
      unfold isRun
      rw [y.1, y.2]
end GTT
