/-! ===== what the table is told (no machine here) ===== -/
def CnT (h : Hp) (G : Nat) : Prop := hi h (G + 1 + 1) 4 ≤ 7 ∧ hi h (G + 1 + 1) 5 ≤ 8 ∧ hi h (G + 1 + 1) 6 ≤ 3 ∧ hi h (G + 1 + 1) 7 ≤ 8
def DrS (h : Hp) (G sa X : Nat) (D : Int) : Prop := TbS h G sa ∧ Sk h (G + 1) ∧ Rel h G X ∧ CnT h G ∧ 0 ≤ hi h G 2 ∧ hi h G 2 ≤ D
section DRS
variable {h h' : Hp} {G sa X : Nat} {D : Int}
theorem DrS.tick (q : DrS h G sa X D) : DrS (setI h G 2 (hi h G 2 + 1)) G sa X (D + 1) := by
  obtain ⟨q1, q2, q3, q4, q5⟩ := q
  have hX := q1.2.2.2.2.2.2
  have e : fm (fun a => a = G) nP h (setI h G 2 (hi h G 2 + 1)) := ch.fm (ch_setI rfl)
  refine ⟨q1.kept e (fun a z => z.elim), q2.kept e (fun a z => z.elim) (by omega), q3.draw hX, ?_, ?_⟩
  · unfold CnT
    rw [hi_setI_ne (by omega)]
    exact q4
  · rw [hi_upF, upF_same]; omega
theorem DrS.up (q : DrS h G sa X D) {D' : Int} (hD : D ≤ D') : DrS h G sa X D' := ⟨q.1, q.2.1, q.2.2.1, q.2.2.2.1, q.2.2.2.2.1, Int.le_trans q.2.2.2.2.2 hD⟩
/-- the table writes of a day of a calendar, then the timetable does -/
theorem Rel.exc {c0 d b x : Int} (q : Rel h G X) (hX : G + 200 ≤ nx h) (h0 : 0 ≤ c0 ∧ c0 < hi h (G + 1 + 1) 6) (h3 : hi h (G + 1 + 1) 6 ≤ 3) (hd : 0 ≤ d ∧ d ≤ 365) (hbx : (b = 1 ∧ x = 1) ∨ (b = 0 ∧ x = 2)) : (GT (setI h (G + 158 + c0.toNat) d b) (G + 1) (G + 200) X ∧ (∀ d', isRun (setI h (G + 158 + c0.toNat) d b) (caA h (G + 1) c0) d' ↔ isRun h (caA h (G + 1) c0) d') ∧ hi (setI h (G + 158 + c0.toNat) d b) (G + 1 + 1) = hi h (G + 1 + 1)) ∧ Rel (setI (setI h (G + 158 + c0.toNat) d b) (caA h (G + 1) c0 + 1) d x) G X := by
  obtain ⟨q1, q2, q3, q4, q5⟩ := q
  have hXn := q1.1.2.2.2.2.2.2
  have e : fm (fun a => a = G + 158 + c0.toNat) nP h (setI h (G + 158 + c0.toNat) d b) := ch.fm (ch_setI rfl)
  have eo : ∀ a, a ≠ G + 158 + c0.toNat → hi (setI h (G + 158 + c0.toNat) d b) a = hi h a := fun a ha => hi_setI_ne ha
  have ec : hi (setI h (G + 158 + c0.toNat) d b) (G + 158 + c0.toNat) = upF (hi h (G + 158 + c0.toNat)) d b := hi_upF _ _ _ _
  obtain ⟨g, -, -, g3, g4⟩ := q1.eq (EqOn.of e hXn.1 (by omega) (fun a z y => by have z : a = G + 158 + c0.toNat := z; omega) (fun a z => z.elim))
  have n1 : hi (setI h (G + 158 + c0.toNat) d b) (G + 1 + 1) = hi h (G + 1 + 1) := eo _ (by omega)
  have cb := (q1.2.2.2.1 c0 h0.1 h0.2).2.1
  have ca : ∀ c, caA (setI h (G + 158 + c0.toNat) d b) (G + 1) c = caA h (G + 1) c := fun c => rfl
  have ad : ∀ t, adT (setI h (G + 158 + c0.toNat) d b) (G + 1) t = adT h (G + 1) t := fun t => rfl
  have er : hr (setI h (G + 158 + c0.toNat) d b) = hr h := rfl
  refine ⟨⟨g, (g3 c0 h0.1 h0.2).2, n1⟩, ?_⟩
  generalize setI h (G + 158 + c0.toNat) d b = g1 at *
  have hx12 : x = 1 ∨ x = 2 := by rcases hbx with z | z <;> omega
  obtain ⟨k1, k2, k3, k4, k5, k6⟩ := g.exc (c0 := c0) (d := d) (x := x) (by rw [n1]; exact h0) hd hx12
  rw [ca] at k1 k2 k3 k4 k5 k6
  have fo : ∀ a, a ≠ caA h (G + 1) c0 + 1 → hi (setI g1 (caA h (G + 1) c0 + 1) d x) a = hi g1 a := fun a ha => hi_setI_ne ha
  have er2 : hr (setI g1 (caA h (G + 1) c0 + 1) d x) = hr g1 := rfl
  generalize setI g1 (caA h (G + 1) c0 + 1) d x = g2 at *
  refine ⟨k1, ?_, fun c d' c0' c1' d0 d1 => ?_, fun t t0 t1 => ?_, fun t d' t0 t1 d0 d1 => ?_⟩
  · unfold RN
    rw [k2, n1, fo G (by omega), eo G (by omega)]
    exact q2
  · rw [k2, n1] at c1'
    have hrun := k5 c c0' (by rw [n1]; exact c1') d'
    have hrn := (g3 c c0' c1').2 d'
    have c3 : c ≠ c0 → G + 158 + c.toNat ≠ G + 158 + c0.toNat := fun z => by omega
    have cbc := (q1.2.2.2.1 c c0' c1').2.1
    by_cases hc : c = c0
    · subst hc
      rw [fo _ (by omega), ec, k3, ca]
      rw [ca] at hrun
      by_cases hdd : d' = d
      · subst hdd
        rw [upF_same]
        rw [if_pos ⟨rfl, rfl⟩] at hrun
        rcases hbx with ⟨z1, z2⟩ | ⟨z1, z2⟩
        · exact Or.inl ⟨z1, hrun.mpr z2⟩
        · exact Or.inr ⟨z1, fun y => by have := hrun.mp y; omega⟩
      · rw [upF_ne _ hdd]
        rw [if_neg (fun z => hdd z.2)] at hrun
        rcases q3 c d' c0' c1' d0 d1 with z | z
        · exact Or.inl ⟨z.1, hrun.mpr (hrn.mpr z.2)⟩
        · exact Or.inr ⟨z.1, fun y => z.2 (hrn.mp (hrun.mp y))⟩
    · rw [if_neg (fun z => hc z.1)] at hrun
      rw [ca] at hrun
      rw [fo _ (by omega), eo _ (c3 hc), k3, ca]
      rcases q3 c d' c0' c1' d0 d1 with z | z
      · exact Or.inl ⟨z.1, hrun.mpr (hrn.mpr z.2)⟩
      · exact Or.inr ⟨z.1, fun y => z.2 (hrn.mp (hrun.mp y))⟩
  · rw [k2, n1] at t1
    rw [fo _ (by omega), eo _ (by omega), k2, n1, k4, ad, k3, ca, er2, er]
    exact q4 t t0 t1
  · rw [k2, n1, k4, ad, fo _ (by omega), eo _ (by omega)]
    by_cases ht : t < hi h (G + 1 + 1) 7
    · have y := k6 t t0 (by rw [n1]; exact ht)
      rw [ad] at y
      have := (q1.2.2.2.2.2.1 t t0 ht).1
      rw [y, eo _ (by omega)]
      exact q5 t d' t0 t1 d0 d1
    · rw [if_neg ht]
      have := q5 t d' t0 t1 d0 d1
      rw [if_neg ht] at this
      exact this
/-- the table writes how late a trip is, then the timetable does -/
theorem Rel.late {t0 d x : Int} (q : Rel h G X) (hX : G + 200 ≤ nx h) (h0 : 0 ≤ t0 ∧ t0 < hi h (G + 1 + 1) 7) (h8 : t0 < 8) (h3 : hi h (G + 1 + 1) 6 ≤ 3) (hx : -1 ≤ x ∧ x ≤ 180) : (GT (setI h (G + 192 + t0.toNat) d x) (G + 1) (G + 200) X ∧ (∀ d', hasRn (setI h (G + 192 + t0.toNat) d x) (adT h (G + 1) t0) d' ↔ hasRn h (adT h (G + 1) t0) d') ∧ hi (setI h (G + 192 + t0.toNat) d x) (G + 1 + 1) = hi h (G + 1 + 1)) ∧ Rel (setI (setI h (G + 192 + t0.toNat) d x) (adT h (G + 1) t0 + 4) d x) G X := by
  obtain ⟨q1, q2, q3, q4, q5⟩ := q
  have hXn := q1.1.2.2.2.2.2.2
  have e : fm (fun a => a = G + 192 + t0.toNat) nP h (setI h (G + 192 + t0.toNat) d x) := ch.fm (ch_setI rfl)
  have eo : ∀ a, a ≠ G + 192 + t0.toNat → hi (setI h (G + 192 + t0.toNat) d x) a = hi h a := fun a ha => hi_setI_ne ha
  have ec : hi (setI h (G + 192 + t0.toNat) d x) (G + 192 + t0.toNat) = upF (hi h (G + 192 + t0.toNat)) d x := hi_upF _ _ _ _
  obtain ⟨g, -, -, g3, g4⟩ := q1.eq (EqOn.of e hXn.1 (by omega) (fun a z y => by have z : a = G + 192 + t0.toNat := z; omega) (fun a z => z.elim))
  have n1 : hi (setI h (G + 192 + t0.toNat) d x) (G + 1 + 1) = hi h (G + 1 + 1) := eo _ (by omega)
  have cb := (q1.2.2.2.2.2.1 t0 h0.1 h0.2).1
  have ca : ∀ c, caA (setI h (G + 192 + t0.toNat) d x) (G + 1) c = caA h (G + 1) c := fun c => rfl
  have ad : ∀ t, adT (setI h (G + 192 + t0.toNat) d x) (G + 1) t = adT h (G + 1) t := fun t => rfl
  have er : hr (setI h (G + 192 + t0.toNat) d x) = hr h := rfl
  refine ⟨⟨g, (g4 t0 h0.1 h0.2).2, n1⟩, ?_⟩
  generalize setI h (G + 192 + t0.toNat) d x = g1 at *
  obtain ⟨k1, k2, k3, k4, k5, k6, k7⟩ := g.tell (t0 := t0) (d := d) (x := x) (by rw [n1]; exact h0) hx
  rw [ad] at k1 k2 k3 k4 k5 k6 k7
  have fo : ∀ a, a ≠ adT h (G + 1) t0 + 4 → hi (setI g1 (adT h (G + 1) t0 + 4) d x) a = hi g1 a := fun a ha => hi_setI_ne ha
  have er2 : hr (setI g1 (adT h (G + 1) t0 + 4) d x) = hr g1 := rfl
  generalize setI g1 (adT h (G + 1) t0 + 4) d x = g2 at *
  refine ⟨k1, ?_, fun c d' c0' c1' d0 d1 => ?_, fun t z0 z1 => ?_, fun t d' z0 z1 d0 d1 => ?_⟩
  · unfold RN
    rw [k2, n1, fo G (by omega), eo G (by omega)]
    exact q2
  · rw [k2, n1] at c1'
    have hrun := k5 c c0' (by rw [n1]; exact c1') d'
    have hrn := (g3 c c0' c1').2 d'
    rw [ca] at hrun
    rw [fo _ (by omega), eo _ (by omega), k3, ca]
    rcases q3 c d' c0' c1' d0 d1 with z | z
    · exact Or.inl ⟨z.1, hrun.mpr (hrn.mpr z.2)⟩
    · exact Or.inr ⟨z.1, fun y => z.2 (hrn.mp (hrun.mp y))⟩
  · rw [k2, n1] at z1
    rw [fo _ (by omega), eo _ (by omega), k2, n1, k4, ad, k3, ca, er2, er]
    exact q4 t z0 z1
  · rw [k2, n1, k4, ad, fo _ (by omega)]
    by_cases ht : t < hi h (G + 1 + 1) 7
    · have := (q1.2.2.2.2.2.1 t z0 ht).1
      have old := q5 t d' z0 z1 d0 d1
      rw [if_pos ht] at old ⊢
      by_cases c : t = t0
      · subst c
        rw [ec, k7, eo _ (by omega)]
        by_cases dd : d' = d
        · rw [dd, upF_same, upF_same]
        · rw [upF_ne _ dd, upF_ne _ dd]; exact old
      · have y := k6 t z0 (by rw [n1]; exact ht) c
        rw [ad] at y
        rw [y, eo _ (by omega), eo _ (by omega)]
        exact old
    · have old := q5 t d' z0 z1 d0 d1
      rw [if_neg ht] at old ⊢
      rw [eo _ (by omega)]
      exact old
/-- what the table itself may write -/
def PD (G X : Nat) : Nat → Prop := fun a => a = G ∨ (G + 155 ≤ a ∧ a < X)
theorem MxA.row {o K kk : Nat} {n L z : Int} (q : MxA h o K kk n L) (h0 : 0 ≤ z) (h1 : z < n) : hr h o z = some (o + 1 + z.toNat) ∧ kd h (o + 1 + z.toNat) = kk ∧ ln h (o + 1 + z.toNat) = L := by
  have := q.2.2 z.toNat (by omega)
  rw [Int.toNat_of_nonneg h0] at this
  exact this
theorem DrS.step (q : DrS h G sa X D) (c : ch (PD G X) nP h h') (r : Rel h' G X) (e : hi h' (G + 1 + 1) = hi h (G + 1 + 1)) (eg : hi h' G 2 = hi h G 2) : DrS h' G sa X D := by
  obtain ⟨q1, q2, q3, q4, q5⟩ := q
  have hX := q1.2.2.2.2.2.2
  refine ⟨q1.kept c.fm (fun a z => z.elim), q2.kept c.fm (fun a z => z.elim) (by omega), r, ?_, by rw [eg]; exact q5⟩
  unfold CnT
  rw [e]
  exact q4
/-- which runs there are, by the table -/
theorem Rel.has {t d : Int} (q : Rel h G X) (h0 : 0 ≤ t ∧ t < hi h (G + 1 + 1) 7) (h8 : t < 8) (hd : 0 ≤ d ∧ d < 12) : (hasRn h (adT h (G + 1) t) d ↔ hi h (G + 158 + (hi h (G + 161) t).toNat) d = 1 ∧ 0 ≤ hi h (G + 192 + t.toNat) d) ∧ (hi h (G + 158 + (hi h (G + 161) t).toNat) d = 0 ∨ hi h (G + 158 + (hi h (G + 161) t).toNat) d = 1) ∧ hi h (G + 192 + t.toNat) d = hi h (adT h (G + 1) t + 4) d ∧ (-1 ≤ hi h (G + 192 + t.toNat) d ∧ hi h (G + 192 + t.toNat) d ≤ 180) ∧ 0 ≤ hi h (G + 161) t ∧ hi h (G + 161) t < hi h (G + 1 + 1) 6 := by
  obtain ⟨q1, q2, q3, q4, q5⟩ := q
  obtain ⟨r1, r2⟩ := q4 t h0.1 h0.2
  have rl := q5 t d h0.1 h8 hd.1 hd.2
  rw [if_pos h0.2] at rl
  obtain ⟨c0, g1, g2, g3, g4, -⟩ := adT_of q1.1 h0.1 h0.2
  obtain ⟨-, -, -, -, -, -, t7, -⟩ := g4
  have b := t7 d hd.1 (by omega)
  have rc := q3 _ d r1.1 r1.2 hd.1 hd.2
  generalize hi h (G + 158 + (hi h (G + 161) t).toNat) d = u at rc ⊢
  rw [rl]
  refine ⟨⟨?_, ?_⟩, ?_, rfl, b, r1⟩
  · rintro ⟨-, z2, c', z3, z4⟩
    cases z3.symm.trans r2
    rcases rc with y | y
    · exact ⟨y.1, by omega⟩
    · exact absurd z4 y.2
  · rintro ⟨z1, z2⟩
    refine ⟨⟨hd.1, by omega⟩, by omega, _, r2, ?_⟩
    rcases rc with y | y
    · exact y.2
    · omega
  · rcases rc with y | y
    · exact Or.inr y.1
    · exact Or.inl y.1
end DRS
