/-! ===== the table as it is made (no machine here) ===== -/
def RelT (h : Hp) (G X : Nat) (S T : Int) : Prop := GT h (G + 1) (G + 200) X ∧ (hi h G 3 = S ∧ hi h G 5 = hi h (G + 1 + 1) 5 ∧ hi h G 7 = hi h (G + 1 + 1) 6 ∧ hi h G 9 = T) ∧ RC h G ∧ RT h G ∧ RL h G
/-- the table while it is made: it says S stops and T trips -/
def DrT (h : Hp) (G sa X : Nat) (S T D : Int) : Prop := TbS h G sa ∧ Sk h (G + 1) ∧ RelT h G X S T ∧ CnT h G ∧ 0 ≤ hi h G 2 ∧ hi h G 2 ≤ D
/-- what making it may write -/
def PB (G : Nat) : Nat → Prop := fun a => a = G ∨ (G + 2 ≤ a ∧ a ≤ G + 6) ∨ G + 155 ≤ a
def RB (G : Nat) : Nat → Prop := fun a => (G + 4 ≤ a ∧ a ≤ G + 6) ∨ a = G + 156
/-- numbers of the table that no picture reads -/
def PV (G : Nat) : Nat → Prop := fun a => a = G ∨ a = G + 155 ∨ (G + 162 ≤ a ∧ a < G + 192)
def PU (G : Nat) : Nat → Prop := fun a => a = G ∨ (G + 155 ≤ a ∧ a < G + 192)
theorem isRun_cg {h h' : Hp} {a : Nat} {d : Int} (e0 : hi h' a = hi h a) (e1 : hi h' (a + 1) = hi h (a + 1)) : isRun h' a d ↔ isRun h a d := by
  unfold isRun
  rw [e0, e1]
section DRT
variable {h h' : Hp} {G sa X : Nat} {S T D : Int}
theorem DrS.toT (q : DrS h G sa X D) : DrT h G sa X (hi h (G + 1 + 1) 4) (hi h (G + 1 + 1) 7) D := q
theorem DrT.toS (q : DrT h G sa X S T D) (hS : S = hi h (G + 1 + 1) 4) (hT : T = hi h (G + 1 + 1) 7) : DrS h G sa X D := by
  subst hS hT
  exact q
theorem DrT.up (q : DrT h G sa X S T D) {D' : Int} (hD : D ≤ D') : DrT h G sa X S T D' := ⟨q.1, q.2.1, q.2.2.1, q.2.2.2.1, q.2.2.2.2.1, Int.le_trans q.2.2.2.2.2 hD⟩
theorem DrT.sameG {S' T' D' : Int} (q : DrT h G sa X S T D) (c : ch (PU G) nP h h') (e5 : hi h' G 5 = hi h G 5) (e7 : hi h' G 7 = hi h G 7) (e3 : hi h' G 3 = S') (e9 : hi h' G 9 = T') (d : 0 ≤ hi h' G 2 ∧ hi h' G 2 ≤ D') (er : ∀ c d, 0 ≤ c → c < hi h (G + 1 + 1) 6 → hi h' (G + 158 + c.toNat) d = hi h (G + 158 + c.toNat) d) (ec : ∀ t, 0 ≤ t → t < hi h (G + 1 + 1) 7 → hi h' (G + 161) t = hi h (G + 161) t) : DrT h' G sa X S' T' D' := by
  obtain ⟨q1, q2, ⟨g, ⟨n3, n5, n7, n9⟩, rc, rt, rl⟩, q4, q5⟩ := q
  have hX := q1.2.2.2.2.2.2
  have hXn := g.1.2.2.2.2.2.2
  have e := c.fm
  have eo : ∀ a, ¬ PU G a → hi h' a = hi h a := fun a ha => funext fun k => c.2.2.2.2.2.2.2.1 a k ha
  have ehr : ∀ a k, hr h' a k = hr h a k := fun a k => c.2.2.2.2.2.2.2.2 a k (fun z => z)
  have np : ∀ a, (G + 1 ≤ a ∧ a ≤ G + 154) ∨ G + 192 ≤ a → ¬ PU G a := fun a z y => by
    have y : a = G ∨ (G + 155 ≤ a ∧ a < G + 192) := y
    omega
  obtain ⟨g', -, -, g3, g4⟩ := g.eq (EqOn.of e hXn.1 (by omega) (fun a z y => np a (by omega) z) (fun a z => z.elim))
  have n1 : hi h' (G + 1 + 1) = hi h (G + 1 + 1) := eo _ (np _ (by omega))
  have ca : ∀ c, caA h' (G + 1) c = caA h (G + 1) c := fun c => by unfold caA; rw [ehr]
  have ad : ∀ t, adT h' (G + 1) t = adT h (G + 1) t := fun t => by unfold adT; rw [ehr]
  refine ⟨q1.kept e (fun a z => z.elim), q2.kept e (fun a z => z.elim) (by omega), ⟨g', ⟨e3, by rw [n1, e5]; exact n5, by rw [n1, e7]; exact n7, e9⟩, fun c d c0 c1 d0 d1 => ?_, fun t t0 t1 => ?_, fun t d t0 t1 d0 d1 => ?_⟩, by unfold CnT; rw [n1]; exact q4, d⟩
  · rw [n1] at c1
    rw [er c d c0 c1, ca]
    rcases rc c d c0 c1 d0 d1 with z | z
    · exact Or.inl ⟨z.1, ((g3 c c0 c1).2 d).mpr z.2⟩
    · exact Or.inr ⟨z.1, fun y => z.2 (((g3 c c0 c1).2 d).mp y)⟩
  · rw [n1] at t1
    rw [ec t t0 t1, n1, ad, ca, ehr]
    exact rt t t0 t1
  · rw [n1, eo _ (np _ (by omega)), ad]
    by_cases ht : t < hi h (G + 1 + 1) 7
    · have := (g.2.2.2.2.2.1 t t0 ht).1
      rw [eo _ (np _ (by omega))]
      exact rl t d t0 t1 d0 d1
    · rw [if_neg ht]
      have := rl t d t0 t1 d0 d1
      rw [if_neg ht] at this
      exact this
theorem DrT.same {S' T' D' : Int} (q : DrT h G sa X S T D) (c : ch (PV G) nP h h') (e5 : hi h' G 5 = hi h G 5) (e7 : hi h' G 7 = hi h G 7) (e3 : hi h' G 3 = S') (e9 : hi h' G 9 = T') (d : 0 ≤ hi h' G 2 ∧ hi h' G 2 ≤ D') : DrT h' G sa X S' T' D' := by
  have h6 := q.2.2.2.1.2.2.1
  refine q.sameG (c.mono (fun a z => ?_) (fun a z => z)) e5 e7 e3 e9 d (fun c' d c0 c1 => ?_) (fun t t0 t1 => ?_)
  · have z : a = G ∨ a = G + 155 ∨ (G + 162 ≤ a ∧ a < G + 192) := z
    show a = G ∨ (G + 155 ≤ a ∧ a < G + 192)
    omega
  · exact c.2.2.2.2.2.2.2.1 _ _ (fun z => by
      have z : G + 158 + c'.toNat = G ∨ G + 158 + c'.toNat = G + 155 ∨ (G + 162 ≤ G + 158 + c'.toNat ∧ G + 158 + c'.toNat < G + 192) := z
      omega)
  · exact c.2.2.2.2.2.2.2.1 _ _ (fun z => by
      have z : G + 161 = G ∨ G + 161 = G + 155 ∨ (G + 162 ≤ G + 161 ∧ G + 161 < G + 192) := z
      omega)
/-- a number of a row of the table -/
theorem DrT.row {o : Nat} {k v : Int} (q : DrT h G sa X S T D) (ho : o = G + 155 ∨ (G + 162 ≤ o ∧ o < G + 192)) : DrT (setI h o k v) G sa X S T D := by
  have e : hi (setI h o k v) G = hi h G := hi_setI_ne (by omega)
  have q0 := q
  obtain ⟨q1, q2, ⟨g, ⟨n3, n5, n7, n9⟩, rest⟩, q4, q5⟩ := q0
  exact q.same (ch_setI (Or.inr ho)) (by rw [e]) (by rw [e]) (by rw [e]; exact n3) (by rw [e]; exact n9) (by rw [e]; exact q5)
/-- a stop more -/
theorem DrT.stop {c : Int} (q : DrT h G sa X S T D) (hc : 0 ≤ c ∧ c ≤ 30) (hn : hi h (G + 1 + 1) 4 < 7) (z5 : hi h (G + 1 + 1) 5 = 0) (z6 : hi h (G + 1 + 1) 6 = 0) (z7 : hi h (G + 1 + 1) 7 = 0) : DrT (setI (setI h (G + 1 + 2) (hi h (G + 1 + 1) 4) c) (G + 1 + 1) 4 (hi h (G + 1 + 1) 4 + 1)) G sa X S T D ∧ (∀ k, k ≠ 4 → hi (setI (setI h (G + 1 + 2) (hi h (G + 1 + 1) 4) c) (G + 1 + 1) 4 (hi h (G + 1 + 1) 4 + 1)) (G + 1 + 1) k = hi h (G + 1 + 1) k) ∧ hi (setI (setI h (G + 1 + 2) (hi h (G + 1 + 1) 4) c) (G + 1 + 1) 4 (hi h (G + 1 + 1) 4 + 1)) (G + 1 + 1) 4 = hi h (G + 1 + 1) 4 + 1 := by
  obtain ⟨q1, q2, ⟨g, ⟨n3, n5, n7, n9⟩, rc, rt, rl⟩, ⟨c4, c5, c6, c7⟩, q5⟩ := q
  have hX := q1.2.2.2.2.2.2
  have g' := g.stop hc (by omega) z5 z6 z7
  have C : ch (PB G) nP h (setI (setI h (G + 1 + 2) (hi h (G + 1 + 1) 4) c) (G + 1 + 1) 4 (hi h (G + 1 + 1) 4 + 1)) := (ch_setI (P := PB G) (R := nP) (Or.inr (Or.inl ⟨by omega, by omega⟩))).trans (ch_setI (P := PB G) (R := nP) (Or.inr (Or.inl ⟨by omega, by omega⟩)))
  have e1 : ∀ k, k ≠ 4 → hi (setI (setI h (G + 1 + 2) (hi h (G + 1 + 1) 4) c) (G + 1 + 1) 4 (hi h (G + 1 + 1) 4 + 1)) (G + 1 + 1) k = hi h (G + 1 + 1) k := fun k hk => by rw [hi_upF, upF_ne _ hk, hi_setI_ne (by omega)]
  have e4 : hi (setI (setI h (G + 1 + 2) (hi h (G + 1 + 1) 4) c) (G + 1 + 1) 4 (hi h (G + 1 + 1) 4 + 1)) (G + 1 + 1) 4 = hi h (G + 1 + 1) 4 + 1 := by rw [hi_upF, upF_same]
  have eo : ∀ a, a ≠ G + 1 + 1 → a ≠ G + 1 + 2 → hi (setI (setI h (G + 1 + 2) (hi h (G + 1 + 1) 4) c) (G + 1 + 1) 4 (hi h (G + 1 + 1) 4 + 1)) a = hi h a := fun a h1 h2 => by rw [hi_setI_ne h1, hi_setI_ne h2]
  generalize setI (setI h (G + 1 + 2) (hi h (G + 1 + 1) 4) c) (G + 1 + 1) 4 (hi h (G + 1 + 1) 4 + 1) = h' at *
  refine ⟨⟨q1.kept C.fm (fun a z => z.elim), q2.kept C.fm (fun a z => z.elim) (by omega), ⟨g', ?_, fun c d c0 c1 => ?_, fun t t0 t1 => ?_, fun t d t0 t1 d0 d1 => ?_⟩, ?_, ?_⟩, e1, e4⟩
  · rw [eo G (by omega) (by omega), e1 5 (by decide), e1 6 (by decide)]
    exact ⟨n3, n5, n7, n9⟩
  · rw [e1 6 (by decide)] at c1; omega
  · rw [e1 7 (by decide)] at t1; omega
  · have := rl t d t0 t1 d0 d1
    rw [if_neg (by omega)] at this
    rw [e1 7 (by decide), if_neg (by omega), eo _ (by omega) (by omega)]
    exact this
  · unfold CnT
    rw [e4, e1 5 (by decide), e1 6 (by decide), e1 7 (by decide)]
    omega
  · rw [eo G (by omega) (by omega)]; exact q5
/-- what a new cell put into a list of the timetable leaves as it was -/
theorem put_old {h1 : Hp} {a b : Nat} {k j x : Int} {v : Option Nat} (e : fm nP nP h h1) : (∀ c, c < nx h → c ≠ b → hi (setI (setR h1 a k v) b j x) c = hi h c) ∧ (∀ c i, c < nx h → c ≠ a → hr (setI (setR h1 a k v) b j x) c i = hr h c i) := by
  refine ⟨fun c z y => ?_, fun c i z y => ?_⟩
  · rw [hi_setI_ne y, hi_setR]
    exact funext fun i => e.2.2.1 c i z (fun z => z)
  · rw [hr_setI, hr_setR, up2_ne _ _ (fun z => y z.1)]
    exact e.2.2.2.1 c i z (fun z => z)
/-- a footway more, and the table counts it -/
theorem DrT.foot {h1 : Hp} {s o m : Int} (q : DrT h G sa X S T D) (f : FwN h h1 s o m) (hs : 0 ≤ s ∧ s < hi h (G + 1 + 1) 4) (ho : 0 ≤ o ∧ o < hi h (G + 1 + 1) 4) (hm : 1 ≤ m ∧ m ≤ 60) (hn : hi h (G + 1 + 1) 5 < 8) (z6 : hi h (G + 1 + 1) 6 = 0) (z7 : hi h (G + 1 + 1) 7 = 0) : DrT (setI (setI (setR h1 (G + 1 + 3) (hi h (G + 1 + 1) 5) (some (nx h))) (G + 1 + 1) 5 (hi h (G + 1 + 1) 5 + 1)) G 5 (hi h G 5 + 1)) G sa (nx h1) S T D ∧ (∀ k, k ≠ 5 → hi (setI (setI (setR h1 (G + 1 + 3) (hi h (G + 1 + 1) 5) (some (nx h))) (G + 1 + 1) 5 (hi h (G + 1 + 1) 5 + 1)) G 5 (hi h G 5 + 1)) (G + 1 + 1) k = hi h (G + 1 + 1) k) ∧ hi (setI (setI (setR h1 (G + 1 + 3) (hi h (G + 1 + 1) 5) (some (nx h))) (G + 1 + 1) 5 (hi h (G + 1 + 1) 5 + 1)) G 5 (hi h G 5 + 1)) (G + 1 + 1) 5 = hi h (G + 1 + 1) 5 + 1 := by
  obtain ⟨q1, q2, ⟨g, ⟨n3, n5, n7, n9⟩, rc, rt, rl⟩, ⟨c4, c5, c6, c7⟩, q5⟩ := q
  have hX := q1.2.2.2.2.2.2
  have hXn := g.1.2.2.2.2.2.2
  have g' := g.foot f hs ho hm (by omega) z6 z7
  have e := f.1
  have en := e.1
  obtain ⟨p1, p2⟩ := put_old (a := G + 1 + 3) (b := G + 1 + 1) (k := hi h (G + 1 + 1) 5) (j := 5) (x := hi h (G + 1 + 1) 5 + 1) (v := some (nx h)) e
  have F : fm (PB G) (RB G) h (setI (setR h1 (G + 1 + 3) (hi h (G + 1 + 1) 5) (some (nx h))) (G + 1 + 1) 5 (hi h (G + 1 + 1) 5 + 1)) := ((e.mono (fun a z => z.elim) (fun a z => z.elim)).putR (Or.inr (Or.inl ⟨by omega, by omega⟩))).put (Or.inr (Or.inr (Or.inl ⟨by omega, by omega⟩)))
  have enx : nx (setI (setR h1 (G + 1 + 3) (hi h (G + 1 + 1) 5) (some (nx h))) (G + 1 + 1) 5 (hi h (G + 1 + 1) 5 + 1)) = nx h1 := rfl
  have e5 : hi (setI (setR h1 (G + 1 + 3) (hi h (G + 1 + 1) 5) (some (nx h))) (G + 1 + 1) 5 (hi h (G + 1 + 1) 5 + 1)) (G + 1 + 1) 5 = hi h (G + 1 + 1) 5 + 1 := by rw [hi_upF, upF_same]
  have i1 : hi h1 (G + 1 + 1) = hi h (G + 1 + 1) := funext fun k => e.2.2.1 _ k (by omega) (fun z => z)
  have e1 : ∀ k, k ≠ 5 → hi (setI (setR h1 (G + 1 + 3) (hi h (G + 1 + 1) 5) (some (nx h))) (G + 1 + 1) 5 (hi h (G + 1 + 1) 5 + 1)) (G + 1 + 1) k = hi h (G + 1 + 1) k := fun k hk => by rw [hi_upF, upF_ne _ hk, hi_setR, i1]
  generalize setI (setR h1 (G + 1 + 3) (hi h (G + 1 + 1) 5) (some (nx h))) (G + 1 + 1) 5 (hi h (G + 1 + 1) 5 + 1) = h2 at *
  have C : ch (fun a => a = G) nP h2 (setI h2 G 5 (hi h G 5 + 1)) := ch_setI rfl
  obtain ⟨g2, -⟩ := g'.eq (EqOn.of C.fm (by omega) (by omega) (fun a z y => by have z : a = G := z; omega) (fun a z => z.elim))
  have eo : ∀ a, a ≠ G → hi (setI h2 G 5 (hi h G 5 + 1)) a = hi h2 a := fun a ha => hi_setI_ne ha
  have eg : hi (setI h2 G 5 (hi h G 5 + 1)) G = upF (hi h2 G) 5 (hi h G 5 + 1) := hi_upF _ _ _ _
  have F2 : fm (PB G) (RB G) h (setI h2 G 5 (hi h G 5 + 1)) := F.put (Or.inr (Or.inl rfl))
  generalize setI h2 G 5 (hi h G 5 + 1) = h' at *
  refine ⟨⟨q1.kept F2 (fun a z => ?_), q2.kept F2 (fun a z => ?_) (by omega), ⟨g2, ?_, fun c d c0 c1 => ?_, fun t t0 t1 => ?_, fun t d t0 t1 d0 d1 => ?_⟩, ?_, ?_⟩, fun k hk => ?_, ?_⟩
  · have z : (G + 4 ≤ a ∧ a ≤ G + 6) ∨ a = G + 156 := z
    omega
  · have z : (G + 4 ≤ a ∧ a ≤ G + 6) ∨ a = G + 156 := z
    omega
  · rw [eg, eo _ (by omega), upF_same, upF_ne _ (by decide), upF_ne _ (by decide), upF_ne _ (by decide), e5, e1 6 (by decide), p1 G (by omega) (by omega)]
    exact ⟨n3, by omega, n7, n9⟩
  · rw [eo _ (by omega), e1 6 (by decide)] at c1; omega
  · rw [eo _ (by omega), e1 7 (by decide)] at t1; omega
  · have := rl t d t0 t1 d0 d1
    rw [if_neg (by omega)] at this
    rw [eo (G + 192 + t.toNat) (by omega), eo (G + 1 + 1) (by omega), e1 7 (by decide), if_neg (by omega), p1 _ (by omega) (by omega)]
    exact this
  · unfold CnT
    rw [eo _ (by omega), e5, e1 4 (by decide), e1 6 (by decide), e1 7 (by decide)]
    omega
  · rw [eg, upF_ne _ (by decide), p1 G (by omega) (by omega)]; exact q5
  · rw [eo _ (by omega)]; exact e1 k hk
  · rw [eo _ (by omega)]; exact e5
/-- a calendar more, and the table counts it; its runs stand in their row -/
theorem DrT.cal {h1 : Hp} {wd fi la : Int} (q : DrT h G sa X S T D) (f : CaN h h1 wd fi la) (hn : hi h (G + 1 + 1) 6 < 3) (z7 : hi h (G + 1 + 1) 7 = 0) (hr_ : ∀ d, 0 ≤ d → d < 12 → (hi h (G + 158 + (hi h (G + 1 + 1) 6).toNat) d = 1 ∧ (fi ≤ d ∧ d ≤ la) ∧ vand (vshr wd (d.tmod 7)) 1 = 1) ∨ (hi h (G + 158 + (hi h (G + 1 + 1) 6).toNat) d = 0 ∧ ¬ ((fi ≤ d ∧ d ≤ la) ∧ vand (vshr wd (d.tmod 7)) 1 = 1))) : DrT (setI (setI (setR h1 (G + 1 + 4) (hi h (G + 1 + 1) 6) (some (nx h))) (G + 1 + 1) 6 (hi h (G + 1 + 1) 6 + 1)) G 7 (hi h G 7 + 1)) G sa (nx h1) S T D ∧ (∀ k, k ≠ 6 → hi (setI (setI (setR h1 (G + 1 + 4) (hi h (G + 1 + 1) 6) (some (nx h))) (G + 1 + 1) 6 (hi h (G + 1 + 1) 6 + 1)) G 7 (hi h G 7 + 1)) (G + 1 + 1) k = hi h (G + 1 + 1) k) ∧ hi (setI (setI (setR h1 (G + 1 + 4) (hi h (G + 1 + 1) 6) (some (nx h))) (G + 1 + 1) 6 (hi h (G + 1 + 1) 6 + 1)) G 7 (hi h G 7 + 1)) (G + 1 + 1) 6 = hi h (G + 1 + 1) 6 + 1 := by
  obtain ⟨q1, q2, ⟨g, ⟨n3, n5, n7, n9⟩, rc, rt, rl⟩, ⟨c4, c5, c6, c7⟩, q5⟩ := q
  have hX := q1.2.2.2.2.2.2
  have hXn := g.1.2.2.2.2.2.2
  have h06 := g.2.2.1.1
  obtain ⟨g', ca1, ca2⟩ := g.cal f (by omega) z7
  obtain ⟨e, fn, -, fk, ⟨f0, f1, f2⟩, fz⟩ := f
  obtain ⟨p1, p2⟩ := put_old (a := G + 1 + 4) (b := G + 1 + 1) (k := hi h (G + 1 + 1) 6) (j := 6) (x := hi h (G + 1 + 1) 6 + 1) (v := some (nx h)) e
  have F : fm (PB G) (RB G) h (setI (setR h1 (G + 1 + 4) (hi h (G + 1 + 1) 6) (some (nx h))) (G + 1 + 1) 6 (hi h (G + 1 + 1) 6 + 1)) := ((e.mono (fun a z => z.elim) (fun a z => z.elim)).putR (Or.inr (Or.inl ⟨by omega, by omega⟩))).put (Or.inr (Or.inr (Or.inl ⟨by omega, by omega⟩)))
  have enx : nx (setI (setR h1 (G + 1 + 4) (hi h (G + 1 + 1) 6) (some (nx h))) (G + 1 + 1) 6 (hi h (G + 1 + 1) 6 + 1)) = nx h1 := rfl
  have e5 : hi (setI (setR h1 (G + 1 + 4) (hi h (G + 1 + 1) 6) (some (nx h))) (G + 1 + 1) 6 (hi h (G + 1 + 1) 6 + 1)) (G + 1 + 1) 6 = hi h (G + 1 + 1) 6 + 1 := by rw [hi_upF, upF_same]
  have i1 : hi h1 (G + 1 + 1) = hi h (G + 1 + 1) := funext fun k => e.2.2.1 _ k (by omega) (fun z => z)
  have e1 : ∀ k, k ≠ 6 → hi (setI (setR h1 (G + 1 + 4) (hi h (G + 1 + 1) 6) (some (nx h))) (G + 1 + 1) 6 (hi h (G + 1 + 1) 6 + 1)) (G + 1 + 1) k = hi h (G + 1 + 1) k := fun k hk => by rw [hi_upF, upF_ne _ hk, hi_setR, i1]
  have nw0 : hi (setI (setR h1 (G + 1 + 4) (hi h (G + 1 + 1) 6) (some (nx h))) (G + 1 + 1) 6 (hi h (G + 1 + 1) 6 + 1)) (nx h) = hi h1 (nx h) := by rw [hi_setI_ne (by omega), hi_setR]
  have nw1 : hi (setI (setR h1 (G + 1 + 4) (hi h (G + 1 + 1) 6) (some (nx h))) (G + 1 + 1) 6 (hi h (G + 1 + 1) 6 + 1)) (nx h + 1) = hi h1 (nx h + 1) := by rw [hi_setI_ne (by omega), hi_setR]
  generalize setI (setR h1 (G + 1 + 4) (hi h (G + 1 + 1) 6) (some (nx h))) (G + 1 + 1) 6 (hi h (G + 1 + 1) 6 + 1) = h2 at *
  have C : ch (fun a => a = G) nP h2 (setI h2 G 7 (hi h G 7 + 1)) := ch_setI rfl
  obtain ⟨g2, -, -, g3, -⟩ := g'.eq (EqOn.of C.fm (by omega) (by omega) (fun a z y => by have z : a = G := z; omega) (fun a z => z.elim))
  have eo : ∀ a, a ≠ G → hi (setI h2 G 7 (hi h G 7 + 1)) a = hi h2 a := fun a ha => hi_setI_ne ha
  have eg : hi (setI h2 G 7 (hi h G 7 + 1)) G = upF (hi h2 G) 7 (hi h G 7 + 1) := hi_upF _ _ _ _
  have eca : ∀ c, caA (setI h2 G 7 (hi h G 7 + 1)) (G + 1) c = caA h2 (G + 1) c := fun c => rfl
  have F2 : fm (PB G) (RB G) h (setI h2 G 7 (hi h G 7 + 1)) := F.put (Or.inr (Or.inl rfl))
  generalize setI h2 G 7 (hi h G 7 + 1) = h' at *
  refine ⟨⟨q1.kept F2 (fun a z => ?_), q2.kept F2 (fun a z => ?_) (by omega), ⟨g2, ?_, fun c d c0 c1 d0 d1 => ?_, fun t t0 t1 => ?_, fun t d t0 t1 d0 d1 => ?_⟩, ?_, ?_⟩, fun k hk => ?_, ?_⟩
  · have z : (G + 4 ≤ a ∧ a ≤ G + 6) ∨ a = G + 156 := z
    omega
  · have z : (G + 4 ≤ a ∧ a ≤ G + 6) ∨ a = G + 156 := z
    omega
  · rw [eg, eo _ (by omega), upF_same, upF_ne _ (by decide), upF_ne _ (by decide), upF_ne _ (by decide), e5, e1 5 (by decide), p1 G (by omega) (by omega)]
    exact ⟨n3, n5, by omega, n9⟩
  · rw [eo _ (by omega), e5] at c1
    rw [eo _ (by omega), p1 _ (by omega) (by omega), eca]
    by_cases hc : c = hi h (G + 1 + 1) 6
    · rw [hc, ca1]
      have ru : isRun h' (nx h) d ↔ ((fi ≤ d ∧ d ≤ la) ∧ vand (vshr wd (d.tmod 7)) 1 = 1) := by
        unfold isRun
        rw [eo _ (by omega), eo _ (by omega), nw0, nw1, f0, f1, f2, fz d]
        constructor
        · rintro ⟨-, y | ⟨-, y⟩⟩
          · exact absurd y (by decide)
          · exact y
        · intro y
          exact ⟨⟨d0, by omega⟩, Or.inr ⟨rfl, y⟩⟩
      rcases hr_ d d0 d1 with z | z
      · exact Or.inl ⟨z.1, ru.mpr z.2⟩
      · exact Or.inr ⟨z.1, fun y => z.2 (ru.mp y)⟩
    · have c2 : c < hi h (G + 1 + 1) 6 := by omega
      have cb := (g.2.2.2.1 c c0 c2).2.1
      rw [ca2 c c0 c2]
      have ru : isRun h' (caA h (G + 1) c) d ↔ isRun h (caA h (G + 1) c) d := isRun_cg (by rw [eo _ (by omega), p1 _ (by omega) (by omega)]) (by rw [eo _ (by omega), p1 _ (by omega) (by omega)])
      rcases rc c d c0 c2 d0 d1 with z | z
      · exact Or.inl ⟨z.1, ru.mpr z.2⟩
      · exact Or.inr ⟨z.1, fun y => z.2 (ru.mp y)⟩
  · rw [eo _ (by omega), e1 7 (by decide)] at t1; omega
  · have := rl t d t0 t1 d0 d1
    rw [if_neg (by omega)] at this
    rw [eo (G + 192 + t.toNat) (by omega), eo (G + 1 + 1) (by omega), e1 7 (by decide), if_neg (by omega), p1 _ (by omega) (by omega)]
    exact this
  · unfold CnT
    rw [eo _ (by omega), e5, e1 4 (by decide), e1 5 (by decide), e1 7 (by decide)]
    omega
  · rw [eg, upF_ne _ (by decide), p1 G (by omega) (by omega)]; exact q5
  · rw [eo _ (by omega)]; exact e1 k hk
  · rw [eo _ (by omega)]; exact e5
/-- a trip more, with its first call -/
theorem DrT.trip {h1 : Hp} {p c st dp : Int} (q : DrT h G sa X S T D) (f : TrN h h1 (hi h (G + 1 + 1) 7) p (caA h (G + 1) c)) (hs : 0 ≤ st ∧ st < hi h (G + 1 + 1) 4) (hd : 0 ≤ dp ∧ dp ≤ 2879) (hp : 0 ≤ p ∧ p ≤ 500) (hc : 0 ≤ c ∧ c < hi h (G + 1 + 1) 6) (hn : hi h (G + 1 + 1) 7 < 8) (ec : hi h (G + 161) (hi h (G + 1 + 1) 7) = c) : DrT (setI (setR (apT h1 (nx h) st dp dp) (G + 1 + 5) (hi h (G + 1 + 1) 7) (some (nx h))) (G + 1 + 1) 7 (hi h (G + 1 + 1) 7 + 1)) G sa (nx h1) S T D ∧ (∀ k, k ≠ 7 → hi (setI (setR (apT h1 (nx h) st dp dp) (G + 1 + 5) (hi h (G + 1 + 1) 7) (some (nx h))) (G + 1 + 1) 7 (hi h (G + 1 + 1) 7 + 1)) (G + 1 + 1) k = hi h (G + 1 + 1) k) ∧ hi (setI (setR (apT h1 (nx h) st dp dp) (G + 1 + 5) (hi h (G + 1 + 1) 7) (some (nx h))) (G + 1 + 1) 7 (hi h (G + 1 + 1) 7 + 1)) (G + 1 + 1) 7 = hi h (G + 1 + 1) 7 + 1 ∧ adT (setI (setR (apT h1 (nx h) st dp dp) (G + 1 + 5) (hi h (G + 1 + 1) 7) (some (nx h))) (G + 1 + 1) 7 (hi h (G + 1 + 1) 7 + 1)) (G + 1) (hi h (G + 1 + 1) 7) = nx h ∧ hi (setI (setR (apT h1 (nx h) st dp dp) (G + 1 + 5) (hi h (G + 1 + 1) 7) (some (nx h))) (G + 1 + 1) 7 (hi h (G + 1 + 1) 7 + 1)) (nx h) 7 = 1 ∧ hi (setI (setR (apT h1 (nx h) st dp dp) (G + 1 + 5) (hi h (G + 1 + 1) 7) (some (nx h))) (G + 1 + 1) 7 (hi h (G + 1 + 1) 7 + 1)) (nx h + 3) 0 = dp ∧ fm (PB G) (RB G) h (setI (setR (apT h1 (nx h) st dp dp) (G + 1 + 5) (hi h (G + 1 + 1) 7) (some (nx h))) (G + 1 + 1) 7 (hi h (G + 1 + 1) 7 + 1)) ∧ (∀ a, G + 155 ≤ a → a < G + 200 → hi (setI (setR (apT h1 (nx h) st dp dp) (G + 1 + 5) (hi h (G + 1 + 1) 7) (some (nx h))) (G + 1 + 1) 7 (hi h (G + 1 + 1) 7 + 1)) a = hi h a) := by
  obtain ⟨q1, q2, ⟨g, ⟨n3, n5, n7, n9⟩, rc, rt, rl⟩, ⟨c4, c5, c6, c7⟩, q5⟩ := q
  have hX := q1.2.2.2.2.2.2
  have hXn := g.1.2.2.2.2.2.2
  have h07 := g.1.2.2.1.1
  obtain ⟨g', ad1, ad2⟩ := g.trip f hs hd hp hc (by omega)
  obtain ⟨e, fn, -, fk, ⟨f1, f3, f4, f5, f6⟩, ⟨fa, fb, fc⟩, -, fz⟩ := f
  have ea : fm nP nP h (apT h1 (nx h) st dp dp) := by
    unfold apT
    exact (((e.put (Or.inl (by omega))).put (Or.inl (by omega))).put (Or.inl (by omega))).put (Or.inl (by omega))
  obtain ⟨p1, p2⟩ := put_old (a := G + 1 + 5) (b := G + 1 + 1) (k := hi h (G + 1 + 1) 7) (j := 7) (x := hi h (G + 1 + 1) 7 + 1) (v := some (nx h)) ea
  have F : fm (PB G) (RB G) h (setI (setR (apT h1 (nx h) st dp dp) (G + 1 + 5) (hi h (G + 1 + 1) 7) (some (nx h))) (G + 1 + 1) 7 (hi h (G + 1 + 1) 7 + 1)) := ((ea.mono (fun a z => z.elim) (fun a z => z.elim)).putR (Or.inr (Or.inl ⟨by omega, by omega⟩))).put (Or.inr (Or.inr (Or.inl ⟨by omega, by omega⟩)))
  have e5 : hi (setI (setR (apT h1 (nx h) st dp dp) (G + 1 + 5) (hi h (G + 1 + 1) 7) (some (nx h))) (G + 1 + 1) 7 (hi h (G + 1 + 1) 7 + 1)) (G + 1 + 1) 7 = hi h (G + 1 + 1) 7 + 1 := by rw [hi_upF, upF_same]
  have i1 : hi (apT h1 (nx h) st dp dp) (G + 1 + 1) = hi h (G + 1 + 1) := funext fun k => ea.2.2.1 _ k (by omega) (fun z => z)
  have e1 : ∀ k, k ≠ 7 → hi (setI (setR (apT h1 (nx h) st dp dp) (G + 1 + 5) (hi h (G + 1 + 1) 7) (some (nx h))) (G + 1 + 1) 7 (hi h (G + 1 + 1) 7 + 1)) (G + 1 + 1) k = hi h (G + 1 + 1) k := fun k hk => by rw [hi_upF, upF_ne _ hk, hi_setR, i1]
  have m7 : hi (setI (setR (apT h1 (nx h) st dp dp) (G + 1 + 5) (hi h (G + 1 + 1) 7) (some (nx h))) (G + 1 + 1) 7 (hi h (G + 1 + 1) 7 + 1)) (nx h) 7 = 1 := by
    rw [hi_setI_ne (by omega), hi_setR]
    unfold apT
    rw [hi_upF, upF_same, fc]
    rfl
  have m3 : hi (setI (setR (apT h1 (nx h) st dp dp) (G + 1 + 5) (hi h (G + 1 + 1) 7) (some (nx h))) (G + 1 + 1) 7 (hi h (G + 1 + 1) 7 + 1)) (nx h + 3) 0 = dp := by
    rw [hi_setI_ne (by omega), hi_setR]
    unfold apT
    rw [hi_setI_ne (by omega), hi_upF, fc, upF_same]
  have m4 : ∀ k, hi (setI (setR (apT h1 (nx h) st dp dp) (G + 1 + 5) (hi h (G + 1 + 1) 7) (some (nx h))) (G + 1 + 1) 7 (hi h (G + 1 + 1) 7 + 1)) (nx h + 4) k = 0 := fun k => by
    rw [hi_setI_ne (by omega), hi_setR]
    unfold apT
    rw [hi_setI_ne (by omega), hi_setI_ne (by omega), hi_setI_ne (by omega), hi_setI_ne (by omega)]
    exact fz k
  have mr : hr (setI (setR (apT h1 (nx h) st dp dp) (G + 1 + 5) (hi h (G + 1 + 1) 7) (some (nx h))) (G + 1 + 1) 7 (hi h (G + 1 + 1) 7 + 1)) (nx h) 1 = some (caA h (G + 1) c) := by
    rw [hr_setI, hr_setR, up2_ne _ _ (fun z => by omega)]
    exact f1
  generalize setI (setR (apT h1 (nx h) st dp dp) (G + 1 + 5) (hi h (G + 1 + 1) 7) (some (nx h))) (G + 1 + 1) 7 (hi h (G + 1 + 1) 7 + 1) = h' at *
  have eca : ∀ c, caA h' (G + 1) c = caA h (G + 1) c := fun c => by unfold caA; rw [p2 _ _ (by omega) (by omega)]
  refine ⟨⟨q1.kept F (fun a z => ?_), q2.kept F (fun a z => ?_) (by omega), ⟨g', ?_, fun c d c0 c1 d0 d1 => ?_, fun t t0 t1 => ?_, fun t d t0 t1 d0 d1 => ?_⟩, ?_, ?_⟩, e1, e5, ad1, m7, m3, F, fun a a0 a1 => p1 a (by omega) (by omega)⟩
  · have z : (G + 4 ≤ a ∧ a ≤ G + 6) ∨ a = G + 156 := z
    omega
  · have z : (G + 4 ≤ a ∧ a ≤ G + 6) ∨ a = G + 156 := z
    omega
  · rw [p1 G (by omega) (by omega), e1 5 (by decide), e1 6 (by decide)]
    exact ⟨n3, n5, n7, n9⟩
  · rw [e1 6 (by decide)] at c1
    have cb := (g.2.2.2.1 c c0 c1).2.1
    rw [p1 _ (by omega) (by omega), eca]
    have ru : isRun h' (caA h (G + 1) c) d ↔ isRun h (caA h (G + 1) c) d := isRun_cg (p1 _ (by omega) (by omega)) (p1 _ (by omega) (by omega))
    rcases rc c d c0 c1 d0 d1 with z | z
    · exact Or.inl ⟨z.1, ru.mpr z.2⟩
    · exact Or.inr ⟨z.1, fun y => z.2 (ru.mp y)⟩
  · rw [e5] at t1
    rw [p1 _ (by omega) (by omega), e1 6 (by decide), eca]
    by_cases ht : t = hi h (G + 1 + 1) 7
    · rw [ht, ec, ad1]
      exact ⟨hc, mr⟩
    · have t2 : t < hi h (G + 1 + 1) 7 := by omega
      have tb := (g.1.2.2.2.2.2.1 t t0 t2)
      obtain ⟨c9, x1, x2, x3, -⟩ := adT_of g.1 t0 t2
      rw [ad2 t t0 t2, p2 _ _ (by omega) (by have := (g.2.2.2.2.2.1 t t0 t2).1; omega)]
      exact rt t t0 t2
  · rw [e5, p1 _ (by omega) (by omega)]
    have old := rl t d t0 t1 d0 d1
    by_cases ht : t = hi h (G + 1 + 1) 7
    · rw [if_pos (by omega), ht, ad1, m4 d]
      rw [if_neg (by omega), ht] at old
      exact old
    · by_cases t2 : t < hi h (G + 1 + 1) 7
      · obtain ⟨c9, x1, x2, x3, -⟩ := adT_of g.1 t0 t2
        have := (g.2.2.2.2.2.1 t t0 t2).1
        rw [if_pos (by omega), ad2 t t0 t2, p1 _ (by omega) (by omega)]
        rw [if_pos t2] at old
        exact old
      · rw [if_neg (by omega)]
        rw [if_neg t2] at old
        exact old
  · unfold CnT
    rw [e5, e1 4 (by decide), e1 5 (by decide), e1 6 (by decide)]
    omega
  · rw [p1 G (by omega) (by omega)]; exact q5
/-- a call more on a trip -/
theorem DrT.call {t s x y : Int} (q : DrT h G sa X S T D) (h0 : 0 ≤ t ∧ t < hi h (G + 1 + 1) 7) (hs : 0 ≤ s ∧ s < hi h (G + 1 + 1) 4) (hx : hi h (adT h (G + 1) t + 3) (hi h (adT h (G + 1) t) 7 - 1) ≤ x ∧ x ≤ y ∧ y ≤ 2879) (hz : hi h (adT h (G + 1) t) 7 < 8) : DrT (apT h (adT h (G + 1) t) s x y) G sa X S T D ∧ hi (apT h (adT h (G + 1) t) s x y) (G + 1 + 1) = hi h (G + 1 + 1) ∧ adT (apT h (adT h (G + 1) t) s x y) (G + 1) t = adT h (G + 1) t ∧ hi (apT h (adT h (G + 1) t) s x y) (adT h (G + 1) t) 7 = hi h (adT h (G + 1) t) 7 + 1 ∧ hi (apT h (adT h (G + 1) t) s x y) (adT h (G + 1) t + 3) (hi h (adT h (G + 1) t) 7) = y ∧ ch (PB G) nP h (apT h (adT h (G + 1) t) s x y) ∧ (∀ a, G + 155 ≤ a → a < G + 200 → hi (apT h (adT h (G + 1) t) s x y) a = hi h a) := by
  obtain ⟨q1, q2, ⟨g, ⟨n3, n5, n7, n9⟩, rc, rt, rl⟩, q4, q5⟩ := q
  have hX := q1.2.2.2.2.2.2
  obtain ⟨g', i1, eca, ead, erun, elate, m7, m3⟩ := g.call h0 hs hx hz
  have cb := (g.2.2.2.2.2.1 t h0.1 h0.2).1
  have C : ch (PB G) nP h (apT h (adT h (G + 1) t) s x y) := by
    unfold apT
    exact (((ch_setI (P := PB G) (R := nP) (Or.inr (Or.inr (by omega)))).trans (ch_setI (P := PB G) (R := nP) (Or.inr (Or.inr (by omega))))).trans (ch_setI (P := PB G) (R := nP) (Or.inr (Or.inr (by omega))))).trans (ch_setI (P := PB G) (R := nP) (Or.inr (Or.inr (by omega))))
  have eo : ∀ a, a < G + 200 → hi (apT h (adT h (G + 1) t) s x y) a = hi h a := fun a ha => by
    unfold apT
    rw [hi_setI_ne (by omega), hi_setI_ne (by omega), hi_setI_ne (by omega), hi_setI_ne (by omega)]
  have ehr : hr (apT h (adT h (G + 1) t) s x y) = hr h := rfl
  have ead0 := ead t
  generalize apT h (adT h (G + 1) t) s x y = h' at *
  refine ⟨⟨q1.kept C.fm (fun a z => z.elim), q2.kept C.fm (fun a z => z.elim) (by omega), ⟨g', ?_, fun c d c0 c1 d0 d1 => ?_, fun t' t0 t1 => ?_, fun t' d t0 t1 d0 d1 => ?_⟩, by unfold CnT; rw [i1]; exact q4, by rw [eo G (by omega)]; exact q5⟩, i1, ead0, m7, m3, C, fun a _ a1 => eo a a1⟩
  · rw [eo G (by omega), i1]
    exact ⟨n3, n5, n7, n9⟩
  · rw [i1] at c1
    have c6 := q4.2.2.1
    rw [eo _ (by omega), eca]
    rcases rc c d c0 c1 d0 d1 with z | z
    · exact Or.inl ⟨z.1, (erun c c0 c1 d).mpr z.2⟩
    · exact Or.inr ⟨z.1, fun y => z.2 ((erun c c0 c1 d).mp y)⟩
  · rw [i1] at t1
    rw [eo _ (by omega), i1, ead, eca, ehr]
    exact rt t' t0 t1
  · rw [i1, eo _ (by omega), ead]
    have old := rl t' d t0 t1 d0 d1
    by_cases ht : t' < hi h (G + 1 + 1) 7
    · rw [elate t' t0 ht]
      exact old
    · rw [if_neg ht] at old ⊢
      exact old
end DRT
