/-! ===== the trace: what its legs are ===== -/
def LegOk (h : Hp) (w : Nat) (k : Int) : Prop :=
  (∃ (t : Int) (a : Nat), hr h (w + 147) k = some a ∧ (0 ≤ t ∧ t < hi h (w + 1) 7) ∧ hr h (w + 5) t = some a ∧ hasRn h a (hi h (w + 148) k) ∧ (0 ≤ hi h (w + 149) k ∧ hi h (w + 149) k < hi h (w + 150) k ∧ hi h (w + 150) k < hi h a 7) ∧ hi h (a + 1) (hi h (w + 149) k) = spJ h w k ∧ snJ h w k ≤ hi h (w + 152) k ∧ hi h (w + 152) k = baseOf h a (hi h (w + 148) k) + hi h (a + 3) (hi h (w + 149) k) ∧ hi h (w + 153) k = baseOf h a (hi h (w + 148) k) + hi h (a + 2) (hi h (w + 150) k) ∧ hi h (w + 151) k = hi h (a + 1) (hi h (w + 150) k)) ∨
  (hr h (w + 147) k = none ∧ Wy h w (spJ h w k) (hi h (w + 151) k) (hi h (w + 153) k - hi h (w + 152) k) ∧ hi h (w + 152) k = tmJ h w k ∧ (0 < k → hr h (w + 147) (k - 1) ≠ none))
/-- how many rides there are below k -/
def rcN (h : Hp) (w : Nat) : Nat → Int
  | 0 => 0
  | k + 1 => rcN h w k + if hr h (w + 147) (k : Int) = none then 0 else 1
section APP
variable {h h' : Hp} {w X : Nat} {r : Option Nat} {dd i j tg bg en tt ff k : Int}
theorem App.off (q : App h h' w r dd i j tg bg en tt ff) {a : Nat} (ha : ¬ PJ w a) : hi h' a = hi h a := funext fun x => q.1.2.2.2.2.2.2.2.1 _ _ ha
theorem App.sp (q : App h h' w r dd i j tg bg en tt ff) (h1 : k ≤ szJ h w) : spJ h' w k = spJ h w k := by
  unfold spJ
  by_cases c : k = 0
  · rw [if_pos c, if_pos c]; exact q.2.2.2.2.1.1
  · rw [if_neg c, if_neg c, q.2.2.2.1.1, upF_ne _ (by omega)]
theorem App.tm (q : App h h' w r dd i j tg bg en tt ff) (h1 : k ≤ szJ h w) : tmJ h' w k = tmJ h w k := by
  unfold tmJ
  by_cases c : k = 0
  · rw [if_pos c, if_pos c]; exact q.2.2.2.2.1.2.2
  · rw [if_neg c, if_neg c, q.2.2.2.1.2.2, upF_ne _ (by omega)]
theorem App.lt (q : App h h' w r dd i j tg bg en tt ff) (h1 : k < szJ h w) : hr h' (w + 147) k = hr h (w + 147) k := by rw [q.2.1, if_neg (by omega)]
theorem App.af (q : App h h' w r dd i j tg bg en tt ff) (h1 : k ≤ szJ h w) : afJ h' w k ↔ afJ h w k := by
  have e : 0 < k → hr h' (w + 147) (k - 1) = hr h (w + 147) (k - 1) := fun z => q.lt (by omega)
  exact ⟨fun z => ⟨z.1, by rw [← e z.1]; exact z.2⟩, fun z => ⟨z.1, by rw [e z.1]; exact z.2⟩⟩
theorem App.sn (q : App h h' w r dd i j tg bg en tt ff) (h1 : k ≤ szJ h w) : snJ h' w k = snJ h w k := by
  unfold snJ
  rw [q.tm h1, q.sp h1, q.off (a := w + 2) (by unfold PJ; omega)]
  by_cases c : afJ h w k
  · rw [if_pos c, if_pos ((q.af h1).mpr c)]
  · rw [if_neg c, if_neg (fun z => c ((q.af h1).mp z))]
theorem App.leg (q : App h h' w r dd i j tg bg en tt ff) (hT : TT h w X) (h1 : k < szJ h w) (z : LegOk h w k) : LegOk h' w k := by
  have sp := q.sp (k := k) (by omega)
  have tm := q.tm (k := k) (by omega)
  have sn := q.sn (k := k) (by omega)
  have ehr := q.lt h1
  have e148 : hi h' (w + 148) k = hi h (w + 148) k := by rw [q.2.2.1.1, upF_ne _ (by omega)]
  have e149 : hi h' (w + 149) k = hi h (w + 149) k := by rw [q.2.2.1.2.1, upF_ne _ (by omega)]
  have e150 : hi h' (w + 150) k = hi h (w + 150) k := by rw [q.2.2.1.2.2, upF_ne _ (by omega)]
  have e151 : hi h' (w + 151) k = hi h (w + 151) k := by rw [q.2.2.2.1.1, upF_ne _ (by omega)]
  have e152 : hi h' (w + 152) k = hi h (w + 152) k := by rw [q.2.2.2.1.2.1, upF_ne _ (by omega)]
  have e153 : hi h' (w + 153) k = hi h (w + 153) k := by rw [q.2.2.2.1.2.2, upF_ne _ (by omega)]
  have e1 : hi h' (w + 1) = hi h (w + 1) := q.off (by unfold PJ; omega)
  rcases z with ⟨t, a, z1, z2, z3, z4, z5⟩ | ⟨z1, z2, z3, z4⟩
  · obtain ⟨a', c, y1, y2, y3, -⟩ := hT.2.2.2.2.2.1 t z2.1 z2.2
    cases z3.symm.trans y1
    obtain ⟨k1, k2, k3⟩ := hasRn.kept hT q.1.fm PJoff (d := hi h (w + 148) k) z2.1 z2.2 z3
    refine Or.inl ⟨t, a, ehr.trans z1, by rw [e1]; exact z2, (q.1.2.2.2.2.2.2.2.2 _ _ (by unfold PJR; omega)).trans z3, ?_⟩
    rw [e148, e149, e150, e151, e152, e153, sp, sn, k3, q.off (a := a) (by unfold PJ; omega), q.off (a := a + 1) (by unfold PJ; omega), q.off (a := a + 2) (by unfold PJ; omega), q.off (a := a + 3) (by unfold PJ; omega)]
    exact ⟨k1.mpr z4, z5⟩
  · exact Or.inr ⟨ehr.trans z1, by rw [Wy.kept hT q.1.fm PJoff, sp, e151, e152, e153]; exact z2, by rw [e152, tm]; exact z3, fun y => by rw [q.lt (by omega)]; exact z4 y⟩
theorem App.rc (q : App h h' w r dd i j tg bg en tt ff) : ∀ n : Nat, (n : Int) ≤ szJ h w → rcN h' w n = rcN h w n
  | 0, _ => rfl
  | n + 1, z => by
    show rcN h' w n + _ = rcN h w n + _
    rw [q.rc n (by omega), q.lt (k := n) (by omega)]
theorem App.rc1 (q : App h h' w r dd i j tg bg en tt ff) {n : Nat} (hn : szJ h w = n) : rcN h' w (n + 1) = rcN h w n + if r = none then 0 else 1 := by
  show rcN h' w n + _ = _
  rw [q.rc n (by omega), q.2.1, if_pos hn.symm]
theorem App.at1 (q : App h h' w r dd i j tg bg en tt ff) (h0 : 0 ≤ szJ h w) : spJ h' w (szJ h w + 1) = tg ∧ tmJ h' w (szJ h w + 1) = en ∧ (afJ h' w (szJ h w + 1) ↔ r ≠ none) := by
  have e : szJ h w + 1 - 1 = szJ h w := by omega
  refine ⟨?_, ?_, ?_⟩
  · unfold spJ
    rw [if_neg (by omega), e, q.2.2.2.1.1, upF_same]
  · unfold tmJ
    rw [if_neg (by omega), e, q.2.2.2.1.2.2, upF_same]
  · unfold afJ
    rw [e, q.2.1, if_pos rfl]
    exact ⟨fun z => z.2, fun z => ⟨by omega, z⟩⟩
theorem TkR.leg {m : Nat} (hT : TT h w X) (q : TkR h h' w m) : LegOk h' w (szJ h w) := by
  obtain ⟨t, dd, i, j, tt, a, q1, q2, q3, q4, q5, q6, q7, q8, q9, q⟩ := q
  obtain ⟨a', c, y1, y2, y3, -⟩ := hT.2.2.2.2.2.1 t q1.1 q1.2
  cases q2.symm.trans y1
  obtain ⟨k1, k2, k3⟩ := hasRn.kept hT q.1.fm PJoff (d := dd) q1.1 q1.2 q2
  refine Or.inl ⟨t, a, by rw [q.2.1, if_pos rfl], by rw [q.off (a := w + 1) (by unfold PJ; omega)]; exact q1, (q.1.2.2.2.2.2.2.2.2 _ _ (by unfold PJR; omega)).trans q2, ?_⟩
  rw [q.2.2.1.1, q.2.2.1.2.1, q.2.2.1.2.2, q.2.2.2.1.1, q.2.2.2.1.2.1, q.2.2.2.1.2.2, upF_same, upF_same, upF_same, upF_same, upF_same, upF_same, q.sp (Int.le_refl _), q.sn (Int.le_refl _), k3, q.off (a := a) (by unfold PJ; omega), q.off (a := a + 1) (by unfold PJ; omega), q.off (a := a + 2) (by unfold PJ; omega), q.off (a := a + 3) (by unfold PJ; omega)]
  exact ⟨k1.mpr q3, q5, q6, q7, rfl, rfl, rfl⟩
theorem TkW.leg {L : Nat} (hT : TT h w X) (q : TkW h h' w L) : LegOk h' w (szJ h w) := by
  obtain ⟨s', mm, q1, q2, q3, q⟩ := q
  refine Or.inr ⟨by rw [q.2.1, if_pos rfl], ?_, ?_, fun y => ?_⟩
  · rw [Wy.kept hT q.1.fm PJoff, q.sp (Int.le_refl _), q.2.2.2.1.1, q.2.2.2.1.2.1, q.2.2.2.1.2.2, upF_same, upF_same, upF_same, show tmJ h w (szJ h w) + mm - tmJ h w (szJ h w) = mm by omega]
    exact q1
  · rw [q.2.2.2.1.2.1, upF_same, q.tm (Int.le_refl _)]
  · rw [q.lt (by omega)]
    exact (q3 y).2
end APP
