/-! ===== a new object; the law's table (no machine here) ===== -/
def Low (h : Hp) (w : Nat) : Prop := ∀ k, k < 32 → (w + 50 ≤ tAr h (ofK w k) ∧ tAr h (ofK w k) ≤ w + 145) ∧ w + 50 ≤ pAr h (ofK w k) ∧ pAr h (ofK w k) ≤ w + 145
section FRH
variable {h h' : Hp} {w X X' Y A A' B B' : Nat} {P R : Nat → Prop}
theorem FaS.grow (F : FaS h w X 0 A B) (lw : Low h w) (e : fm P R h h') (hP : ∀ a, P a → ¬ (w + 47 ≤ a ∧ a ≤ w + 145)) (hR : ∀ a, R a → ¬ (w + 47 ≤ a ∧ a ≤ w + 145)) (hX : w + 154 ≤ X') (hX' : X' ≤ nx h') (rA : nx h' + A' ≤ nx h + A) (rB : us h' + B' ≤ us h + B) : FaS h' w X' 0 A' B' ∧ Low h' w := by
  obtain ⟨⟨f1, f2, f3, f4⟩, ⟨⟨f5, f6⟩, f7, f8⟩, f9, f10, f11, f12, f14, f15⟩ := F
  have e0 := e
  obtain ⟨a1, a2, a3, a4, a5, a6⟩ := e
  have ok : ∀ k, k < 32 → w + 47 ≤ ofK w k ∧ ofK w k ≤ w + 145 := fun k hk => by unfold ofK; omega
  have oth : ∀ j, j < 32 → OfE h h' (ofK w j) := fun j hj => OfE.of (f10 j hj).1 e0 (fun y => hP _ y (ok j hj)) (fun y => hR _ y (ok j hj)) (fun y => hP _ y (by have := lw j hj; omega)) (fun y => hP _ y (by have := lw j hj; omega))
  have r : ∀ a k, w + 47 ≤ a → a ≤ w + 145 → hr h' a k = hr h a k := fun a k z0 z1 => a4 a k (by omega) (fun y => hR a y ⟨z0, z1⟩)
  have K : ∀ a, a < w + 154 → kd h' a = kd h a ∧ ln h' a = ln h a := fun a z => a2 a (by omega)
  have sl := sL_upd (h := h) (h' := h') (w := w) (k := 32) (fun j hj hjk => by rw [(oth j hj).1]; exact (oth j hj).2.2.2.2.2.1) 32 (Nat.le_refl _)
  rw [if_neg (by omega)] at sl
  have lw' : Low h' w := fun k hk => by rw [(oth k hk).1, (oth k hk).2.1]; exact lw k hk
  refine ⟨⟨⟨f1, (K _ (by omega)).1.trans f2, (r _ _ (by omega) (by omega)).trans f3, (r _ _ (by omega) (by omega)).trans f4⟩, ⟨⟨(K _ (by omega)).1.trans f5, (K _ (by omega)).2.trans f6⟩, (K _ (by omega)).1.trans f7, (K _ (by omega)).2.trans f8⟩, fun s hs => ?_, fun j hj => ?_, fun k j hk hj hkj => ?_, ?_, hX, hX'⟩, lw'⟩
  · rw [r _ _ (by omega) (by omega), r _ _ (by omega) (by omega)]; exact f9 s hs
  · have := lw' j hj
    exact ⟨(oth j hj).2.2.2.2.2.2 (f10 j hj).1, Or.inl this.1, Or.inl this.2⟩
  · rw [(oth j hj).1, (oth j hj).2.1, (oth k hk).1, (oth k hk).2.1]
    exact f11 k j hk hj hkj
  · rw [sl, a5, a6]; omega
theorem mA.rows {o : Nat} (q : mA h o 7 16) : rowsAt h o (o + 1) := by
  obtain ⟨q1, q2, q3, q4⟩ := q
  refine ⟨q1, q2, fun k hk => ⟨?_, (q4 k (by omega)).1, (q4 k (by omega)).2.1⟩⟩
  have := q3 (k : Int) (by omega) (by omega)
  rw [this, Int.toNat_natCast]
theorem WsN.sk (q : WsN h w) : Sk h w := by
  obtain ⟨q1, ⟨q2, q3, q4, q5, q6, q7, q8⟩, ⟨n1, n2, n3, n4, n5, n6, n7, n8, n9, n10⟩, ⟨r1, r2, r3, r4, r5, r6, r7, r8⟩, -, ⟨o1, o2, o3, o4, o5, o6, o7, o8⟩, ⟨b1, b2, b3, b4, b5, b6, b7⟩, ⟨f1, -⟩, ⟨j1, j2, j3, j4, j5, j6, j7, j8, j9, j10, j11, j12, j13, j14, j15, j16⟩⟩ := q
  refine ⟨⟨q1, q2, q3, q5, q6, q7, q8⟩, ⟨n1, ⟨n2, n3, n4, n5⟩, ⟨n7.1, n7.2.1⟩, ⟨n8.1, n8.2.1⟩, ⟨n9.1, n9.2.1⟩, n10.1, n10.2.1⟩, ⟨r1, ⟨r2, r3, r4⟩, ⟨r6.1, r6.2.1⟩, ⟨r7.1, r7.2.1⟩, r8.1, r8.2.1⟩, ⟨o1, ⟨o2, o3, o4⟩, o5.rows, o6.rows, o7.1, o7.2.1⟩, ⟨b1, ⟨b2, b3⟩, b6.rows, b7.rows⟩, ⟨j1, ⟨j2, j3, j4, j5, j6, j7, j8⟩, ⟨j10.1, j10.2.1⟩, fun k hk => ?_⟩⟩
  have : k = 0 ∨ k = 1 ∨ k = 2 ∨ k = 3 ∨ k = 4 ∨ k = 5 := by omega
  rcases this with rfl | rfl | rfl | rfl | rfl | rfl
  · exact ⟨j11.1, j11.2.1⟩
  · exact ⟨j12.1, j12.2.1⟩
  · exact ⟨j13.1, j13.2.1⟩
  · exact ⟨j14.1, j14.2.1⟩
  · exact ⟨j15.1, j15.2.1⟩
  · exact ⟨j16.1, j16.2.1⟩
theorem sL_all (q : ∀ k, k < 32 → ln h (tAr h (ofK w k)) = 16) : ∀ n : Nat, n ≤ 32 → sL h w n = 16 * n
  | 0, _ => rfl
  | n + 1, hn => by
    have := sL_all q n (by omega)
    have := q n (by omega)
    show sL h w n + ln h (tAr h (ofK w n)) = _
    omega
theorem WsN.fas (q : WsN h w) (hn : w + 154 ≤ nx h) (hX : w + 154 ≤ X ∧ X ≤ nx h) (rA : nx h + A + 20438 ≤ cn h) (rB : us h + B + 735744 ≤ cs h) : FaS h w X 0 A B ∧ Low h w := by
  obtain ⟨-, -, -, -, -, -, -, ⟨f1, f2, f3, f4, f5, f6, f7⟩, -⟩ := q
  have of : ∀ k, k < 32 → OffN h (ofK w k) := fun k hk => by
    obtain ⟨g1, g2, g3, g4⟩ := f7 (k / 2) (by omega)
    by_cases c : k % 2 = 0
    · rw [show ofK w k = w + 47 + 3 + 6 * (k / 2) by unfold ofK; omega]; exact g2
    · rw [show ofK w k = w + 47 + 6 + 6 * (k / 2) by unfold ofK; omega]; exact g4
  have eT : ∀ k, k < 32 → tAr h (ofK w k) = ofK w k + 1 := fun k hk => by unfold tAr; rw [(of k hk).2.1]; rfl
  have eP : ∀ k, k < 32 → pAr h (ofK w k) = ofK w k + 2 := fun k hk => by unfold pAr; rw [(of k hk).2.2.1]; rfl
  have sl := sL_all (h := h) (w := w) (fun k hk => by rw [eT k hk]; exact (of k hk).2.2.2.2.1.2.1) 32 (Nat.le_refl _)
  refine ⟨⟨⟨by omega, f1, f2, f3⟩, ⟨f5, f6⟩, fun s hs => ?_, fun k hk => ?_, fun k j hk hj hkj => ?_, ?_, hX⟩, fun k hk => ?_⟩
  · obtain ⟨g1, g2, g3, g4⟩ := f7 s hs
    rw [show ofK w (2 * s) = w + 47 + 3 + 6 * s by unfold ofK; omega, show ofK w (2 * s + 1) = w + 47 + 6 + 6 * s by unfold ofK; omega]
    exact ⟨g1, g3⟩
  · obtain ⟨o1, o2, o3, o4, o5, o6⟩ := of k hk
    refine ⟨?_, ?_⟩
    · unfold OfS
      rw [eT k hk, eP k hk, o4, o5.2.1, o6.2.1]
      exact ⟨o1, o2, o3, ⟨o5.1, o6.1, rfl, by omega, by omega⟩, by omega, by omega, by unfold ofK; omega, by unfold ofK; omega, by unfold ofK; omega⟩
    · rw [eT k hk, eP k hk]
      unfold Rg ofK
      omega
  · rw [eT k hk, eP k hk, eT j hj, eP j hj]
    unfold ofK
    omega
  · rw [sl]; omega
  · rw [eT k hk, eP k hk]
    unfold ofK
    omega
/-- nothing was told -/
theorem GT.none (h4 : hi h (w + 1) 4 = 0) (h5 : hi h (w + 1) 5 = 0) (h6 : hi h (w + 1) 6 = 0) (h7 : hi h (w + 1) 7 = 0) (hc : ∀ k, hi h (w + 2) k = 0) (hY : w + 154 ≤ Y ∧ Y ≤ X ∧ X ≤ nx h) : GT h w Y X := by
  refine ⟨⟨by omega, by omega, by omega, fun k => by rw [hc k]; omega, fun i z0 z1 => by omega, fun t z0 z1 => by omega, hY.2.2, by omega⟩, ⟨hY.1, hY.2.1⟩, by omega, fun i z0 z1 => by omega, fun i z0 z1 => by omega, fun t z0 z1 => by omega, fun i j z0 z1 z2 => by omega, fun s t z0 z1 z2 => by omega, fun i t z0 z1 z2 z3 => by omega⟩
end FRH
/-! the table -/
def MxA (h : Hp) (o K kk : Nat) (n L : Int) : Prop := kd h o = K ∧ ln h o = n ∧ ∀ k : Nat, (k : Int) < n → hr h o (k : Int) = some (o + 1 + k) ∧ kd h (o + 1 + k) = kk ∧ ln h (o + 1 + k) = L
/-- its cells: at G itself, the object behind it, the rows behind that; sa is the script -/
def TbS (h : Hp) (G sa : Nat) : Prop := (kd h G = 13 ∧ hr h G 0 = some (G + 1) ∧ hr h G 1 = some sa ∧ hr h G 4 = some (G + 155) ∧ hr h G 6 = some (G + 156) ∧ hr h G 8 = some (G + 157) ∧ hr h G 10 = some (G + 161) ∧ hr h G 11 = some (G + 162) ∧ hr h G 12 = some (G + 163) ∧ hr h G 13 = some (G + 164) ∧ hr h G 14 = some (G + 173) ∧ hr h G 15 = some (G + 182) ∧ hr h G 16 = some (G + 191)) ∧
  ((kd h (G + 155) = 100 ∧ ln h (G + 155) = 7) ∧ (kd h (G + 156) = 103 ∧ ln h (G + 156) = 8) ∧ (kd h (G + 161) = 100 ∧ ln h (G + 161) = 8) ∧ (kd h (G + 162) = 100 ∧ ln h (G + 162) = 8) ∧ kd h (G + 163) = 100 ∧ ln h (G + 163) = 8) ∧
  (MxA h (G + 157) 108 102 3 12 ∧ MxA h (G + 164) 103 100 8 5 ∧ MxA h (G + 173) 103 100 8 5 ∧ MxA h (G + 182) 103 100 8 5 ∧ MxA h (G + 191) 103 100 8 12) ∧ kd h sa = 200 ∧ (0 ≤ ln h sa ∧ ln h sa ≤ 1000) ∧ sa < G ∧ G + 200 ≤ nx h
theorem MxA.kept {P R : Nat → Prop} {h h' : Hp} {o K kk : Nat} {n L : Int} (q : MxA h o K kk n L) (e : fm P R h h') (hR : ¬ R o) (ho : (o : Int) + 1 + n ≤ nx h) (hn : 0 ≤ n) : MxA h' o K kk n L := by
  obtain ⟨q1, q2, q3⟩ := q
  exact ⟨(e.2.1 o (by omega)).1.trans q1, (e.2.1 o (by omega)).2.trans q2, fun k hk => ⟨(e.2.2.2.1 o _ (by omega) hR).trans (q3 k hk).1, (e.2.1 _ (by omega)).1.trans (q3 k hk).2.1, (e.2.1 _ (by omega)).2.trans (q3 k hk).2.2⟩⟩
theorem TbS.kept {P R : Nat → Prop} {h h' : Hp} {G sa : Nat} (q : TbS h G sa) (e : fm P R h h') (hR : ∀ a, R a → ¬ (a = G ∨ a = G + 157 ∨ a = G + 164 ∨ a = G + 173 ∨ a = G + 182 ∨ a = G + 191)) : TbS h' G sa := by
  obtain ⟨⟨k0, r0, r1, r4, r6, r8, r10, r11, r12, r13, r14, r15, r16⟩, ⟨⟨a1, a2⟩, ⟨a3, a4⟩, ⟨a5, a6⟩, ⟨a7, a8⟩, a9, a10⟩, ⟨m1, m2, m3, m4, m5⟩, s1, s1', s2, s3⟩ := q
  have K : ∀ a, a < nx h → kd h' a = kd h a ∧ ln h' a = ln h a := fun a z => e.2.1 a z
  have H : ∀ k, hr h' G k = hr h G k := fun k => e.2.2.2.1 G k (by omega) (fun z => hR G z (Or.inl rfl))
  have := e.1
  exact ⟨⟨(K _ (by omega)).1.trans k0, (H _).trans r0, (H _).trans r1, (H _).trans r4, (H _).trans r6, (H _).trans r8, (H _).trans r10, (H _).trans r11, (H _).trans r12, (H _).trans r13, (H _).trans r14, (H _).trans r15, (H _).trans r16⟩,
    ⟨⟨(K _ (by omega)).1.trans a1, (K _ (by omega)).2.trans a2⟩, ⟨(K _ (by omega)).1.trans a3, (K _ (by omega)).2.trans a4⟩, ⟨(K _ (by omega)).1.trans a5, (K _ (by omega)).2.trans a6⟩, ⟨(K _ (by omega)).1.trans a7, (K _ (by omega)).2.trans a8⟩, (K _ (by omega)).1.trans a9, (K _ (by omega)).2.trans a10⟩,
    ⟨m1.kept e (fun z => hR _ z (by omega)) (by omega) (by omega), m2.kept e (fun z => hR _ z (by omega)) (by omega) (by omega), m3.kept e (fun z => hR _ z (by omega)) (by omega) (by omega), m4.kept e (fun z => hR _ z (by omega)) (by omega) (by omega), m5.kept e (fun z => hR _ z (by omega)) (by omega) (by omega)⟩, (K _ (by omega)).1.trans s1, by rw [(K sa (by omega)).2]; exact s1', s2, by omega⟩
/-- what the table tells of the timetable -/
def RN (h : Hp) (G : Nat) : Prop := hi h G 3 = hi h (G + 1 + 1) 4 ∧ hi h G 5 = hi h (G + 1 + 1) 5 ∧ hi h G 7 = hi h (G + 1 + 1) 6 ∧ hi h G 9 = hi h (G + 1 + 1) 7
def RC (h : Hp) (G : Nat) : Prop := ∀ c d, 0 ≤ c → c < hi h (G + 1 + 1) 6 → 0 ≤ d → d < 12 → (hi h (G + 158 + c.toNat) d = 1 ∧ isRun h (caA h (G + 1) c) d) ∨ (hi h (G + 158 + c.toNat) d = 0 ∧ ¬ isRun h (caA h (G + 1) c) d)
def RT (h : Hp) (G : Nat) : Prop := ∀ t, 0 ≤ t → t < hi h (G + 1 + 1) 7 → (0 ≤ hi h (G + 161) t ∧ hi h (G + 161) t < hi h (G + 1 + 1) 6) ∧ hr h (adT h (G + 1) t) 1 = some (caA h (G + 1) (hi h (G + 161) t))
def RL (h : Hp) (G : Nat) : Prop := ∀ t d, 0 ≤ t → t < 8 → 0 ≤ d → d < 12 → hi h (G + 192 + t.toNat) d = if t < hi h (G + 1 + 1) 7 then hi h (adT h (G + 1) t + 4) d else 0
def Rel (h : Hp) (G X : Nat) : Prop := GT h (G + 1) (G + 200) X ∧ RN h G ∧ RC h G ∧ RT h G ∧ RL h G
/-- a draw changes nothing but how many were drawn -/
theorem Rel.draw {h : Hp} {G X : Nat} {v : Int} (q : Rel h G X) (hX : G + 200 ≤ nx h) : Rel (setI h G 2 v) G X := by
  obtain ⟨q1, q2, q3, q4, q5⟩ := q
  have hXn := q1.1.2.2.2.2.2.2
  have e : fm (fun a => a = G) nP h (setI h G 2 v) := ch.fm (ch_setI rfl)
  have eo : ∀ a, a ≠ G → hi (setI h G 2 v) a = hi h a := fun a ha => hi_setI_ne ha
  have e3 : ∀ k, k ≠ 2 → hi (setI h G 2 v) G k = hi h G k := fun k hk => by rw [hi_upF, upF_ne _ hk]
  obtain ⟨g, -, -, g3, g4⟩ := q1.eq (EqOn.of e hXn.1 (by omega) (fun a z y => by have z : a = G := z; omega) (fun a z => z.elim))
  have n1 : hi (setI h G 2 v) (G + 1 + 1) = hi h (G + 1 + 1) := eo _ (by omega)
  have ca : ∀ c, caA (setI h G 2 v) (G + 1) c = caA h (G + 1) c := fun c => rfl
  have ad : ∀ t, adT (setI h G 2 v) (G + 1) t = adT h (G + 1) t := fun t => rfl
  refine ⟨g, ?_, fun c d c0 c1 d0 d1 => ?_, fun t t0 t1 => ?_, fun t d t0 t1 d0 d1 => ?_⟩
  · unfold RN
    rw [n1, e3 3 (by decide), e3 5 (by decide), e3 7 (by decide), e3 9 (by decide)]
    exact q2
  · rw [n1] at c1
    rw [eo _ (by omega), ca]
    rcases q3 c d c0 c1 d0 d1 with z | z
    · exact Or.inl ⟨z.1, ((g3 c c0 c1).2 d).mpr z.2⟩
    · exact Or.inr ⟨z.1, fun y => z.2 (((g3 c c0 c1).2 d).mp y)⟩
  · rw [n1] at t1
    rw [eo _ (by omega), n1, ad, ca]
    exact q4 t t0 t1
  · rw [n1, eo _ (by omega), ad]
    by_cases ht : t < hi h (G + 1 + 1) 7
    · have := (q1.2.2.2.2.2.1 t t0 ht).1
      rw [eo _ (by omega)]
      exact q5 t d t0 t1 d0 d1
    · rw [if_neg ht]
      have := q5 t d t0 t1 d0 d1
      rw [if_neg ht] at this
      exact this
