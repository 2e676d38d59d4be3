/-! ===== the law: what lies between the calls of a step; journeys compared ===== -/
section HF9
variable {p : Program} {l : Launch} {e : Env} {R : Room} {s : State} {m : MethodId} {args : Array Value} {below : List Frame} {meth : Method} {c : Code} {H : Heap} {locs : List Loc} {cells slots : Nat} {Q : State → Prop}
theorem lv_lcmp {cc : ByteArray} {pc : Nat} {ls : Array Slot} {rest : List Value} (hexec : p.tables.exec = Jvm.exec) (hb : c.code = cc) {x y : Int64} (hdg : decode cc pc = .ok (.lcmp, 1))
    (k : W p l e R s m args below meth c H locs cells slots Q (F0 m (pc + 1) ls (.int (if x > y then 1 else if x == y then 0 else -1) :: rest))) : W p l e R s m args below meth c H locs cells slots Q (F0 m pc ls (.long y :: .long x :: rest)) := by
  intro T hT X
  obtain ⟨t, a, b⟩ := k T hT X
  refine ⟨t, ?_, b⟩
  jvm_step X.here [X.here.top, hexec, hb, hdg]
  by_cases h1 : x > y
  · simp only [h1, if_true] at a ⊢
    exact a
  · by_cases h2 : x = y
    · simp [h2] at a ⊢
      exact a
    · simp [h1, h2] at a ⊢
      exact a
end HF9
section HG9
variable {i pc : Nat} {ls : List (Option AV)} {st : List AV} {h : Hp} {Q : Option AV → Hp → Prop} {X : String → Hp → Prop}
/-- the same number twice -/
theorem wp_lcmpE {x : Int} (hd : decode (mB i) pc = .ok (.lcmp, 1)) (k : wp i (pc + 1) ls (vI 0 :: st) h Q X) : wp i pc ls (vL x :: vL x :: st) h Q X := by
  intro D DA B0 CN CS p l e R s m args below meth c H locs ls' hfl hE
  have kk := k D DA B0 CN CS p l e R s m args below meth c H locs ls' hfl hE
  have ev : Int32.ofInt 0 = (if Int64.ofInt x > Int64.ofInt x then 1 else if Int64.ofInt x == Int64.ofInt x then 0 else -1) := by
    have h1 : ¬ Int64.ofInt x > Int64.ofInt x := fun z => by
      have := Int64.lt_iff_toInt_lt.mp z
      omega
    rw [if_neg h1, if_pos (by simp)]
    rfl
  refine lv_lcmp hE.1.1 hE.1.2.1 hd ?_
  rw [← ev]
  exact kk
end HG9
/-- what a step's calls may write: the search's cells, the offers' -/
def PL (G X : Nat) : Nat → Prop := fun a => a = G ∨ (G + 7 ≤ a ∧ a ≤ G + 146) ∨ X ≤ a
def RLw (G X : Nat) : Nat → Prop := fun a => a = G + 8 ∨ (G + 48 ≤ a ∧ a ≤ G + 146) ∨ X ≤ a
theorem offL {G X : Nat} : Off (G + 1) X (PL G X) (RLw G X) := ⟨fun a z => by unfold PL at z; omega, fun a z => by unfold RLw at z; omega⟩
section LI9
variable {h h' h1 : Hp} {G sa X A B : Nat} {D : Int} {P R : Nat → Prop}
theorem DrS.call (q : DrS h G sa X D) (e : fm P R h h') (hP : ∀ a, P a → (G + 7 ≤ a ∧ a ≤ G + 154) ∨ X ≤ a) (hR : ∀ a, R a → a = G + 8 ∨ a = G + 148 ∨ (G + 48 ≤ a ∧ a ≤ G + 146) ∨ X ≤ a) : DrS h' G sa X D := by
  obtain ⟨q1, q2, ⟨g, ⟨n3, n5, n7, n9⟩, rc, rt, rl⟩, q4, q5⟩ := q
  have hX := q1.2.2.2.2.2.2
  have hXn := g.1.2.2.2.2.2.2
  have hXY := g.2.1.2
  have eo : ∀ a, a < X → ¬ (G + 7 ≤ a ∧ a ≤ G + 154) → hi h' a = hi h a := fun a ha hn => funext fun k => e.2.2.1 a k (by omega) (fun z => by have := hP a z; omega)
  have er : ∀ a k, a < X → ¬ (G + 7 ≤ a ∧ a ≤ G + 154) → hr h' a k = hr h a k := fun a k z y => e.2.2.2.1 a k (by omega) (fun z => by have := hR a z; omega)
  obtain ⟨g', -, -, g3, g4⟩ := g.eq (EqOn.of e hXn.1 (by omega) (fun a z y => by have := hP a z; omega) (fun a z y => by have := hR a z; omega))
  have n1 : hi h' (G + 1 + 1) = hi h (G + 1 + 1) := eo _ (by omega) (by omega)
  have ca : ∀ c, caA h' (G + 1) c = caA h (G + 1) c := fun c => by unfold caA; rw [er _ _ (by omega) (by omega)]
  have ad : ∀ t, adT h' (G + 1) t = adT h (G + 1) t := fun t => by unfold adT; rw [er _ _ (by omega) (by omega)]
  have eG : hi h' G = hi h G := eo _ (by omega) (by omega)
  refine ⟨q1.kept e (fun a z y => by have := hR a z; omega), q2.kept e (fun a z => by have := hR a z; omega) (by omega), ⟨g', by unfold RN; rw [n1, eG]; exact ⟨n3, n5, n7, n9⟩, fun c d c0 c1 d0 d1 => ?_, fun t t0 t1 => ?_, fun t d t0 t1 d0 d1 => ?_⟩, by unfold CnT; rw [n1]; exact q4, by rw [eG]; exact q5⟩
  · rw [n1] at c1
    have c6 := q4.2.2.1
    rw [eo _ (by omega) (by omega), ca]
    rcases rc c d c0 c1 d0 d1 with z | z
    · exact Or.inl ⟨z.1, ((g3 c c0 c1).2 d).mpr z.2⟩
    · exact Or.inr ⟨z.1, fun y => z.2 (((g3 c c0 c1).2 d).mp y)⟩
  · rw [n1] at t1
    obtain ⟨c9, x1, x2, x3, -⟩ := adT_of g.1 t0 t1
    have ab := (g.2.2.2.2.2.1 t t0 t1).1
    rw [eo _ (by omega) (by omega), n1, ad, ca, er _ _ (by omega) (by omega)]
    exact rt t t0 t1
  · rw [n1, eo _ (by omega) (by omega), ad]
    by_cases ht : t < hi h (G + 1 + 1) 7
    · obtain ⟨c9, x1, x2, x3, -⟩ := adT_of g.1 t0 ht
      have ab := (g.2.2.2.2.2.1 t t0 ht).1
      rw [eo _ (by omega) (by omega)]
      exact rl t d t0 t1 d0 d1
    · rw [if_neg ht]
      have := rl t d t0 t1 d0 d1
      rw [if_neg ht] at this
      exact this
/-- the state of a step, since its find -/
def LI (h1 h : Hp) (G sa X : Nat) (D : Int) (A B : Nat) : Prop := DrS h G sa X D ∧ (∃ g, FaS h (G + 1) X g A B) ∧ fm (PL G X) (RLw G X) h1 h
theorem LI.tt (q : LI h1 h G sa X D A B) : TT h (G + 1) X := q.1.2.2.1.1.1
theorem LI.sk (q : LI h1 h G sa X D A B) : Sk h (G + 1) := q.1.2.1
theorem LI.up (q : LI h1 h G sa X D A B) {D' : Int} (hD : D ≤ D') : LI h1 h G sa X D' A B := ⟨q.1.up hD, q.2⟩
theorem LI.n (q : LI h1 h G sa X D A B) (hT1 : TT h1 (G + 1) X) : hi h (G + 1 + 1) = hi h1 (G + 1 + 1) := offL.i q.2.2 hT1.2.2.2.2.2.2.1 (a := G + 1 + 1) (by omega) hT1.2.2.2.2.2.2.2
theorem LI.ea (q : LI h1 h G sa X D A B) (hT1 : TT h1 (G + 1) X) {o T V d e : Int} {K : Nat} (z : Ea h (G + 1) o T V K d e) : Ea h1 (G + 1) o T V K d e := (Ea.kept hT1 q.2.2 offL).mp z
theorem LI.je (q : LI h1 h G sa X D A B) (hT1 : TT h1 (G + 1) X) : hi h (G + 1 + 2) = hi h1 (G + 1 + 2) ∧ Wy h (G + 1) = Wy h1 (G + 1) ∧ Ra h (G + 1) = Ra h1 (G + 1) := ⟨offL.i q.2.2 hT1.2.2.2.2.2.2.1 (a := G + 1 + 2) (by omega) hT1.2.2.2.2.2.2.2, Wy.kept hT1 q.2.2 offL, Ra.kept hT1 q.2.2 offL⟩
theorem LI.call (q : LI h1 h G sa X D A B) (c : ch P R h h') (hP : ∀ a, P a → G + 7 ≤ a ∧ a ≤ G + 47) (hR : ∀ a, R a → a = G + 8) : LI h1 h' G sa X D A B := by
  obtain ⟨q1, ⟨g, F⟩, q3⟩ := q
  have hX := q1.1.2.2.2.2.2.2
  have hXY := q1.2.2.1.1.2.1.2
  refine ⟨q1.call c.fm (fun a z => Or.inl ⟨(hP a z).1, by have := (hP a z).2; omega⟩) (fun a z => Or.inl (hR a z)), ⟨g, F.ch c (fun a z y => ?_) (fun a z y => ?_)⟩, q3.trans (c.fm.mono (fun a z => Or.inr (Or.inl ⟨(hP a z).1, by have := (hP a z).2; omega⟩)) (fun a z => Or.inl (hR a z)))⟩
  · have y : (G + 1 + 47 ≤ a ∧ a ≤ G + 1 + 145) ∨ X ≤ a := y
    have := hP a z
    omega
  · have y : (G + 1 + 47 ≤ a ∧ a ≤ G + 1 + 145) ∨ X ≤ a := y
    have := hR a z
    omega
theorem LI.cheap (q : LI h1 h G sa X D A B) (c : fm (PCh (G + 1) X) (PChR (G + 1) X) h h') (F : ∃ g, FaS h' (G + 1) X g A B) : LI h1 h' G sa X D A B := by
  obtain ⟨q1, -, q3⟩ := q
  have p1 : ∀ a, PCh (G + 1) X a → (G + 7 ≤ a ∧ a ≤ G + 146) ∨ X ≤ a := fun a z => by unfold PCh at z; omega
  have p2 : ∀ a, PChR (G + 1) X a → a = G + 8 ∨ (G + 48 ≤ a ∧ a ≤ G + 146) ∨ X ≤ a := fun a z => by unfold PChR at z; omega
  refine ⟨q1.call c (fun a z => ?_) (fun a z => ?_), F, q3.trans (c.mono (fun a z => Or.inr (p1 a z)) (fun a z => p2 a z))⟩
  · rcases p1 a z with y | y
    · exact Or.inl ⟨y.1, by omega⟩
    · exact Or.inr y
  · rcases p2 a z with y | y | y
    · exact Or.inl y
    · exact Or.inr (Or.inr (Or.inl y))
    · exact Or.inr (Or.inr (Or.inr y))
theorem LI.draw (q : LI h1 h G sa X D A B) {D' : Int} (d : DrS h' G sa X D') (c : ch (fun a => a = G) nP h h') : LI h1 h' G sa X D' A B := by
  obtain ⟨q1, ⟨g, F⟩, q3⟩ := q
  have hX := q1.1.2.2.2.2.2.2
  have hXY := q1.2.2.1.1.2.1.2
  refine ⟨d, ⟨g, F.ch c (fun a z y => ?_) (fun a z y => z.elim)⟩, q3.trans (c.fm.mono (fun a z => Or.inl z) (fun a z => z.elim))⟩
  have y : (G + 1 + 47 ≤ a ∧ a ≤ G + 1 + 145) ∨ X ≤ a := y
  have z : a = G := z
  omega
theorem po_in {a : Nat} (z : PO (G + 1) a) : G + 7 ≤ a ∧ a ≤ G + 47 := by unfold PO at z; omega
theorem pq_in {a : Nat} (z : PQ (G + 1) a) : a = G + 8 := by unfold PQ at z; omega
theorem plt_in {a : Nat} (z : PLT (G + 1) a) : G + 7 ≤ a ∧ a ≤ G + 47 := by unfold PLT at z; omega
theorem an_c {hh : Hp} {w : Nat} {o T V d e : Int} {K : Nat} (hT : TT hh w X) (ho : 0 ≤ o ∧ o < hi hh (w + 1) 4) (hV : 0 ≤ V) (hT0 : 0 ≤ T ∧ T + V ≤ 1000000) (q : Ea hh w o T V K d e) : (T ≤ e ∧ e ≤ T + V ∧ an e = e) ∨ (e = 1000000000 ∧ an e = -1) := by
  rcases Ea.bd hT ho hV hT0 q with z | z
  · refine Or.inl ⟨z.1, z.2, ?_⟩
    unfold an
    rw [if_pos (by omega)]
  · refine Or.inr ⟨z, ?_⟩
    unfold an
    rw [if_neg (by omega)]
end LI9
section JLL
variable {c : Int → Int} {W : Int → Int → Int → Prop} {R : Rn → Prop} {n o d T T' L L' e e' : Int} {K K' : Nat}
theorem JL.mono (hL : L < 1000000000) (hTL : T ≤ L) (hK : K ≤ K') (q : JL c W R o T L K d e) (q' : JL c W R o T L K' d e') : e' ≤ e := by
  rcases q.1 with z | ⟨j, p, z1, z2⟩
  · rcases q'.1 with y | ⟨j', p', y1, y2⟩
    · omega
    · have := JE.le hTL y2
      omega
  · exact q'.2 j e p (by omega) z2
theorem JL.later (N : Net n c W R) (ho : 0 ≤ o ∧ o < n) (hT : T ≤ T') (q : JL c W R o T L K d e) (q' : JL c W R o T' L' K d e') (h' : e' ≠ 1000000000) (he : e ≤ L) : e ≤ e' := by
  rcases q'.1 with z | ⟨j, p, z1, z2⟩
  · exact absurd z h'
  · by_cases y : e' ≤ L
    · obtain ⟨t1, y1, y2⟩ := JE.earlier (L := L) N ho hT z2 y
      have := q.2 j t1 p z1 y2
      omega
    · omega
theorem JL.uniqK (hL : L < 1000000000) (hTL : T ≤ L) (q : JL c W R o T L K d e) (q' : JL c W R o T L K' d e) (m : ∀ j : Nat, j < K → ∀ e', JL c W R o T L j d e' → e < e') (m' : ∀ j : Nat, j < K' → ∀ e', JL c W R o T L j d e' → e < e') : K = K' := by
  rcases Nat.lt_trichotomy K K' with z | z | z
  · exact absurd (m' K z e q) (Int.lt_irrefl e)
  · exact z
  · exact absurd (m K' z e q') (Int.lt_irrefl e)
end JLL
