/-! ===== frames; what a timetable is in the heap ===== -/
/-- the same cells; whole numbers but at PI, references but at PR -/
def ch (PI PR : Nat → Prop) (h h' : Hp) : Prop := kd h' = kd h ∧ ln h' = ln h ∧ hl h' = hl h ∧ nx h' = nx h ∧ us h' = us h ∧ cn h' = cn h ∧ cs h' = cs h ∧ (∀ a k, ¬ PI a → hi h' a k = hi h a k) ∧ ∀ a k, ¬ PR a → hr h' a k = hr h a k
abbrev nP : Nat → Prop := fun _ => False
theorem ch.rfl {P R : Nat → Prop} {h : Hp} : ch P R h h := ⟨Eq.refl _, Eq.refl _, Eq.refl _, Eq.refl _, Eq.refl _, Eq.refl _, Eq.refl _, fun _ _ _ => Eq.refl _, fun _ _ _ => Eq.refl _⟩
theorem ch.trans {P R : Nat → Prop} {h h1 h2 : Hp} (a : ch P R h h1) (b : ch P R h1 h2) : ch P R h h2 := by
  obtain ⟨a1, a2, a3, a4, a5, a6, a7, a8, a9⟩ := a
  obtain ⟨b1, b2, b3, b4, b5, b6, b7, b8, b9⟩ := b
  exact ⟨b1.trans a1, b2.trans a2, b3.trans a3, b4.trans a4, b5.trans a5, b6.trans a6, b7.trans a7, fun x k n => (b8 x k n).trans (a8 x k n), fun x k n => (b9 x k n).trans (a9 x k n)⟩
theorem ch.mono {P P' R R' : Nat → Prop} {h h1 : Hp} (a : ch P R h h1) (q : ∀ x, P x → P' x) (q2 : ∀ x, R x → R' x) : ch P' R' h h1 := by
  obtain ⟨a1, a2, a3, a4, a5, a6, a7, a8, a9⟩ := a
  exact ⟨a1, a2, a3, a4, a5, a6, a7, fun x k n => a8 x k (fun z => n (q x z)), fun x k n => a9 x k (fun z => n (q2 x z))⟩
theorem ch_setI {P R : Nat → Prop} {h : Hp} {a : Nat} {k v : Int} (q : P a) : ch P R h (setI h a k v) := ⟨Eq.refl _, Eq.refl _, Eq.refl _, Eq.refl _, Eq.refl _, Eq.refl _, Eq.refl _, fun x j n => by
  rw [hi_setI]
  exact up2_ne _ _ (fun z => n (by rw [z.1]; exact q)), fun _ _ _ => Eq.refl _⟩
theorem ch_setR {P R : Nat → Prop} {h : Hp} {a : Nat} {k : Int} {v : Option Nat} (q : R a) : ch P R h (setR h a k v) := ⟨Eq.refl _, Eq.refl _, Eq.refl _, Eq.refl _, Eq.refl _, Eq.refl _, Eq.refl _, fun _ _ _ => Eq.refl _, fun x j n => by
  rw [hr_setR]
  exact up2_ne _ _ (fun z => n (by rw [z.1]; exact q))⟩
theorem ch_cpI {P R : Nat → Prop} {h : Hp} {a b : Nat} {s d n : Int} (q : P b) : ch P R h (cpI h a s b d n) := ⟨Eq.refl _, Eq.refl _, Eq.refl _, Eq.refl _, Eq.refl _, Eq.refl _, Eq.refl _, fun x j m => by
  rw [hi_cpI]
  exact if_neg (fun z => m (by rw [z.1]; exact q)), fun _ _ _ => Eq.refl _⟩
/-- one place of a row anew -/
def upF (f : Int → Int) (s v : Int) : Int → Int := fun j => if j = s then v else f j
theorem hi_upF (h : Hp) (a : Nat) (s v : Int) : hi (setI h a s v) a = upF (hi h a) s v := by
  funext j
  rw [hi_setI]
  unfold up2 upF
  by_cases c : j = s
  · rw [if_pos ⟨rfl, c⟩, if_pos c]
  · rw [if_neg (fun z => c z.2), if_neg c]
theorem hi_setI_ne {h : Hp} {a b : Nat} {k v : Int} (q : b ≠ a) : hi (setI h a k v) b = hi h b := by
  funext j
  rw [hi_setI, up2_ne _ _ (fun z => q z.1)]
theorem upF_same (f : Int → Int) (s v : Int) : upF f s v s = v := if_pos rfl
theorem upF_ne (f : Int → Int) {s v j : Int} (q : j ≠ s) : upF f s v j = f j := if_neg q
/-- seven rows of 16 behind the row o -/
def rowsAt (h : Hp) (o r : Nat) : Prop := kd h o = 103 ∧ ln h o = 7 ∧ ∀ k : Nat, k < 7 → hr h o (k : Int) = some (r + k) ∧ kd h (r + k) = 100 ∧ ln h (r + k) = 16
def SkT (h : Hp) (w : Nat) : Prop := kd h w = 1 ∧ hr h w 0 = some (w + 1) ∧ hr h w 1 = some (w + 6) ∧ hr h w 3 = some (w + 12) ∧ hr h w 4 = some (w + 30) ∧ hr h w 5 = some (w + 47) ∧ hr h w 6 = some (w + 146)
def SkN (h : Hp) (w : Nat) : Prop := kd h (w + 1) = 8 ∧ (hr h (w + 1) 0 = some (w + 2) ∧ hr h (w + 1) 1 = some (w + 3) ∧ hr h (w + 1) 2 = some (w + 4) ∧ hr h (w + 1) 3 = some (w + 5)) ∧ (kd h (w + 2) = 100 ∧ ln h (w + 2) = 16) ∧ (kd h (w + 3) = 104 ∧ ln h (w + 3) = 20) ∧ (kd h (w + 4) = 105 ∧ ln h (w + 4) = 6) ∧ kd h (w + 5) = 106 ∧ ln h (w + 5) = 24
def SkR (h : Hp) (w : Nat) : Prop := kd h (w + 6) = 11 ∧ (hr h (w + 6) 0 = some (w + 7) ∧ hr h (w + 6) 1 = some (w + 8) ∧ hr h (w + 6) 2 = some (w + 9)) ∧ (kd h (w + 7) = 106 ∧ ln h (w + 7) = 192) ∧ (kd h (w + 8) = 100 ∧ ln h (w + 8) = 192) ∧ kd h (w + 9) = 100 ∧ ln h (w + 9) = 192
def SkO (h : Hp) (w : Nat) : Prop := kd h (w + 12) = 10 ∧ (hr h (w + 12) 0 = some (w + 13) ∧ hr h (w + 12) 1 = some (w + 21) ∧ hr h (w + 12) 2 = some (w + 29)) ∧ rowsAt h (w + 13) (w + 14) ∧ rowsAt h (w + 21) (w + 22) ∧ kd h (w + 29) = 100 ∧ ln h (w + 29) = 16
def SkB (h : Hp) (w : Nat) : Prop := kd h (w + 30) = 2 ∧ (hr h (w + 30) 0 = some (w + 31) ∧ hr h (w + 30) 1 = some (w + 39)) ∧ rowsAt h (w + 31) (w + 32) ∧ rowsAt h (w + 39) (w + 40)
def SkJ (h : Hp) (w : Nat) : Prop := kd h (w + 146) = 7 ∧ (hr h (w + 146) 5 = some (w + 147) ∧ hr h (w + 146) 6 = some (w + 148) ∧ hr h (w + 146) 7 = some (w + 149) ∧ hr h (w + 146) 8 = some (w + 150) ∧ hr h (w + 146) 9 = some (w + 151) ∧ hr h (w + 146) 10 = some (w + 152) ∧ hr h (w + 146) 11 = some (w + 153)) ∧ (kd h (w + 147) = 106 ∧ ln h (w + 147) = 13) ∧ ∀ k : Nat, k < 6 → kd h (w + 148 + k) = 100 ∧ ln h (w + 148 + k) = 13
/-- the parts of the class stand where its constructor laid them -/
def Sk (h : Hp) (w : Nat) : Prop := SkT h w ∧ SkN h w ∧ SkR h w ∧ SkO h w ∧ SkB h w ∧ SkJ h w
/-- references at these places don't belong to the parts' own -/
def PRok (w : Nat) (R : Nat → Prop) : Prop := ∀ a, R a → a = w + 3 ∨ a = w + 4 ∨ a = w + 5 ∨ a = w + 7 ∨ a = w + 147 ∨ (w + 47 ≤ a ∧ a ≤ w + 145) ∨ w + 154 ≤ a ∨ a < w
/-- what may have been made meanwhile, and what changed -/
def fm (P R : Nat → Prop) (h h' : Hp) : Prop := nx h ≤ nx h' ∧ (∀ a, a < nx h → kd h' a = kd h a ∧ ln h' a = ln h a) ∧ (∀ a k, a < nx h → ¬ P a → hi h' a k = hi h a k) ∧ (∀ a k, a < nx h → ¬ R a → hr h' a k = hr h a k) ∧ cn h' = cn h ∧ cs h' = cs h
theorem ch.fm {P R : Nat → Prop} {h h' : Hp} (a : ch P R h h') : fm P R h h' := by
  obtain ⟨a1, a2, a3, a4, a5, a6, a7, a8, a9⟩ := a
  exact ⟨by omega, fun x _ => ⟨congrFun a1 x, congrFun a2 x⟩, fun x k _ n => a8 x k n, fun x k _ n => a9 x k n, a6, a7⟩
theorem fm.trans {P R : Nat → Prop} {h h1 h2 : Hp} (a : fm P R h h1) (b : fm P R h1 h2) : fm P R h h2 := by
  obtain ⟨a1, a2, a3, a4, a5, a6⟩ := a
  obtain ⟨b1, b2, b3, b4, b5, b6⟩ := b
  exact ⟨by omega, fun x q => ⟨(b2 x (by omega)).1.trans (a2 x q).1, (b2 x (by omega)).2.trans (a2 x q).2⟩, fun x k q n => (b3 x k (by omega) n).trans (a3 x k q n), fun x k q n => (b4 x k (by omega) n).trans (a4 x k q n), b5.trans a5, b6.trans a6⟩
theorem fm.mono {P P' R R' : Nat → Prop} {h h1 : Hp} (a : fm P R h h1) (q : ∀ x, P x → P' x) (q2 : ∀ x, R x → R' x) : fm P' R' h h1 := by
  obtain ⟨a1, a2, a3, a4, a5, a6⟩ := a
  exact ⟨a1, a2, fun x k z n => a3 x k z (fun m => n (q x m)), fun x k z n => a4 x k z (fun m => n (q2 x m)), a5, a6⟩
theorem fm.rfl {P R : Nat → Prop} {h : Hp} : fm P R h h := ch.rfl.fm
theorem rowsAt.kept {P R : Nat → Prop} {h h' : Hp} {o r : Nat} (q : rowsAt h o r) (e : fm P R h h') (hR : ¬ R o) (ho : o < nx h) (hr : r + 7 ≤ nx h) : rowsAt h' o r := by
  obtain ⟨q1, q2, q3⟩ := q
  obtain ⟨a1, a2, a3, a4, a5, a6⟩ := e
  exact ⟨(a2 o ho).1.trans q1, (a2 o ho).2.trans q2, fun k hk => ⟨(a4 o _ ho hR).trans (q3 k hk).1, (a2 _ (by omega)).1.trans (q3 k hk).2.1, (a2 _ (by omega)).2.trans (q3 k hk).2.2⟩⟩
theorem Sk.kept {P R : Nat → Prop} {h h' : Hp} {w : Nat} (q : Sk h w) (e : fm P R h h') (hR : PRok w R) (hw : w + 154 ≤ nx h) : Sk h' w := by
  obtain ⟨⟨t1, t2, t3, t4, t5, t6, t7⟩, ⟨n1, ⟨n2, n3, n4, n5⟩, ⟨n6, n7⟩, ⟨n8, n9⟩, ⟨n10, n11⟩, n12, n13⟩, ⟨r1, ⟨r2, r3, r4⟩, ⟨r5, r6⟩, ⟨r7, r8⟩, r9, r10⟩, ⟨o1, ⟨o2, o3, o4⟩, o5, o6, o7, o8⟩, ⟨b1, ⟨b2, b3⟩, b4, b5⟩, ⟨j1, ⟨j2, j3, j4, j5, j6, j7, j8⟩, ⟨j9, j10⟩, j11⟩⟩ := q
  have e0 := e
  obtain ⟨a1, a2, a3, a4, a5, a6⟩ := e
  have nr : ∀ a, w ≤ a → a ≤ w + 2 → ¬ R a := fun a g1 g2 z => by rcases hR a z with g | g | g | g | g | g | g | g <;> omega
  have nr6 : ¬ R (w + 6) := fun z => by rcases hR _ z with g | g | g | g | g | g | g | g <;> omega
  have nr2 : ∀ a, w + 12 ≤ a → a ≤ w + 46 → ¬ R a := fun a g1 g2 z => by rcases hR a z with g | g | g | g | g | g | g | g <;> omega
  have nrj : ¬ R (w + 146) := fun z => by rcases hR _ z with g | g | g | g | g | g | g | g <;> omega
  have K : ∀ {a K : Nat}, a < w + 154 → kd h a = K → kd h' a = K := fun g1 g2 => (a2 _ (by omega)).1.trans g2
  have N : ∀ {a : Nat} {K : Int}, a < w + 154 → ln h a = K → ln h' a = K := fun g1 g2 => (a2 _ (by omega)).2.trans g2
  have F : ∀ {a : Nat} {k : Int} {v : Option Nat}, ¬ R a → a < w + 154 → hr h a k = v → hr h' a k = v := fun g0 g1 g2 => (a4 _ _ (by omega) g0).trans g2
  refine ⟨⟨K (by omega) t1, F (nr _ (by omega) (by omega)) (by omega) t2, F (nr _ (by omega) (by omega)) (by omega) t3, F (nr _ (by omega) (by omega)) (by omega) t4, F (nr _ (by omega) (by omega)) (by omega) t5, F (nr _ (by omega) (by omega)) (by omega) t6, F (nr _ (by omega) (by omega)) (by omega) t7⟩,
    ⟨K (by omega) n1, ⟨F (nr _ (by omega) (by omega)) (by omega) n2, F (nr _ (by omega) (by omega)) (by omega) n3, F (nr _ (by omega) (by omega)) (by omega) n4, F (nr _ (by omega) (by omega)) (by omega) n5⟩, ⟨K (by omega) n6, N (by omega) n7⟩, ⟨K (by omega) n8, N (by omega) n9⟩, ⟨K (by omega) n10, N (by omega) n11⟩, K (by omega) n12, N (by omega) n13⟩,
    ⟨K (by omega) r1, ⟨F nr6 (by omega) r2, F nr6 (by omega) r3, F nr6 (by omega) r4⟩, ⟨K (by omega) r5, N (by omega) r6⟩, ⟨K (by omega) r7, N (by omega) r8⟩, K (by omega) r9, N (by omega) r10⟩,
    ⟨K (by omega) o1, ⟨F (nr2 _ (by omega) (by omega)) (by omega) o2, F (nr2 _ (by omega) (by omega)) (by omega) o3, F (nr2 _ (by omega) (by omega)) (by omega) o4⟩, o5.kept e0 (nr2 _ (by omega) (by omega)) (by omega) (by omega), o6.kept e0 (nr2 _ (by omega) (by omega)) (by omega) (by omega), K (by omega) o7, N (by omega) o8⟩,
    ⟨K (by omega) b1, ⟨F (nr2 _ (by omega) (by omega)) (by omega) b2, F (nr2 _ (by omega) (by omega)) (by omega) b3⟩, b4.kept e0 (nr2 _ (by omega) (by omega)) (by omega) (by omega), b5.kept e0 (nr2 _ (by omega) (by omega)) (by omega) (by omega)⟩,
    ⟨K (by omega) j1, ⟨F nrj (by omega) j2, F nrj (by omega) j3, F nrj (by omega) j4, F nrj (by omega) j5, F nrj (by omega) j6, F nrj (by omega) j7, F nrj (by omega) j8⟩, ⟨K (by omega) j9, N (by omega) j10⟩, fun k hk => ⟨K (by omega) (j11 k hk).1, N (by omega) (j11 k hk).2⟩⟩⟩
/-! the timetable -/
def CalOk (h : Hp) (a : Nat) : Prop := kd h a = 4 ∧ hr h a 3 = some (a + 1) ∧ kd h (a + 1) = 100 ∧ ln h (a + 1) = 366
/-- the calendar at a runs on the day d -/
def isRun (h : Hp) (a : Nat) (d : Int) : Prop := (0 ≤ d ∧ d ≤ 365) ∧ (hi h (a + 1) d = 1 ∨ (hi h (a + 1) d = 0 ∧ (hi h a 1 ≤ d ∧ d ≤ hi h a 2) ∧ vand (vshr (hi h a 0) (d.tmod 7)) 1 = 1))
/-- a trip at a with its rows behind it, of n stops -/
def TripOk (h : Hp) (n : Int) (a : Nat) : Prop := kd h a = 12 ∧ (hr h a 3 = some (a + 1) ∧ hr h a 4 = some (a + 2) ∧ hr h a 5 = some (a + 3) ∧ hr h a 6 = some (a + 4)) ∧ ((kd h (a + 1) = 100 ∧ ln h (a + 1) = 8) ∧ (kd h (a + 2) = 100 ∧ ln h (a + 2) = 8) ∧ (kd h (a + 3) = 100 ∧ ln h (a + 3) = 8) ∧ kd h (a + 4) = 100 ∧ ln h (a + 4) = 366) ∧ (1 ≤ hi h a 7 ∧ hi h a 7 ≤ 8) ∧
  (∀ i, 0 ≤ i → i < hi h a 7 → (0 ≤ hi h (a + 1) i ∧ hi h (a + 1) i < n) ∧ 0 ≤ hi h (a + 2) i ∧ hi h (a + 2) i ≤ hi h (a + 3) i ∧ hi h (a + 3) i ≤ 2879) ∧ (∀ i j, 0 ≤ i → i < j → j < hi h a 7 → hi h (a + 3) i ≤ hi h (a + 2) j) ∧ (∀ d, 0 ≤ d → d ≤ 365 → -1 ≤ hi h (a + 4) d ∧ hi h (a + 4) d ≤ 180) ∧ 0 ≤ hi h a 2 ∧ hi h a 2 ≤ 500
/-- the trip at a has a run on the day d -/
def hasRn (h : Hp) (a : Nat) (d : Int) : Prop := (0 ≤ d ∧ d ≤ 365) ∧ hi h (a + 4) d ≠ -1 ∧ ∃ c, hr h a 1 = some c ∧ isRun h c d
def rnB (h : Hp) (a : Nat) (b : Int) : Rn := (hi h a 7, hi h (a + 1), fun i => b + hi h (a + 2) i, fun i => b + hi h (a + 3) i, hi h a 2)
def baseOf (h : Hp) (a : Nat) (d : Int) : Int := 1440 * d + hi h (a + 4) d
/-- what was told: all of it lies between w + 154 and X -/
def TT (h : Hp) (w X : Nat) : Prop := (0 ≤ hi h (w + 1) 4 ∧ hi h (w + 1) 4 ≤ 16) ∧ (0 ≤ hi h (w + 1) 5 ∧ hi h (w + 1) 5 ≤ 20) ∧ (0 ≤ hi h (w + 1) 7 ∧ hi h (w + 1) 7 ≤ 24) ∧ (∀ k, 0 ≤ hi h (w + 2) k ∧ hi h (w + 2) k ≤ 30) ∧
  (∀ i, 0 ≤ i → i < hi h (w + 1) 5 → ∃ a, hr h (w + 3) i = some a ∧ w + 154 ≤ a ∧ a < X ∧ kd h a = 6 ∧ (0 ≤ hi h a 0 ∧ hi h a 0 < hi h (w + 1) 4) ∧ (0 ≤ hi h a 1 ∧ hi h a 1 < hi h (w + 1) 4) ∧ 1 ≤ hi h a 2 ∧ hi h a 2 ≤ 60) ∧
  (∀ t, 0 ≤ t → t < hi h (w + 1) 7 → ∃ a c, hr h (w + 5) t = some a ∧ w + 154 ≤ a ∧ a + 5 ≤ X ∧ TripOk h (hi h (w + 1) 4) a ∧ hi h a 0 = t ∧ hr h a 1 = some c ∧ w + 154 ≤ c ∧ c + 2 ≤ X ∧ CalOk h c) ∧ X ≤ nx h ∧ w + 154 ≤ X
/-- the footways -/
def Wy (h : Hp) (w : Nat) (s s' m : Int) : Prop := ∃ i a, 0 ≤ i ∧ i < hi h (w + 1) 5 ∧ hr h (w + 3) i = some a ∧ ((s = hi h a 0 ∧ s' = hi h a 1) ∨ (s = hi h a 1 ∧ s' = hi h a 0)) ∧ m = hi h a 2
/-- the runs -/
def Ra (h : Hp) (w : Nat) (r : Rn) : Prop := ∃ t a d, 0 ≤ t ∧ t < hi h (w + 1) 7 ∧ hr h (w + 5) t = some a ∧ hasRn h a d ∧ r = rnB h a (baseOf h a d)
/-- those that are collected -/
def Rc (h : Hp) (w : Nat) (r : Rn) : Prop := ∃ k a, 0 ≤ k ∧ k < hi h (w + 6) 3 ∧ hr h (w + 7) k = some a ∧ r = rnB h a (hi h (w + 9) k)
def RunsOk (h : Hp) (w : Nat) : Prop := (0 ≤ hi h (w + 6) 3 ∧ hi h (w + 6) 3 ≤ 192) ∧ ∀ k, 0 ≤ k → k < hi h (w + 6) 3 → ∃ t a, 0 ≤ t ∧ t < hi h (w + 1) 7 ∧ hr h (w + 5) t = some a ∧ hr h (w + 7) k = some a ∧ hasRn h a (hi h (w + 8) k) ∧ hi h (w + 9) k = baseOf h a (hi h (w + 8) k)
theorem RunsOk.sub {h : Hp} {w : Nat} (q : RunsOk h w) {r : Rn} (hr : Rc h w r) : Ra h w r := by
  obtain ⟨k, a, h0, h1, h2, rfl⟩ := hr
  obtain ⟨t, a', g1, g2, g3, g4, g5, g6⟩ := q.2 k h0 h1
  cases h2.symm.trans g4
  exact ⟨t, a, _, g1, g2, g3, g5, by rw [g6]⟩
theorem TT.net {h : Hp} {w X : Nat} (q : TT h w X) : Net (hi h (w + 1) 4) (hi h (w + 2)) (Wy h w) (Ra h w) := by
  obtain ⟨-, -, -, q4, q5, q6, -⟩ := q
  refine ⟨fun s _ _ => q4 s, ?_, ?_, ?_⟩
  · rintro s s' m ⟨i, a, h0, h1, h2, h3, rfl⟩
    obtain ⟨a', g1, g2, g3, g4, g5, g6, g7⟩ := q5 i h0 h1
    cases h2.symm.trans g1
    rcases h3 with ⟨rfl, rfl⟩ | ⟨rfl, rfl⟩
    · exact ⟨g5, g6, g7⟩
    · exact ⟨g6, g5, g7⟩
  · rintro s s' m ⟨i, a, h0, h1, h2, h3, rfl⟩
    exact ⟨i, a, h0, h1, h2, h3.symm.imp (fun z => ⟨z.2, z.1⟩) (fun z => ⟨z.2, z.1⟩), rfl⟩
  · rintro r ⟨t, a, d, h0, h1, h2, ⟨h3, h4, -⟩, rfl⟩
    obtain ⟨a', c, g1, g2, g3, ⟨t1, t2, t3, t4, t5, t6, t7, t8⟩, -⟩ := q6 t h0 h1
    cases h2.symm.trans g1
    have td := t7 d h3.1 h3.2
    have hb : 0 ≤ baseOf h a d ∧ baseOf h a d ≤ 600000 := by
      unfold baseOf
      omega
    refine ⟨t8.1, fun i i0 i1 => ?_, fun i j i0 i1 i2 => ?_⟩
    · have := t5 i i0 i1
      refine ⟨this.1, ?_, ?_, ?_⟩
      · show 0 ≤ baseOf h a d + hi h (a + 2) i
        omega
      · show baseOf h a d + hi h (a + 2) i ≤ baseOf h a d + hi h (a + 3) i
        omega
      · show baseOf h a d + hi h (a + 3) i < 1000000
        omega
    · have := t6 i j i0 i1 i2
      show baseOf h a d + hi h (a + 3) i ≤ baseOf h a d + hi h (a + 2) j
      omega
/-- what touches no number and no reference of the timetable -/
def Off (w X : Nat) (P R : Nat → Prop) : Prop := (∀ a, P a → ((w + 6 ≤ a ∧ a ≤ w + 153) ∨ a < w) ∨ X ≤ a) ∧ ∀ a, R a → (a = w + 7 ∨ a = w + 147 ∨ ((w + 47 ≤ a ∧ a ≤ w + 145) ∨ a < w)) ∨ X ≤ a
theorem Off.pr {w X : Nat} {P R : Nat → Prop} (o : Off w X P R) (hX : w + 154 ≤ X) : PRok w R := fun a z => by
  rcases o.2 a z with (g | g | g) | g <;> omega
theorem TripOk.kept {P R : Nat → Prop} {h h' : Hp} {n : Int} {a : Nat} (q : TripOk h n a) (e : fm P R h h') (h1 : ∀ b, a ≤ b → b ≤ a + 4 → ¬ P b) (h2 : ¬ R a) (ha : a + 5 ≤ nx h) : TripOk h' n a := by
  obtain ⟨t1, ⟨u1, u2, u3, u4⟩, ⟨⟨v1, v2⟩, ⟨v3, v4⟩, ⟨v5, v6⟩, v7, v8⟩, t4, t5, t6, t7, t8⟩ := q
  obtain ⟨a1, a2, a3, a4, a5, a6⟩ := e
  have F : ∀ b, a ≤ b → b ≤ a + 4 → hi h' b = hi h b := fun b g1 g2 => funext fun k => a3 b k (by omega) (h1 b g1 g2)
  unfold TripOk
  rw [F a (by omega) (by omega), F (a + 1) (by omega) (by omega), F (a + 2) (by omega) (by omega), F (a + 3) (by omega) (by omega), F (a + 4) (by omega) (by omega)]
  exact ⟨(a2 _ (by omega)).1.trans t1, ⟨(a4 _ _ (by omega) h2).trans u1, (a4 _ _ (by omega) h2).trans u2, (a4 _ _ (by omega) h2).trans u3, (a4 _ _ (by omega) h2).trans u4⟩, ⟨⟨(a2 _ (by omega)).1.trans v1, (a2 _ (by omega)).2.trans v2⟩, ⟨(a2 _ (by omega)).1.trans v3, (a2 _ (by omega)).2.trans v4⟩, ⟨(a2 _ (by omega)).1.trans v5, (a2 _ (by omega)).2.trans v6⟩, (a2 _ (by omega)).1.trans v7, (a2 _ (by omega)).2.trans v8⟩, t4, t5, t6, t7, t8⟩
theorem CalOk.kept {P R : Nat → Prop} {h h' : Hp} {a : Nat} (q : CalOk h a) (e : fm P R h h') (h2 : ¬ R a) (ha : a + 2 ≤ nx h) : CalOk h' a := by
  obtain ⟨q1, q2, q3, q4⟩ := q
  obtain ⟨a1, a2, a3, a4, a5, a6⟩ := e
  exact ⟨(a2 _ (by omega)).1.trans q1, (a4 _ _ (by omega) h2).trans q2, (a2 _ (by omega)).1.trans q3, (a2 _ (by omega)).2.trans q4⟩
section OFF
variable {P R : Nat → Prop} {h h' : Hp} {w X : Nat}
theorem Off.i (o : Off w X P R) (e : fm P R h h') (hX : X ≤ nx h) {a : Nat} (ha : (w ≤ a ∧ a < w + 6) ∨ (w + 154 ≤ a ∧ a < X)) (hw : w + 154 ≤ X) : hi h' a = hi h a := funext fun k => e.2.2.1 a k (by omega) (fun z => by rcases o.1 a z with g | g <;> omega)
theorem Off.r (o : Off w X P R) (e : fm P R h h') (hX : X ≤ nx h) {a : Nat} (ha : (w ≤ a ∧ a < w + 6) ∨ (w + 154 ≤ a ∧ a < X)) (hw : w + 154 ≤ X) : hr h' a = hr h a := funext fun k => e.2.2.2.1 a k (by omega) (fun z => by rcases o.2 a z with (g | g | g) | g <;> omega)
theorem TT.kept (q : TT h w X) (e : fm P R h h') (o : Off w X P R) : TT h' w X := by
  obtain ⟨q1, q2, q3, q4, q5, q6, q7, q8⟩ := q
  have e0 := e
  obtain ⟨a1, a2, a3, a4, a5, a6⟩ := e
  unfold TT
  rw [o.i e0 q7 (a := w + 1) (by omega) q8, o.i e0 q7 (a := w + 2) (by omega) q8, o.r e0 q7 (a := w + 3) (by omega) q8, o.r e0 q7 (a := w + 5) (by omega) q8]
  refine ⟨q1, q2, q3, q4, fun i i0 i1 => ?_, fun t i0 i1 => ?_, by omega, q8⟩
  · obtain ⟨a, g1, g2, g3, g4, g5⟩ := q5 i i0 i1
    rw [← o.i e0 q7 (a := a) (by omega) q8] at g5
    exact ⟨a, g1, g2, g3, (a2 a (by omega)).1.trans g4, g5⟩
  · obtain ⟨a, c, g1, g2, g3, g4, g5, g6, g7, g8, g9⟩ := q6 t i0 i1
    refine ⟨a, c, g1, g2, g3, g4.kept e0 (fun b b1 b2 z => ?_) (fun z => ?_) (by omega), ?_, ?_, g7, g8, g9.kept e0 (fun z => ?_) (by omega)⟩
    · rcases o.1 b z with g | g <;> omega
    · rcases o.2 a z with (g | g | g) | g <;> omega
    · rw [o.i e0 q7 (a := a) (by omega) q8]; exact g5
    · rw [o.r e0 q7 (a := a) (by omega) q8]; exact g6
    · rcases o.2 c z with (g | g | g) | g <;> omega
theorem Wy.kept (q : TT h w X) (e : fm P R h h') (o : Off w X P R) : Wy h' w = Wy h w := by
  obtain ⟨-, -, -, -, q5, -, q7, q8⟩ := q
  funext s s' m
  apply propext
  unfold Wy
  rw [o.i e q7 (a := w + 1) (by omega) q8, o.r e q7 (a := w + 3) (by omega) q8]
  constructor
  · rintro ⟨i, a, h0, h1, h2, h3⟩
    obtain ⟨a', g1, g2, g3, -⟩ := q5 i h0 h1
    cases h2.symm.trans g1
    rw [o.i e q7 (a := a) (by omega) q8] at h3
    exact ⟨i, a, h0, h1, h2, h3⟩
  · rintro ⟨i, a, h0, h1, h2, h3⟩
    obtain ⟨a', g1, g2, g3, -⟩ := q5 i h0 h1
    cases h2.symm.trans g1
    rw [← o.i e q7 (a := a) (by omega) q8] at h3
    exact ⟨i, a, h0, h1, h2, h3⟩
theorem hasRn.kept (q : TT h w X) (e : fm P R h h') (o : Off w X P R) {t d : Int} {a : Nat} (h0 : 0 ≤ t) (h1 : t < hi h (w + 1) 7) (h2 : hr h (w + 5) t = some a) : (hasRn h' a d ↔ hasRn h a d) ∧ rnB h' a = rnB h a ∧ baseOf h' a = baseOf h a := by
  obtain ⟨-, -, -, -, -, q6, q7, q8⟩ := q
  obtain ⟨a', c, g1, g2, g3, g4, g5, g6, g7, g8, g9⟩ := q6 t h0 h1
  cases h2.symm.trans g1
  have F : ∀ b, a ≤ b → b ≤ a + 4 → hi h' b = hi h b := fun b b1 b2 => o.i e q7 (by omega) q8
  have G : ∀ b, c ≤ b → b ≤ c + 1 → hi h' b = hi h b := fun b b1 b2 => o.i e q7 (by omega) q8
  have H : hr h' a = hr h a := o.r e q7 (by omega) q8
  refine ⟨?_, ?_, ?_⟩
  · unfold hasRn
    rw [F (a + 4) (by omega) (by omega), H]
    constructor
    · rintro ⟨z1, z2, c', z3, z4⟩
      cases z3.symm.trans g6
      unfold isRun at z4
      rw [G (c + 1) (by omega) (by omega), G c (by omega) (by omega)] at z4
      exact ⟨z1, z2, c, g6, z4⟩
    · rintro ⟨z1, z2, c', z3, z4⟩
      cases z3.symm.trans g6
      refine ⟨z1, z2, c, g6, ?_⟩
      unfold isRun
      rw [G (c + 1) (by omega) (by omega), G c (by omega) (by omega)]
      exact z4
  · funext b
    unfold rnB
    rw [F a (by omega) (by omega), F (a + 1) (by omega) (by omega), F (a + 2) (by omega) (by omega), F (a + 3) (by omega) (by omega)]
  · funext b
    unfold baseOf
    rw [F (a + 4) (by omega) (by omega)]
theorem Ra.kept (q : TT h w X) (e : fm P R h h') (o : Off w X P R) : Ra h' w = Ra h w := by
  have q0 := q
  obtain ⟨-, -, -, -, -, -, q7, q8⟩ := q
  funext r
  apply propext
  unfold Ra
  rw [o.i e q7 (a := w + 1) (by omega) q8, o.r e q7 (a := w + 5) (by omega) q8]
  constructor
  · rintro ⟨t, a, d, h0, h1, h2, h3, rfl⟩
    obtain ⟨k1, k2, k3⟩ := hasRn.kept q0 e o (d := d) h0 h1 h2
    exact ⟨t, a, d, h0, h1, h2, k1.mp h3, by rw [k2, k3]⟩
  · rintro ⟨t, a, d, h0, h1, h2, h3, rfl⟩
    obtain ⟨k1, k2, k3⟩ := hasRn.kept q0 e o (d := d) h0 h1 h2
    exact ⟨t, a, d, h0, h1, h2, k1.mpr h3, by rw [k2, k3]⟩
/-- what leaves the collected runs as well -/
theorem Rc.kept (q : TT h w X) (qr : RunsOk h w) (e : fm P R h h') (o : Off w X P R) (hP : ∀ a, P a → ¬ (w + 6 ≤ a ∧ a ≤ w + 9)) (hR : ∀ a, R a → ¬ (w + 6 ≤ a ∧ a ≤ w + 9)) : Rc h' w = Rc h w ∧ RunsOk h' w := by
  have q0 := q
  obtain ⟨-, -, -, -, -, -, q7, q8⟩ := q
  have F : ∀ b, w + 6 ≤ b → b ≤ w + 9 → hi h' b = hi h b := fun b b1 b2 => funext fun k => e.2.2.1 b k (by omega) (fun z => hP b z ⟨b1, b2⟩)
  have G : ∀ b, w + 6 ≤ b → b ≤ w + 9 → hr h' b = hr h b := fun b b1 b2 => funext fun k => e.2.2.2.1 b k (by omega) (fun z => hR b z ⟨b1, b2⟩)
  have T : ∀ k a, 0 ≤ k → k < hi h (w + 6) 3 → hr h (w + 7) k = some a → ∃ t, 0 ≤ t ∧ t < hi h (w + 1) 7 ∧ hr h (w + 5) t = some a := fun k a k0 k1 k2 => by
    obtain ⟨t, a', g1, g2, g3, g4, -⟩ := qr.2 k k0 k1
    cases k2.symm.trans g4
    exact ⟨t, g1, g2, g3⟩
  constructor
  · funext r
    apply propext
    unfold Rc
    rw [F (w + 6) (by omega) (by omega), F (w + 9) (by omega) (by omega), G (w + 7) (by omega) (by omega)]
    constructor
    · rintro ⟨k, a, k0, k1, k2, rfl⟩
      obtain ⟨t, g1, g2, g3⟩ := T k a k0 k1 k2
      exact ⟨k, a, k0, k1, k2, by rw [(hasRn.kept q0 e o (d := 0) g1 g2 g3).2.1]⟩
    · rintro ⟨k, a, k0, k1, k2, rfl⟩
      obtain ⟨t, g1, g2, g3⟩ := T k a k0 k1 k2
      exact ⟨k, a, k0, k1, k2, by rw [(hasRn.kept q0 e o (d := 0) g1 g2 g3).2.1]⟩
  · unfold RunsOk
    rw [F (w + 6) (by omega) (by omega), F (w + 8) (by omega) (by omega), F (w + 9) (by omega) (by omega), G (w + 7) (by omega) (by omega), o.i e q7 (a := w + 1) (by omega) q8, o.r e q7 (a := w + 5) (by omega) q8]
    refine ⟨qr.1, fun k k0 k1 => ?_⟩
    obtain ⟨t, a, g1, g2, g3, g4, g5, g6⟩ := qr.2 k k0 k1
    obtain ⟨z1, z2, z3⟩ := hasRn.kept q0 e o (d := hi h (w + 8) k) g1 g2 g3
    exact ⟨t, a, g1, g2, g3, g4, z1.mpr g5, by rw [z3]; exact g6⟩
end OFF
