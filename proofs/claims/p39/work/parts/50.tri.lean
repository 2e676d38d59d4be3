/-! ===== the trace: its invariant ===== -/
/-- what is known when a trace begins: D the least end from o at T to d, K the fewest rides for it; the rows of the search back -/
def Kn (h0 : Hp) (w : Nat) (o d T D : Int) (K : Nat) : Prop := RunsOk h0 w ∧ (0 ≤ o ∧ o < hi h0 (w + 1) 4) ∧ (0 ≤ d ∧ d < hi h0 (w + 1) 4) ∧ (0 ≤ T ∧ T ≤ D ∧ D ≤ T + 2880 ∧ T ≤ 500000) ∧ K ≤ 6 ∧
  (∀ t p, JE (hi h0 (w + 2)) (Wy h0 w) (Ra h0 w) o T (T + 2880) K d t p → D ≤ t) ∧ (∀ j t p, j < K → JE (hi h0 (w + 2)) (Wy h0 w) (Ra h0 w) o T (T + 2880) j d t p → D < t) ∧ BkW h0 h0 w d D K
/-- with left rides left, n legs taken -/
def TrI (h0 h : Hp) (w : Nat) (o d T D : Int) (K left n : Nat) : Prop := ch (PJ w) (PJR w) h0 h ∧ szJ h w = n ∧ left ≤ K ∧ (∀ k, 0 ≤ k → k < (n : Int) → LegOk h w k) ∧ rcN h w n = (K : Int) - left ∧ -1 ≤ hi h (w + 146) 12 ∧ (hi h (w + 146) 1 = o ∧ hi h (w + 146) 2 = d ∧ hi h (w + 146) 3 = T) ∧
  ((n = 0 ∧ left = K ∧ hi h (w + 146) 13 = 0 ∧ OS (hi h0 (w + 2)) (Wy h0 w) (Rc h0 w) d D K o T) ∨
   (afJ h w n ∧ left < K ∧ n ≤ 2 * (K - left) ∧ JA (hi h0 (w + 2)) (Wy h0 w) (Ra h0 w) o T (T + 2880) (K - left) (spJ h w n) (tmJ h w n) (hi h (w + 146) 13) ∧ OA (hi h0 (w + 2)) (Wy h0 w) (Rc h0 w) d D left (spJ h w n) (tmJ h w n)) ∨
   (0 < n ∧ ¬ afJ h w n ∧ n ≤ 2 * (K - left) + 1 ∧ ∃ s' t' m, JA (hi h0 (w + 2)) (Wy h0 w) (Ra h0 w) o T (T + 2880) (K - left) s' t' (hi h (w + 146) 13) ∧ Wy h0 w s' (spJ h w n) m ∧ tmJ h w n = t' + m ∧ ((spJ h w n = d ∧ tmJ h w n ≤ D) ∨ OB (hi h0 (w + 2)) (Wy h0 w) (Rc h0 w) d D left (spJ h w n) (tmJ h w n))))
section TRI
variable {h0 h h' : Hp} {w X : Nat} {o d T D : Int} {K left n : Nat}
theorem Kn.nr (hT : TT h0 w X) (q : Kn h0 w o d T D K) : Net (hi h0 (w + 1) 4) (hi h0 (w + 2)) (Wy h0 w) (Rc h0 w) := ⟨hT.net.1, hT.net.2.1, hT.net.2.2.1, fun r z => hT.net.2.2.2 r (q.1.sub z)⟩
/-- in time: no later than D -/
theorem TrI.time (hT : TT h0 w X) (kn : Kn h0 w o d T D K) (q : TrI h0 h w o d T D K left n) : T ≤ tmJ h w n ∧ tmJ h w n ≤ D ∧ (0 ≤ spJ h w n ∧ spJ h w n < hi h0 (w + 1) 4) := by
  have N := kn.nr hT
  have NA := hT.net
  obtain ⟨-, hsz, -, -, -, -, ⟨f1, f2, f3⟩, q⟩ := q
  rcases q with ⟨rfl, rfl, -, q⟩ | ⟨-, -, -, q1, q2⟩ | ⟨-, -, -, s', t', m, q1, q2, q3, q4⟩
  · have e1 : tmJ h w ((0 : Nat) : Int) = T := by unfold tmJ; rw [if_pos (by omega)]; exact f3
    have e2 : spJ h w ((0 : Nat) : Int) = o := by unfold spJ; rw [if_pos (by omega)]; exact f1
    rw [e1, e2]
    exact ⟨Int.le_refl _, kn.2.2.2.1.2.1, kn.2.1⟩
  · have r := JA.range NA kn.2.1 _ _ _ _ q1
    exact ⟨(JA.ge NA kn.2.1 _ _ _ _ q1).1, OA.le N _ _ _ _ (NA.1 _ r.1 r.2).1 q2, r⟩
  · have r := NA.2.1 _ _ _ q2
    have g := (JA.ge NA kn.2.1 _ _ _ _ q1).1
    refine ⟨by omega, ?_, r.2.1⟩
    rcases q4 with z | z
    · exact z.2
    · exact OB.le N z
/-- the price so far is small -/
theorem JA.cheap {c : Int → Int} {W : Int → Int → Int → Prop} {R : Rn → Prop} {L : Int} (hp : ∀ r, R r → rp r ≤ 500) : ∀ (k : Nat) (s t p : Int), JA c W R o T L k s t p → p ≤ 500 * k := by
  intro k
  induction k with
  | zero => rintro s t p ⟨-, -, rfl⟩; decide
  | succ k ih =>
    rintro s t p ⟨s0, t0, p0, r, i, j, ⟨s', t', ha, -⟩, hR, -, -, -, -, -, -, -, -, rfl⟩
    have := ih _ _ _ ha
    have := hp r hR
    omega
theorem TrI.ride {m : Nat} (hT : TT h0 w X) (kn : Kn h0 w o d T D K) (q : TrI h0 h w o d T D K (m + 1) n) (k : TkR h h' w m) : TrI h0 h' w o d T D K m (n + 1) := by
  have N := kn.nr hT
  have NA := hT.net
  obtain ⟨tm1, tm2, spr⟩ := q.time hT kn
  obtain ⟨E, hsz, hl, hlegs, hrc, htt, hf, hc⟩ := q
  have hK := kn.2.2.2.2.1
  have hTh := hT.kept E.fm PJoff
  have leg := k.leg hTh
  obtain ⟨t, dd, i, j, tt, a, k1, k2, k3, k4, k5, k6, k7, k8, k9, ap⟩ := k
  have rcE := Rc.kept hT kn.1 E.fm PJoff (fun a z y => by unfold PJ at z; omega) (fun a z y => by unfold PJR at z; omega)
  rw [rcE.1] at k4
  have e40 : hi h (w + 40 + m) = hi h0 (w + 40 + m) := funext fun x => E.2.2.2.2.2.2.2.1 _ _ (by unfold PJ; omega)
  have e2 : hi h (w + 2) = hi h0 (w + 2) := funext fun x => E.2.2.2.2.2.2.2.1 _ _ (by unfold PJ; omega)
  rw [e40] at k8
  have ae := (kn.2.2.2.2.2.2.2.2 m (by omega)).2.1
  have b9 := (N.2.2.2 _ k4).2.1 j (by omega) k5.2.2
  have oam : OA (hi h0 (w + 2)) (Wy h0 w) (Rc h0 w) d D m (hi h (a + 1) j) (baseOf h a dd + hi h (a + 2) j) := (ae _ b9.1.1 b9.1.2 _ (by have := b9.2.1; have e : ra (rnB h a (baseOf h a dd)) j = baseOf h a dd + hi h (a + 2) j := rfl; omega)).mp k8
  have le := OA.le N _ _ _ _ (N.1 _ b9.1.1 b9.1.2).1 oam
  have at1 := ap.at1 (by omega)
  rw [hsz] at at1 leg k6 k7
  have rdy : RDof (hi h0 (w + 2)) (Wy h0 w) (T + 2880) (K - (m + 1)) (JA (hi h0 (w + 2)) (Wy h0 w) (Ra h0 w) o T (T + 2880) (K - (m + 1))) (spJ h w n) (snJ h w n) (hi h (w + 146) 13) := by
    rcases hc with ⟨rfl, c2, c3, -⟩ | ⟨c1, c2, c3, c4, -⟩ | ⟨c0, c1, c2, s', t', mm, c4, c5, c6, -⟩
    · have z0 : K - (m + 1) = 0 := by omega
      rw [z0]
      refine ⟨o, T, ⟨rfl, rfl, c3⟩, Or.inl ⟨?_, ?_⟩⟩
      · unfold spJ; rw [if_pos (by omega)]; exact hf.1
      · unfold snJ tmJ
        rw [if_pos (by omega), if_neg (fun z => absurd z.1 (by omega)), if_pos rfl, hf.2.2]
    · refine ⟨_, _, c4, Or.inl ⟨rfl, ?_⟩⟩
      unfold snJ
      rw [if_pos c1, if_neg (by omega), e2]
    · refine ⟨s', t', c4, Or.inr ⟨mm, c5, ?_, ?_⟩⟩
      · unfold snJ
        rw [if_neg c1]; omega
      · unfold snJ
        rw [if_neg c1]
        have := kn.2.2.2.1
        omega
  refine ⟨E.trans ap.1, by rw [show szJ h' w = szJ h w + 1 from ap.2.2.2.2.2.1, hsz]; rfl, by omega, fun k z0 z1 => ?_, ?_, by rw [ap.2.2.2.2.2.2.1]; exact k9, ⟨ap.2.2.2.2.1.1.trans hf.1, ap.2.2.2.2.1.2.1.trans hf.2.1, ap.2.2.2.2.1.2.2.trans hf.2.2⟩, Or.inr (Or.inl ⟨at1.2.2.mpr (fun z => by cases z), by omega, ?_, ?_, ?_⟩)⟩
  · by_cases z : k = n
    · rw [z]; exact leg
    · exact ap.leg hTh (by omega) (hlegs k z0 (by omega))
  · rw [ap.rc1 hsz, hrc, if_neg (fun z => by cases z)]
    omega
  · rcases hc with ⟨rfl, c2, -⟩ | ⟨-, c2, c3, -⟩ | ⟨-, -, c3, -⟩ <;> omega
  · rw [show K - m = K - (m + 1) + 1 by omega]
    rw [show ((n + 1 : Nat) : Int) = (n : Int) + 1 from rfl, at1.1, at1.2.1, ap.2.2.2.2.2.2.2]
    exact ⟨spJ h w n, snJ h w n, hi h (w + 146) 13, rnB h a (baseOf h a dd), i, j, rdy, kn.1.sub k4, k5.1, k5.2.1, k5.2.2, k6, k7, rfl, rfl, by have := kn.2.2.2.1; omega, rfl⟩
  · rw [show ((n + 1 : Nat) : Int) = (n : Int) + 1 from rfl, at1.1, at1.2.1]
    exact oam
theorem TrI.walk (hT : TT h0 w X) (kn : Kn h0 w o d T D K) (q : TrI h0 h w o d T D K left n) (k : TkW h h' w left) : TrI h0 h' w o d T D K left (n + 1) := by
  have N := kn.nr hT
  obtain ⟨tm1, tm2, spr⟩ := q.time hT kn
  obtain ⟨E, hsz, hl, hlegs, hrc, htt, hf, hc⟩ := q
  have hK := kn.2.2.2.2.1
  have hTh := hT.kept E.fm PJoff
  have leg := k.leg hTh
  obtain ⟨s', mm, k1, k2, k3, ap⟩ := k
  have at1 := ap.at1 (by omega)
  have tb : tgB h w = d := (E.2.2.2.2.2.2.2.1 _ _ (by unfold PJ; omega)).trans kn.2.2.2.2.2.2.2.1.1
  have db : dlB h w = D := (E.2.2.2.2.2.2.2.1 _ _ (by unfold PJ; omega)).trans kn.2.2.2.2.2.2.2.1.2
  have e32 : hi h (w + 32 + left) = hi h0 (w + 32 + left) := funext fun x => E.2.2.2.2.2.2.2.1 _ _ (by unfold PJ; omega)
  rw [hsz] at at1 leg k1 k2 k3
  rw [Wy.kept hT E.fm PJoff] at k1
  rw [tb, db, e32] at k2
  have b9 := N.2.1 _ _ _ k1
  have tlm := kn.2.2.2.1
  have tim := (lat_iff N (kn.2.2.2.2.2.2.2.2 left hl).1 b9.2.1.1 b9.2.1.2 (by omega)).mp k2
  refine ⟨E.trans ap.1, by rw [show szJ h' w = szJ h w + 1 from ap.2.2.2.2.2.1, hsz]; rfl, hl, fun k z0 z1 => ?_, ?_, by rw [ap.2.2.2.2.2.2.1]; exact htt, ⟨ap.2.2.2.2.1.1.trans hf.1, ap.2.2.2.2.1.2.1.trans hf.2.1, ap.2.2.2.2.1.2.2.trans hf.2.2⟩, Or.inr (Or.inr ⟨by omega, fun z => at1.2.2.mp z rfl, ?_, ?_⟩)⟩
  · by_cases z : k = n
    · rw [z]; exact leg
    · exact ap.leg hTh (by omega) (hlegs k z0 (by omega))
  · rw [ap.rc1 hsz, hrc, if_pos rfl]
    omega
  · rcases hc with ⟨rfl, c2, -⟩ | ⟨-, c2, c3, -⟩ | ⟨c0, c1, -⟩
    · omega
    · omega
    · exact absurd (k3 (by omega)) c1
  · rw [show ((n + 1 : Nat) : Int) = (n : Int) + 1 from rfl, at1.1, at1.2.1, ap.2.2.2.2.2.2.2]
    rcases hc with ⟨rfl, c2, c3, -⟩ | ⟨-, -, -, c4, -⟩ | ⟨c0, c1, -⟩
    · have z0 : K - left = 0 := by omega
      have e1 : tmJ h w ((0 : Nat) : Int) = T := by unfold tmJ; rw [if_pos (by omega)]; exact hf.2.2
      have e2 : spJ h w ((0 : Nat) : Int) = o := by unfold spJ; rw [if_pos (by omega)]; exact hf.1
      rw [z0]
      exact ⟨_, _, mm, ⟨e2, e1, c3⟩, k1, rfl, tim⟩
    · exact ⟨_, _, mm, c4, k1, rfl, tim⟩
    · exact absurd (k3 (by omega)) c1
/-- one that fails to take a leg is at its end -/
theorem TrI.must (hT : TT h0 w X) (kn : Kn h0 w o d T D K) (q : TrI h0 h w o d T D K left n) (hr : ∀ m, left = m + 1 → ∀ r, Rc h w r → NoR h w m r) (hw : (0 < szJ h w ∧ ¬ afJ h w (szJ h w)) ∨ ∀ s' mm, Wy h w (spJ h w (szJ h w)) s' mm → lat (tgB h w) (dlB h w) (hi h (w + 32 + left)) s' < tmJ h w (szJ h w) + mm) : left = 0 ∧ spJ h w n = d := by
  have N := kn.nr hT
  obtain ⟨tm1, tm2, spr⟩ := q.time hT kn
  obtain ⟨E, hsz, hl, hlegs, hrc, htt, hf, hc⟩ := q
  have hK := kn.2.2.2.2.1
  have tlm := kn.2.2.2.1
  have tb : tgB h w = d := (E.2.2.2.2.2.2.2.1 _ _ (by unfold PJ; omega)).trans kn.2.2.2.2.2.2.2.1.1
  have db : dlB h w = D := (E.2.2.2.2.2.2.2.1 _ _ (by unfold PJ; omega)).trans kn.2.2.2.2.2.2.2.1.2
  have e32 : hi h (w + 32 + left) = hi h0 (w + 32 + left) := funext fun x => E.2.2.2.2.2.2.2.1 _ _ (by unfold PJ; omega)
  have e2 : hi h (w + 2) = hi h0 (w + 2) := funext fun x => E.2.2.2.2.2.2.2.1 _ _ (by unfold PJ; omega)
  have rcE := Rc.kept hT kn.1 E.fm PJoff (fun a z y => by unfold PJ at z; omega) (fun a z y => by unfold PJR at z; omega)
  rw [hsz, tb, db, e32, Wy.kept hT E.fm PJoff] at hw
  rw [rcE.1] at hr
  -- no ride on
  have nob : ¬ OB (hi h0 (w + 2)) (Wy h0 w) (Rc h0 w) d D left (spJ h w n) (snJ h w n) := by
    intro z
    match left, hl, hr, z with
    | 0, _, _, z => exact z.elim
    | m + 1, hl, hr, ⟨r, i, j, r0, r1, r2, r3, r4, r5, r6⟩ =>
      have e40 : hi h (w + 40 + m) = hi h0 (w + 40 + m) := funext fun x => E.2.2.2.2.2.2.2.1 _ _ (by unfold PJ; omega)
      have b9 := (N.2.2.2 r r0).2.1 j (by omega) r3
      have := hr m rfl r r0 i j r1 r2 r3 (by rw [hsz]; exact r4) (by rw [hsz]; exact r5)
      rw [e40] at this
      have := ((kn.2.2.2.2.2.2.2.2 m (by omega)).2.1 _ b9.1.1 b9.1.2 _ (by omega)).mpr r6
      omega
  -- no way on
  have now : (0 < n → afJ h w n) → ∀ s' mm, Wy h0 w (spJ h w n) s' mm → ¬ ((s' = d ∧ tmJ h w n + mm ≤ D) ∨ OB (hi h0 (w + 2)) (Wy h0 w) (Rc h0 w) d D left s' (tmJ h w n + mm)) := by
    intro ha s' mm hww z
    have b9 := N.2.1 _ _ _ hww
    have := (lat_iff N (kn.2.2.2.2.2.2.2.2 left hl).1 b9.2.1.1 b9.2.1.2 (by omega)).mpr z
    rcases hw with ⟨y0, y1⟩ | hw
    · exact y1 (ha (by omega))
    · have := hw s' mm hww
      omega
  -- at its end already
  have fin : ∀ k, k = K - left → JE (hi h0 (w + 2)) (Wy h0 w) (Ra h0 w) o T (T + 2880) k d (tmJ h w n) (hi h (w + 146) 13) → left = 0 := fun k z y => by
    by_cases hh : k < K
    · have := kn.2.2.2.2.2.2.1 k _ _ hh y
      omega
    · omega
  rcases hc with ⟨rfl, c2, c3, c4⟩ | ⟨c1, c2, c3, c4, c5⟩ | ⟨c0, c1, c2, s', t', m, c4, c5, c6, c7⟩
  · have e1 : tmJ h w ((0 : Nat) : Int) = T := by unfold tmJ; rw [if_pos (by omega)]; exact hf.2.2
    have e3 : spJ h w ((0 : Nat) : Int) = o := by unfold spJ; rw [if_pos (by omega)]; exact hf.1
    have e4 : snJ h w ((0 : Nat) : Int) = T := by unfold snJ; rw [if_neg (fun z => absurd z.1 (by omega)), e1]; omega
    rw [e4, e3] at nob
    rw [e3, e1] at now
    rw [e3]
    rw [e1] at fin
    rw [← c2] at c4
    rcases c4 with ⟨z, -⟩ | z | ⟨s', m, z1, z2⟩
    · refine ⟨fin (K - left) rfl (Or.inl ?_), z⟩
      rw [show K - left = 0 by omega]
      exact ⟨z.symm, rfl, c3⟩
    · rw [Int.add_zero] at z
      exact absurd z nob
    · exact absurd z2 (now (fun y => absurd y (by omega)) s' m z1)
  · have e4 : snJ h w n = tmJ h w n + hi h0 (w + 2) (spJ h w n) := by unfold snJ; rw [if_pos c1, e2]
    rcases c5 with ⟨z, z9⟩ | z | ⟨s', m, z1, z2⟩
    · exact ⟨fin _ rfl (Or.inl (by rw [← z]; exact c4)), z⟩
    · rw [← e4] at z
      exact absurd z nob
    · exact absurd z2 (now (fun _ => c1) s' m z1)
  · have e4 : snJ h w n = tmJ h w n := by unfold snJ; rw [if_neg c1]; omega
    rcases c7 with ⟨z, z9⟩ | z
    · exact ⟨fin _ rfl (Or.inr ⟨s', t', m, c4, by rw [← z]; exact c5, c6, by omega⟩), z⟩
    · rw [← e4] at z
      exact absurd z nob
end TRI
