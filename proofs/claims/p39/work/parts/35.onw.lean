/-! ===== the search onwards: all runs, arriving, beginning ===== -/
/-- the run at a place of the list -/
def RcI (h : Hp) (w : Nat) (q : Int) (r : Rn) : Prop := 0 ≤ q ∧ ∃ a, hr h (w + 7) q = some a ∧ r = rnB h a (hi h (w + 9) q)
theorem Rc_iff {h : Hp} {w : Nat} {r : Rn} : Rc h w r ↔ ∃ q, q < hi h (w + 6) 3 ∧ RcI h w q r := by
  constructor
  · rintro ⟨k, a, h0, h1, h2, h3⟩
    exact ⟨k, h1, h0, a, h2, h3⟩
  · rintro ⟨k, h1, h0, a, h2, h3⟩
    exact ⟨k, a, h0, h1, h2, h3⟩
/-- what is known of a collected run -/
theorem RunsOk.at {h : Hp} {w X : Nat} (qr : RunsOk h w) (q : TT h w X) {k : Int} (h0 : 0 ≤ k) (h1 : k < hi h (w + 6) 3) : ∃ a, hr h (w + 7) k = some a ∧ w + 154 ≤ a ∧ a + 5 ≤ X ∧ TripOk h (hi h (w + 1) 4) a ∧ 0 ≤ hi h (w + 9) k ∧ hi h (w + 9) k ≤ 600000 := by
  obtain ⟨t, a, g1, g2, g3, g4, ⟨g5, g6, -⟩, g7⟩ := qr.2 k h0 h1
  obtain ⟨a', c, z1, z2, z3, z4, -⟩ := q.2.2.2.2.2.1 t g1 g2
  cases g3.symm.trans z1
  have := z4.2.2.2.2.2.2.1 _ g5.1 g5.2
  refine ⟨a, g4, z2, z3, z4, ?_, ?_⟩ <;> (rw [g7]; unfold baseOf; omega)
set_option maxRecDepth 100000 in
set_option maxHeartbeats 4000000 in
theorem l_ride {w X K : Nat} {h0 : Hp} (hS0 : Sk h0 w) (hT0 : TT h0 w X) (hR0 : RunsOk h0 w) (hK : K < 7) (hlim : 0 ≤ hi h0 (w + 12) 3 ∧ hi h0 (w + 12) 3 ≤ 1000000) {Q : Option AV → Hp → Prop} : ∀ (m : Nat) (q b : Int) (h : Hp), q + m = hi h0 (w + 6) 3 → 0 ≤ q → ch (· = w + 29) nP h0 h → RidI (hi h0 (w + 1) 4) (RcI h0 w) (hi h0 (w + 12) 3) (hi h0 (w + 22 + K)) (hi h0 (w + 29)) (hi h (w + 29)) q b → (∀ h' b', ch (· = w + 29) nP h0 h' → RidI (hi h0 (w + 1) 4) (RcI h0 w) (hi h0 (w + 12) 3) (hi h0 (w + 22 + K)) (hi h0 (w + 29)) (hi h' (w + 29)) (hi h0 (w + 6) 3) b' → Q (some (vI b')) h') → wp 84 5 [some (vR (some (w + 12))), some (vR (some (w + 6))), some (vR (some (w + 22 + K))), some (vI b), some (vI q)] [] h Q noX := by
  intro m
  have hX := hT0.2.2.2.2.2.2
  have hn := hT0.1
  have hrc := hR0.1
  induction m with
  | zero =>
    intro q b h e0 e1 E I kq
    have hS := hS0.ch E hT0
    have hS9 := hS
    have E8 := E.2.2.2.2.2.2.2.1
    have p6 : ¬ w + 6 = w + 29 := by omega
    have p9 : ¬ w + 9 = w + 29 := by omega
    have gb : b = 0 ∨ b = 1 := by rcases I.2.2 with z | z <;> omega
    obtain ⟨⟨k1, k2, k3, k4, k5, k6, k7⟩, ⟨n1, ⟨n2, n3, n4, n5⟩, ⟨n6, n7⟩, ⟨n8, n9⟩, ⟨n10, n11⟩, n12, n13⟩, ⟨m1, ⟨m2, m3, m4⟩, ⟨m5, m6⟩, ⟨m7, m8⟩, m9, m10⟩, ⟨o1, ⟨o2, o3, o4⟩, ⟨o5, o6, o7⟩, ⟨o8, o9, o10⟩, o11, o12⟩, ⟨b1, ⟨b2, b3⟩, ⟨b4, b5, b6⟩, b7, b8, b9⟩, ⟨j1, ⟨j2, j3, j4, j5, j6, j7, j8⟩, ⟨j9, j10⟩, j11⟩⟩ := hS
    obtain ⟨r4, r5, r6⟩ := o10 K hK
    refine wp_iload d_84_5 (by rfl) ?_
    refine wp_aload_n d_84_7 (by rfl) ?_
    refine wp_getI (3) d_84_8 fl_9_65 rfl rfl (by assumption) (fun x_8 e_8 r_8 => ?_)
    (try rw [E8 _ _ p6] at e_8)
    (try rw [E8 _ _ p9] at e_8)
    refine wp_icmp_ge (tgt := 52) d_84_11 (by decide) (by omega) (by omega) (fun c_11 => ?_) (fun c_11 => ?_)
    rotate_left
    · exact absurd c_11 (by omega)
    refine wp_iload_n d_84_52 (by rfl) ?_
    refine wp_zret d_84_53 rfl (by omega) ?_
    obtain rfl : q = hi h0 (w + 6) 3 := by omega
    exact kq h b E I
  | succ m ih =>
    intro q b h e0 e1 E I kq
    have hS := hS0.ch E hT0
    have hS9 := hS
    have E8 := E.2.2.2.2.2.2.2.1
    have p6 : ¬ w + 6 = w + 29 := by omega
    have p9 : ¬ w + 9 = w + 29 := by omega
    have gb : b = 0 ∨ b = 1 := by rcases I.2.2 with z | z <;> omega
    obtain ⟨⟨k1, k2, k3, k4, k5, k6, k7⟩, ⟨n1, ⟨n2, n3, n4, n5⟩, ⟨n6, n7⟩, ⟨n8, n9⟩, ⟨n10, n11⟩, n12, n13⟩, ⟨m1, ⟨m2, m3, m4⟩, ⟨m5, m6⟩, ⟨m7, m8⟩, m9, m10⟩, ⟨o1, ⟨o2, o3, o4⟩, ⟨o5, o6, o7⟩, ⟨o8, o9, o10⟩, o11, o12⟩, ⟨b1, ⟨b2, b3⟩, ⟨b4, b5, b6⟩, b7, b8, b9⟩, ⟨j1, ⟨j2, j3, j4, j5, j6, j7, j8⟩, ⟨j9, j10⟩, j11⟩⟩ := hS
    obtain ⟨r4, r5, r6⟩ := o10 K hK
    obtain ⟨a, g1, g2, g3, g4, g5, g6⟩ := hR0.at hT0 e1 (by omega)
    have f1 : hr h (w + 7) q = some a := (E.2.2.2.2.2.2.2.2 _ _ id).trans g1
    have ka : kd h a = 12 := (congrFun E.1 a).trans g4.1
    have hT := g4.kept E.fm (fun z z1 z2 z3 => by omega) id (by omega)
    have ea : hi h a = hi h0 a := funext fun z => E8 a z (by omega)
    have ea1 : hi h (a + 1) = hi h0 (a + 1) := funext fun z => E8 (a + 1) z (by omega)
    have ea2 : hi h (a + 2) = hi h0 (a + 2) := funext fun z => E8 (a + 2) z (by omega)
    have ea3 : hi h (a + 3) = hi h0 (a + 3) := funext fun z => E8 (a + 3) z (by omega)
    have el : hi h (w + 12) 3 = hi h0 (w + 12) 3 := E8 (w + 12) 3 (by omega)
    have ey : hi h (w + 22 + K) = hi h0 (w + 22 + K) := funext fun z => E8 (w + 22 + K) z (by omega)
    have enx : nx h = nx h0 := E.2.2.2.1
    refine wp_iload d_84_5 (by rfl) ?_
    refine wp_aload_n d_84_7 (by rfl) ?_
    refine wp_getI (3) d_84_8 fl_9_65 rfl rfl (by assumption) (fun x_8 e_8 r_8 => ?_)
    (try rw [E8 _ _ p6] at e_8)
    (try rw [E8 _ _ p9] at e_8)
    refine wp_icmp_ge (tgt := 52) d_84_11 (by decide) (by omega) (by omega) (fun c_11 => ?_) (fun c_11 => ?_)
    · refine wp_iload_n d_84_52 (by rfl) ?_
      refine wp_zret d_84_53 rfl (by omega) ?_
      exact absurd c_11 (by omega)
    · refine wp_aload_n d_84_14 (by rfl) ?_
      refine wp_aload_n d_84_15 (by rfl) ?_
      refine wp_getR (0) d_84_16 fl_9_68 rfl rfl (by assumption) (by assumption) ?_
      refine wp_iload d_84_19 (by rfl) ?_
      refine wp_aald d_84_21 (by first | omega | (simp only [kd_setI, kd_cpI]; omega)) (by first | omega | (simp only [kd_setI, kd_cpI]; omega)) (by apply isRf_of; assumption; rfl) (by omega) (by omega) (by assumption) ?_
      refine wp_aload_n d_84_22 (by rfl) ?_
      refine wp_getR (2) d_84_23 fl_9_72 rfl rfl (by assumption) (by assumption) ?_
      refine wp_iload d_84_26 (by rfl) ?_
      refine wp_iald d_84_28 (Or.inl (by assumption)) (by omega) (by omega) (fun x_28 e_28 r_28 => ?_)
      (try rw [E8 _ _ p6] at e_28)
      (try rw [E8 _ _ p9] at e_28)
      refine wp_aload_n d_84_29 (by rfl) ?_
      refine wp_callV d_84_30 c_84_75 rfl (by rfl) (by rfl) ⟨9, rfl, rfl, by decide⟩ (by assumption) (by exact Nat.le_of_ble_eq_true rfl) (by exact Nat.le_of_ble_eq_true rfl) (s_rideRun hS9 hT g2 hn.2 r5 r6 (by omega) (by omega) (by omega) (by rw [e_28]; exact ⟨g5, g6⟩) (by rw [el]; exact hlim)) (fun v_30 h_30 q_30 => ?_) (fun _ _ q => q.elim)
      obtain ⟨b1, rfl, E1, I1⟩ := q_30
      rw [ea, ea1, ea2, ea3, el, ey, e_28] at I1
      have gb1 : b1 = 0 ∨ b1 = 1 := by rcases I1.2.2 with z | z <;> omega
      refine wp_if_ne (tgt := 40) d_84_33 (by decide) (by omega) (fun c_33 => ?_) (fun c_33 => ?_)
      · refine wp_iconst d_84_40 ?_
        refine wp_goto (tgt := 45) d_84_41 (by decide) ?_
        refine wp_istore_n d_84_45 (by decide) ?_
        refine wp_iinc d_84_46 (by rfl) (by decide) ?_
        refine wp_goto (tgt := 5) d_84_49 (by decide) ?_
        first
          | (refine wp_to [some (vR (some (w + 12))), some (vR (some (w + 6))), some (vR (some (w + 22 + K))), some (vI 1), some (vI (q + 1))] ⟨rfl, rfl, rfl, rfl, rfl, trivial⟩ ?_
             exact ih (q + 1) 1 _ (by omega) (by omega) (E.trans E1) (I.step (r0 := rnB h0 a (hi h0 (w + 9) q)) (fun r z => by obtain ⟨-, a', z1, z2⟩ := z; cases z1.symm.trans g1; exact z2) ⟨e1, a, g1, rfl⟩ (fun z z0 z1 => (g4.2.2.2.2.1 z z0 z1).1) (fun q' r z z1 z2 z3 z4 => by obtain ⟨z5, a', z6, z7⟩ := z2; subst z7; obtain ⟨a9, y1, y2, y3, y4, -⟩ := hR0.at hT0 z5 (by omega); cases z6.symm.trans y1; exact (y4.2.2.2.2.1 z z3 z4).1) I1 (Or.inr rfl)) kq)
          | (refine wp_to [some (vR (some (w + 12))), some (vR (some (w + 6))), some (vR (some (w + 22 + K))), some (vI 0), some (vI (q + 1))] ⟨rfl, rfl, rfl, rfl, rfl, trivial⟩ ?_
             exact ih (q + 1) 0 _ (by omega) (by omega) (E.trans E1) (I.step (r0 := rnB h0 a (hi h0 (w + 9) q)) (fun r z => by obtain ⟨-, a', z1, z2⟩ := z; cases z1.symm.trans g1; exact z2) ⟨e1, a, g1, rfl⟩ (fun z z0 z1 => (g4.2.2.2.2.1 z z0 z1).1) (fun q' r z z1 z2 z3 z4 => by obtain ⟨z5, a', z6, z7⟩ := z2; subst z7; obtain ⟨a9, y1, y2, y3, y4, -⟩ := hR0.at hT0 z5 (by omega); cases z6.symm.trans y1; exact (y4.2.2.2.2.1 z z3 z4).1) I1 (Or.inl ⟨rfl, by omega, by omega⟩)) kq)
      · refine wp_iload_n d_84_36 (by rfl) ?_
        refine wp_if_eq (tgt := 44) d_84_37 (by decide) (by omega) (fun c_37 => ?_) (fun c_37 => ?_)
        · refine wp_iconst d_84_44 ?_
          refine wp_istore_n d_84_45 (by decide) ?_
          refine wp_iinc d_84_46 (by rfl) (by decide) ?_
          refine wp_goto (tgt := 5) d_84_49 (by decide) ?_
          first
            | (refine wp_to [some (vR (some (w + 12))), some (vR (some (w + 6))), some (vR (some (w + 22 + K))), some (vI 1), some (vI (q + 1))] ⟨rfl, rfl, rfl, rfl, rfl, trivial⟩ ?_
               exact ih (q + 1) 1 _ (by omega) (by omega) (E.trans E1) (I.step (r0 := rnB h0 a (hi h0 (w + 9) q)) (fun r z => by obtain ⟨-, a', z1, z2⟩ := z; cases z1.symm.trans g1; exact z2) ⟨e1, a, g1, rfl⟩ (fun z z0 z1 => (g4.2.2.2.2.1 z z0 z1).1) (fun q' r z z1 z2 z3 z4 => by obtain ⟨z5, a', z6, z7⟩ := z2; subst z7; obtain ⟨a9, y1, y2, y3, y4, -⟩ := hR0.at hT0 z5 (by omega); cases z6.symm.trans y1; exact (y4.2.2.2.2.1 z z3 z4).1) I1 (Or.inr rfl)) kq)
            | (refine wp_to [some (vR (some (w + 12))), some (vR (some (w + 6))), some (vR (some (w + 22 + K))), some (vI 0), some (vI (q + 1))] ⟨rfl, rfl, rfl, rfl, rfl, trivial⟩ ?_
               exact ih (q + 1) 0 _ (by omega) (by omega) (E.trans E1) (I.step (r0 := rnB h0 a (hi h0 (w + 9) q)) (fun r z => by obtain ⟨-, a', z1, z2⟩ := z; cases z1.symm.trans g1; exact z2) ⟨e1, a, g1, rfl⟩ (fun z z0 z1 => (g4.2.2.2.2.1 z z0 z1).1) (fun q' r z z1 z2 z3 z4 => by obtain ⟨z5, a', z6, z7⟩ := z2; subst z7; obtain ⟨a9, y1, y2, y3, y4, -⟩ := hR0.at hT0 z5 (by omega); cases z6.symm.trans y1; exact (y4.2.2.2.2.1 z z3 z4).1) I1 (Or.inl ⟨rfl, by omega, by omega⟩)) kq)
        · refine wp_iconst d_84_40 ?_
          refine wp_goto (tgt := 45) d_84_41 (by decide) ?_
          refine wp_istore_n d_84_45 (by decide) ?_
          refine wp_iinc d_84_46 (by rfl) (by decide) ?_
          refine wp_goto (tgt := 5) d_84_49 (by decide) ?_
          first
            | (refine wp_to [some (vR (some (w + 12))), some (vR (some (w + 6))), some (vR (some (w + 22 + K))), some (vI 1), some (vI (q + 1))] ⟨rfl, rfl, rfl, rfl, rfl, trivial⟩ ?_
               exact ih (q + 1) 1 _ (by omega) (by omega) (E.trans E1) (I.step (r0 := rnB h0 a (hi h0 (w + 9) q)) (fun r z => by obtain ⟨-, a', z1, z2⟩ := z; cases z1.symm.trans g1; exact z2) ⟨e1, a, g1, rfl⟩ (fun z z0 z1 => (g4.2.2.2.2.1 z z0 z1).1) (fun q' r z z1 z2 z3 z4 => by obtain ⟨z5, a', z6, z7⟩ := z2; subst z7; obtain ⟨a9, y1, y2, y3, y4, -⟩ := hR0.at hT0 z5 (by omega); cases z6.symm.trans y1; exact (y4.2.2.2.2.1 z z3 z4).1) I1 (Or.inr rfl)) kq)
            | (refine wp_to [some (vR (some (w + 12))), some (vR (some (w + 6))), some (vR (some (w + 22 + K))), some (vI 0), some (vI (q + 1))] ⟨rfl, rfl, rfl, rfl, rfl, trivial⟩ ?_
               exact ih (q + 1) 0 _ (by omega) (by omega) (E.trans E1) (I.step (r0 := rnB h0 a (hi h0 (w + 9) q)) (fun r z => by obtain ⟨-, a', z1, z2⟩ := z; cases z1.symm.trans g1; exact z2) ⟨e1, a, g1, rfl⟩ (fun z z0 z1 => (g4.2.2.2.2.1 z z0 z1).1) (fun q' r z z1 z2 z3 z4 => by obtain ⟨z5, a', z6, z7⟩ := z2; subst z7; obtain ⟨a9, y1, y2, y3, y4, -⟩ := hR0.at hT0 z5 (by omega); cases z6.symm.trans y1; exact (y4.2.2.2.2.1 z z3 z4).1) I1 (Or.inl ⟨rfl, by omega, by omega⟩)) kq)
set_option maxRecDepth 100000 in
set_option maxHeartbeats 4000000 in
theorem s_ride {w X K : Nat} {h0 : Hp} (hS0 : Sk h0 w) (hT0 : TT h0 w X) (hR0 : RunsOk h0 w) (hK : K < 7) (hlim : 0 ≤ hi h0 (w + 12) 3 ∧ hi h0 (w + 12) 3 ≤ 1000000) : wp 84 0 (entL [vR (some (w + 12)), vR (some (w + 6)), vR (some (w + 22 + K))] (mL 84)) [] h0 (fun v h' => ∃ b, v = some (vI b) ∧ ch (· = w + 29) nP h0 h' ∧ RideR (hi h0 (w + 1) 4) (Rc h0 w) (hi h0 (w + 12) 3) (hi h0 (w + 22 + K)) (hi h0 (w + 29)) (hi h' (w + 29)) ∧ ((b = 0 ∧ ∀ s, 0 ≤ s → s < hi h0 (w + 1) 4 → hi h' (w + 29) s = hi h0 (w + 29) s) ∨ b = 1)) noX := by
  refine wp_iconst d_84_0 ?_
  refine wp_istore_n d_84_1 (by decide) ?_
  refine wp_iconst d_84_2 ?_
  refine wp_istore d_84_3 (by decide) ?_
  refine wp_to [some (vR (some (w + 12))), some (vR (some (w + 6))), some (vR (some (w + 22 + K))), some (vI 0), some (vI 0)] ⟨rfl, rfl, rfl, rfl, rfl, trivial⟩ ?_
  have hrc := hR0.1
  refine l_ride hS0 hT0 hR0 hK hlim (hi h0 (w + 6) 3).toNat 0 0 h0 (by omega) (by omega) ch.rfl (RidI.start fun q r z => z.1) (fun h' b' E I => ?_)
  obtain ⟨d1, d2⟩ := I.done (R := Rc h0 w) (fun r => Rc_iff)
  exact ⟨b', rfl, E, d1, d2⟩
set_option maxRecDepth 100000 in
set_option maxHeartbeats 4000000 in
theorem l_alight {w X K : Nat} {h0 : Hp} (hS0 : Sk h0 w) (hT0 : TT h0 w X) (hK : K < 7) (hf : Bd (hi h0 (w + 1) 4) (hi h0 (w + 29))) {Q : Option AV → Hp → Prop} : ∀ (m : Nat) (j : Int) (h : Hp), j + m = hi h0 (w + 1) 4 → 0 ≤ j → ch (PW w K) nP h0 h → (∀ s, 0 ≤ s → s < 16 → hi h (w + 14 + K) s = (if s < j then min (hi h0 (w + 14 + K) s) (hi h0 (w + 29) s) else hi h0 (w + 14 + K) s) ∧ hi h (w + 22 + K) s = (if s < j then min (hi h0 (w + 22 + K) s) (hi h0 (w + 29) s + hi h0 (w + 2) s) else hi h0 (w + 22 + K) s)) → (∀ h', ch (PW w K) nP h0 h' → (∀ s, 0 ≤ s → s < 16 → hi h' (w + 14 + K) s = (if s < hi h0 (w + 1) 4 then min (hi h0 (w + 14 + K) s) (hi h0 (w + 29) s) else hi h0 (w + 14 + K) s) ∧ hi h' (w + 22 + K) s = (if s < hi h0 (w + 1) 4 then min (hi h0 (w + 22 + K) s) (hi h0 (w + 29) s + hi h0 (w + 2) s) else hi h0 (w + 22 + K) s)) → Q none h') → wp 86 2 [some (vR (some (w + 12))), some (vR (some (w + 1))), some (vI (K : Int)), some (vI j)] [] h Q noX := by
  intro m
  have hn := hT0.1
  have hc := hT0.2.2.2.1
  induction m with
  | zero =>
    intro j h e0 e1 E I kq
    have hS := hS0.ch E hT0
    have E8 := E.2.2.2.2.2.2.2.1
    have p1 : ¬ PW w K (w + 1) := fun z => by unfold PW at z; omega
    have p2 : ¬ PW w K (w + 2) := fun z => by unfold PW at z; omega
    have pf : ¬ PW w K (w + 29) := fun z => by unfold PW at z; omega
    obtain ⟨⟨k1, k2, k3, k4, k5, k6, k7⟩, ⟨n1, ⟨n2, n3, n4, n5⟩, ⟨n6, n7⟩, ⟨n8, n9⟩, ⟨n10, n11⟩, n12, n13⟩, ⟨m1, ⟨m2, m3, m4⟩, ⟨m5, m6⟩, ⟨m7, m8⟩, m9, m10⟩, ⟨o1, ⟨o2, o3, o4⟩, ⟨o5, o6, o7⟩, ⟨o8, o9, o10⟩, o11, o12⟩, ⟨b1, ⟨b2, b3⟩, ⟨b4, b5, b6⟩, b7, b8, b9⟩, ⟨j1, ⟨j2, j3, j4, j5, j6, j7, j8⟩, ⟨j9, j10⟩, j11⟩⟩ := hS
    obtain ⟨r1, r2, r3⟩ := o7 K hK
    obtain ⟨r4, r5, r6⟩ := o10 K hK
    refine wp_iload_n d_86_2 (by rfl) ?_
    refine wp_aload_n d_86_3 (by rfl) ?_
    refine wp_getI (4) d_86_4 fl_9_91 rfl rfl (by assumption) (fun x_4 e_4 r_4 => ?_)
    (try rw [E8 _ _ p1] at e_4)
    (try rw [E8 _ _ p2] at e_4)
    (try rw [E8 _ _ pf] at e_4)
    (try rw [hi_setI_ne (by omega), E8 _ _ p1] at e_4)
    (try rw [hi_setI_ne (by omega), E8 _ _ p2] at e_4)
    (try rw [hi_setI_ne (by omega), E8 _ _ pf] at e_4)
    refine wp_icmp_ge (tgt := 73) d_86_7 (by decide) (by omega) (by omega) (fun c_7 => ?_) (fun c_7 => ?_)
    rotate_left
    · exact absurd c_7 (by omega)
    refine wp_vret d_86_73 rfl ?_
    obtain rfl : j = hi h0 (w + 1) 4 := by omega
    exact kq h E I
  | succ m ih =>
    intro j h e0 e1 E I kq
    have hS := hS0.ch E hT0
    have E8 := E.2.2.2.2.2.2.2.1
    have p1 : ¬ PW w K (w + 1) := fun z => by unfold PW at z; omega
    have p2 : ¬ PW w K (w + 2) := fun z => by unfold PW at z; omega
    have pf : ¬ PW w K (w + 29) := fun z => by unfold PW at z; omega
    obtain ⟨⟨k1, k2, k3, k4, k5, k6, k7⟩, ⟨n1, ⟨n2, n3, n4, n5⟩, ⟨n6, n7⟩, ⟨n8, n9⟩, ⟨n10, n11⟩, n12, n13⟩, ⟨m1, ⟨m2, m3, m4⟩, ⟨m5, m6⟩, ⟨m7, m8⟩, m9, m10⟩, ⟨o1, ⟨o2, o3, o4⟩, ⟨o5, o6, o7⟩, ⟨o8, o9, o10⟩, o11, o12⟩, ⟨b1, ⟨b2, b3⟩, ⟨b4, b5, b6⟩, b7, b8, b9⟩, ⟨j1, ⟨j2, j3, j4, j5, j6, j7, j8⟩, ⟨j9, j10⟩, j11⟩⟩ := hS
    obtain ⟨r1, r2, r3⟩ := o7 K hK
    obtain ⟨r4, r5, r6⟩ := o10 K hK
    have I0 := I j e1 (by omega)
    rw [if_neg (by omega), if_neg (by omega)] at I0
    have fj := hf j e1 (by omega)
    have cj := hc j
    refine wp_iload_n d_86_2 (by rfl) ?_
    refine wp_aload_n d_86_3 (by rfl) ?_
    refine wp_getI (4) d_86_4 fl_9_91 rfl rfl (by first | assumption | (simp only [kd_setI]; assumption)) (fun x_4 e_4 r_4 => ?_)
    (try rw [E8 _ _ p1] at e_4)
    (try rw [E8 _ _ p2] at e_4)
    (try rw [E8 _ _ pf] at e_4)
    (try rw [hi_setI_ne (by omega), E8 _ _ p1] at e_4)
    (try rw [hi_setI_ne (by omega), E8 _ _ p2] at e_4)
    (try rw [hi_setI_ne (by omega), E8 _ _ pf] at e_4)
    refine wp_icmp_ge (tgt := 73) d_86_7 (by decide) (by first | omega | (simp only [ln_setI]; omega)) (by first | omega | (simp only [ln_setI]; omega)) (fun c_7 => ?_) (fun c_7 => ?_)
    · exact absurd c_7 (by omega)
    refine wp_aload_n d_86_10 (by rfl) ?_
    refine wp_getR (0) d_86_11 fl_9_11 rfl rfl (by first | assumption | (simp only [kd_setI]; assumption)) (by first | assumption | (simp only [hr_setI]; assumption)) ?_
    refine wp_iload_n d_86_14 (by rfl) ?_
    refine wp_aald d_86_15 (by first | omega | (simp only [kd_setI, kd_cpI]; omega)) (by first | omega | (simp only [kd_setI, kd_cpI]; omega)) (by apply isRf_of; assumption; rfl) (by first | omega | (simp only [ln_setI]; omega)) (by first | omega | (simp only [ln_setI]; omega)) (by first | assumption | (simp only [hr_setI]; assumption)) ?_
    refine wp_iload_n d_86_16 (by rfl) ?_
    refine wp_aload_n d_86_17 (by rfl) ?_
    refine wp_getR (0) d_86_18 fl_9_11 rfl rfl (by first | assumption | (simp only [kd_setI]; assumption)) (by first | assumption | (simp only [hr_setI]; assumption)) ?_
    refine wp_iload_n d_86_21 (by rfl) ?_
    refine wp_aald d_86_22 (by first | omega | (simp only [kd_setI, kd_cpI]; omega)) (by first | omega | (simp only [kd_setI, kd_cpI]; omega)) (by apply isRf_of; assumption; rfl) (by first | omega | (simp only [ln_setI]; omega)) (by first | omega | (simp only [ln_setI]; omega)) (by first | assumption | (simp only [hr_setI]; assumption)) ?_
    refine wp_iload_n d_86_23 (by rfl) ?_
    refine wp_iald d_86_24 (Or.inl (by first | assumption | (simp only [kd_setI]; assumption))) (by first | omega | (simp only [ln_setI]; omega)) (by first | omega | (simp only [ln_setI]; omega)) (fun x_24 e_24 r_24 => ?_)
    (try rw [E8 _ _ p1] at e_24)
    (try rw [E8 _ _ p2] at e_24)
    (try rw [E8 _ _ pf] at e_24)
    (try rw [hi_setI_ne (by omega), E8 _ _ p1] at e_24)
    (try rw [hi_setI_ne (by omega), E8 _ _ p2] at e_24)
    (try rw [hi_setI_ne (by omega), E8 _ _ pf] at e_24)
    refine wp_aload_n d_86_25 (by rfl) ?_
    refine wp_getR (2) d_86_26 fl_9_19 rfl rfl (by first | assumption | (simp only [kd_setI]; assumption)) (by first | assumption | (simp only [hr_setI]; assumption)) ?_
    refine wp_iload_n d_86_29 (by rfl) ?_
    refine wp_iald d_86_30 (Or.inl (by first | assumption | (simp only [kd_setI]; assumption))) (by first | omega | (simp only [ln_setI]; omega)) (by first | omega | (simp only [ln_setI]; omega)) (fun x_30 e_30 r_30 => ?_)
    (try rw [E8 _ _ p1] at e_30)
    (try rw [E8 _ _ p2] at e_30)
    (try rw [E8 _ _ pf] at e_30)
    (try rw [hi_setI_ne (by omega), E8 _ _ p1] at e_30)
    (try rw [hi_setI_ne (by omega), E8 _ _ p2] at e_30)
    (try rw [hi_setI_ne (by omega), E8 _ _ pf] at e_30)
    refine wp_callS d_86_31 c_86_96 rfl (by rfl) (by rfl) (by exact Nat.le_of_ble_eq_true rfl) (by exact Nat.le_of_ble_eq_true rfl) (s_min (by omega) (by omega)) (fun v_31 h_31 q_31 => ?_) (fun _ _ q => q.elim)
    obtain ⟨rfl, z_31⟩ := q_31
    replace z_31 := z_31.symm
    subst z_31
    refine wp_iast d_86_34 (by first | assumption | (simp only [kd_setI]; assumption)) (by first | omega | (simp only [ln_setI]; omega)) (by first | omega | (simp only [ln_setI]; omega)) (by first | omega | (simp only [ln_setI]; omega)) ?_
    refine wp_aload_n d_86_35 (by rfl) ?_
    refine wp_getR (1) d_86_36 fl_9_16 rfl rfl (by first | assumption | (simp only [kd_setI]; assumption)) (by first | assumption | (simp only [hr_setI]; assumption)) ?_
    refine wp_iload_n d_86_39 (by rfl) ?_
    refine wp_aald d_86_40 (by first | omega | (simp only [kd_setI, kd_cpI]; omega)) (by first | omega | (simp only [kd_setI, kd_cpI]; omega)) (by apply isRf_of; assumption; rfl) (by first | omega | (simp only [ln_setI]; omega)) (by first | omega | (simp only [ln_setI]; omega)) (by first | assumption | (simp only [hr_setI]; assumption)) ?_
    refine wp_iload_n d_86_41 (by rfl) ?_
    refine wp_aload_n d_86_42 (by rfl) ?_
    refine wp_getR (1) d_86_43 fl_9_16 rfl rfl (by first | assumption | (simp only [kd_setI]; assumption)) (by first | assumption | (simp only [hr_setI]; assumption)) ?_
    refine wp_iload_n d_86_46 (by rfl) ?_
    refine wp_aald d_86_47 (by first | omega | (simp only [kd_setI, kd_cpI]; omega)) (by first | omega | (simp only [kd_setI, kd_cpI]; omega)) (by apply isRf_of; assumption; rfl) (by first | omega | (simp only [ln_setI]; omega)) (by first | omega | (simp only [ln_setI]; omega)) (by first | assumption | (simp only [hr_setI]; assumption)) ?_
    refine wp_iload_n d_86_48 (by rfl) ?_
    refine wp_iald d_86_49 (Or.inl (by first | assumption | (simp only [kd_setI]; assumption))) (by first | omega | (simp only [ln_setI]; omega)) (by first | omega | (simp only [ln_setI]; omega)) (fun x_49 e_49 r_49 => ?_)
    (try rw [E8 _ _ p1] at e_49)
    (try rw [E8 _ _ p2] at e_49)
    (try rw [E8 _ _ pf] at e_49)
    (try rw [hi_setI_ne (by omega), E8 _ _ p1] at e_49)
    (try rw [hi_setI_ne (by omega), E8 _ _ p2] at e_49)
    (try rw [hi_setI_ne (by omega), E8 _ _ pf] at e_49)
    (try rw [hi_setI_ne (by omega)] at e_49)
    refine wp_aload_n d_86_50 (by rfl) ?_
    refine wp_getR (2) d_86_51 fl_9_19 rfl rfl (by first | assumption | (simp only [kd_setI]; assumption)) (by first | assumption | (simp only [hr_setI]; assumption)) ?_
    refine wp_iload_n d_86_54 (by rfl) ?_
    refine wp_iald d_86_55 (Or.inl (by first | assumption | (simp only [kd_setI]; assumption))) (by first | omega | (simp only [ln_setI]; omega)) (by first | omega | (simp only [ln_setI]; omega)) (fun x_55 e_55 r_55 => ?_)
    (try rw [E8 _ _ p1] at e_55)
    (try rw [E8 _ _ p2] at e_55)
    (try rw [E8 _ _ pf] at e_55)
    (try rw [hi_setI_ne (by omega), E8 _ _ p1] at e_55)
    (try rw [hi_setI_ne (by omega), E8 _ _ p2] at e_55)
    (try rw [hi_setI_ne (by omega), E8 _ _ pf] at e_55)
    refine wp_aload_n d_86_56 (by rfl) ?_
    refine wp_getR (0) d_86_57 fl_9_102 rfl rfl (by first | assumption | (simp only [kd_setI]; assumption)) (by first | assumption | (simp only [hr_setI]; assumption)) ?_
    refine wp_iload_n d_86_60 (by rfl) ?_
    refine wp_iald d_86_61 (Or.inl (by first | assumption | (simp only [kd_setI]; assumption))) (by first | omega | (simp only [ln_setI]; omega)) (by first | omega | (simp only [ln_setI]; omega)) (fun x_61 e_61 r_61 => ?_)
    (try rw [E8 _ _ p1] at e_61)
    (try rw [E8 _ _ p2] at e_61)
    (try rw [E8 _ _ pf] at e_61)
    (try rw [hi_setI_ne (by omega), E8 _ _ p1] at e_61)
    (try rw [hi_setI_ne (by omega), E8 _ _ p2] at e_61)
    (try rw [hi_setI_ne (by omega), E8 _ _ pf] at e_61)
    refine wp_iadd d_86_62 ?_
    refine wp_callS d_86_63 c_86_96 rfl (by rfl) (by rfl) (by exact Nat.le_of_ble_eq_true rfl) (by exact Nat.le_of_ble_eq_true rfl) (s_min (by omega) (by omega)) (fun v_63 h_63 q_63 => ?_) (fun _ _ q => q.elim)
    obtain ⟨rfl, z_63⟩ := q_63
    replace z_63 := z_63.symm
    subst z_63
    refine wp_iast d_86_66 (by first | assumption | (simp only [kd_setI]; assumption)) (by first | omega | (simp only [ln_setI]; omega)) (by first | omega | (simp only [ln_setI]; omega)) (by first | omega | (simp only [ln_setI]; omega)) ?_
    refine wp_iinc d_86_67 (by rfl) (by decide) ?_
    refine wp_goto (tgt := 2) d_86_70 (by decide) ?_
    refine wp_to [some (vR (some (w + 12))), some (vR (some (w + 1))), some (vI (K : Int)), some (vI (j + 1))] ⟨rfl, rfl, rfl, rfl, trivial⟩ ?_
    refine ih (j + 1) _ (by omega) (by omega) (E.trans ((ch_setI (Or.inl rfl)).trans (ch_setI (Or.inr rfl)))) (fun s s0 s1 => ?_) kq
    have Is := I s s0 s1
    rw [hi_setI_ne (by omega), hi_upF, hi_upF, hi_setI_ne (by omega)]
    by_cases hsj : s = j
    · subst hsj
      rw [upF_same, upF_same, if_pos (by omega), if_pos (by omega)]
      exact ⟨by omega, by omega⟩
    · rw [upF_ne _ hsj, upF_ne _ hsj, Is.1, Is.2]
      by_cases hlt : s < j
      · rw [if_pos hlt, if_pos hlt, if_pos (by omega), if_pos (by omega)]
        exact ⟨rfl, rfl⟩
      · rw [if_neg hlt, if_neg hlt, if_neg (by omega), if_neg (by omega)]
        exact ⟨rfl, rfl⟩
set_option maxRecDepth 100000 in
set_option maxHeartbeats 4000000 in
theorem s_alight {w X K : Nat} {h0 : Hp} (hS0 : Sk h0 w) (hT0 : TT h0 w X) (hK : K < 7) (hf : Bd (hi h0 (w + 1) 4) (hi h0 (w + 29))) : wp 86 0 (entL [vR (some (w + 12)), vR (some (w + 1)), vI (K : Int)] (mL 86)) [] h0 (fun v h' => v = none ∧ ch (PW w K) nP h0 h' ∧ (∀ s, 0 ≤ s → s < 16 → hi h' (w + 14 + K) s = (if s < hi h0 (w + 1) 4 then min (hi h0 (w + 14 + K) s) (hi h0 (w + 29) s) else hi h0 (w + 14 + K) s) ∧ hi h' (w + 22 + K) s = (if s < hi h0 (w + 1) 4 then min (hi h0 (w + 22 + K) s) (hi h0 (w + 29) s + hi h0 (w + 2) s) else hi h0 (w + 22 + K) s))) noX := by
  refine wp_iconst d_86_0 ?_
  refine wp_istore_n d_86_1 (by decide) ?_
  refine wp_to [some (vR (some (w + 12))), some (vR (some (w + 1))), some (vI (K : Int)), some (vI 0)] ⟨rfl, rfl, rfl, rfl, trivial⟩ ?_
  have hn := hT0.1
  exact l_alight hS0 hT0 hK hf (hi h0 (w + 1) 4).toNat 0 h0 (by omega) (by omega) ch.rfl (fun s s0 s1 => ⟨(if_neg (by omega)).symm, (if_neg (by omega)).symm⟩) (fun h' E I => ⟨rfl, E, I⟩)
set_option maxRecDepth 100000 in
set_option maxHeartbeats 4000000 in
theorem s_begin {w : Nat} {o t : Int} {h : Hp} (hS0 : Sk h w) (hw : w + 154 ≤ nx h) (ho : 0 ≤ o ∧ o < 16) (ht : 0 ≤ t ∧ t ≤ 1000000) : wp 81 0 (entL [vR (some (w + 12)), vI o, vI t] (mL 81)) [] h (fun v h' => v = none ∧ ch (fun a => a = w + 14 ∨ a = w + 22 ∨ a = w + 29) nP h h' ∧ ∀ s, 0 ≤ s → s < 16 → hi h' (w + 29) s = (if s = o then t else 1000000000) ∧ hi h' (w + 14) s = (if s = o then t else 1000000000) ∧ hi h' (w + 22) s = (if s = o then t else 1000000000)) noX := by
  have hS := hS0
  obtain ⟨⟨k1, k2, k3, k4, k5, k6, k7⟩, ⟨n1, ⟨n2, n3, n4, n5⟩, ⟨n6, n7⟩, ⟨n8, n9⟩, ⟨n10, n11⟩, n12, n13⟩, ⟨m1, ⟨m2, m3, m4⟩, ⟨m5, m6⟩, ⟨m7, m8⟩, m9, m10⟩, ⟨o1, ⟨o2, o3, o4⟩, ⟨o5, o6, o7⟩, ⟨o8, o9, o10⟩, o11, o12⟩, ⟨b1, ⟨b2, b3⟩, ⟨b4, b5, b6⟩, b7, b8, b9⟩, ⟨j1, ⟨j2, j3, j4, j5, j6, j7, j8⟩, ⟨j9, j10⟩, j11⟩⟩ := hS
  obtain ⟨r1, r2, r3⟩ := o7 0 (by decide)
  obtain ⟨r4, r5, r6⟩ := o10 0 (by decide)
  rw [Nat.add_zero] at r1 r2 r3 r4 r5 r6
  have r1' : hr h (w + 13) 0 = some (w + 14) := r1
  have r4' : hr h (w + 21) 0 = some (w + 22) := r4
  refine wp_aload_n d_81_0 (by rfl) ?_
  refine wp_getR (0) d_81_1 fl_9_11 rfl rfl (by first | assumption | (simp only [kd_setI]; assumption) | (rw [E3.1, E2.1, E1.1]; assumption) | (rw [E2.1, E1.1]; assumption) | (rw [E1.1]; assumption) | (simp only [kd_setI]; rw [E3.1, E2.1, E1.1]; assumption)) (by first | assumption | (simp only [hr_setI]; assumption) | exact ((E3.2.2.2.2.2.2.2.2 _ _ id).trans ((E2.2.2.2.2.2.2.2.2 _ _ id).trans ((E1.2.2.2.2.2.2.2.2 _ _ id).trans (by assumption)))) | exact ((E2.2.2.2.2.2.2.2.2 _ _ id).trans ((E1.2.2.2.2.2.2.2.2 _ _ id).trans (by assumption))) | exact ((E1.2.2.2.2.2.2.2.2 _ _ id).trans (by assumption))) ?_
  refine wp_iconst d_81_4 ?_
  refine wp_aald d_81_5 (by first | omega | (simp only [kd_setI, kd_cpI]; omega)) (by first | omega | (simp only [kd_setI, kd_cpI]; omega)) (by apply isRf_of; assumption; rfl) (by first | omega | (simp only [ln_setI]; rw [E3.2.1, E2.2.1, E1.2.1]; omega) | (rw [E3.2.1, E2.2.1, E1.2.1]; omega) | (rw [E2.2.1, E1.2.1]; omega) | (rw [E1.2.1]; omega) | decide) (by first | omega | (simp only [ln_setI]; rw [E3.2.1, E2.2.1, E1.2.1]; omega) | (rw [E3.2.1, E2.2.1, E1.2.1]; omega) | (rw [E2.2.1, E1.2.1]; omega) | (rw [E1.2.1]; omega) | decide) (by first | assumption | (simp only [hr_setI]; assumption) | exact ((E3.2.2.2.2.2.2.2.2 _ _ id).trans ((E2.2.2.2.2.2.2.2.2 _ _ id).trans ((E1.2.2.2.2.2.2.2.2 _ _ id).trans (by assumption)))) | exact ((E2.2.2.2.2.2.2.2.2 _ _ id).trans ((E1.2.2.2.2.2.2.2.2 _ _ id).trans (by assumption))) | exact ((E1.2.2.2.2.2.2.2.2 _ _ id).trans (by assumption))) ?_
  refine wp_ldc (1000000000) d_81_6 ck_9_23 (by decide) ?_
  refine wp_callS d_81_8 c_81_59 rfl (by rfl) (by rfl) (by exact Nat.le_of_ble_eq_true rfl) (by exact Nat.le_of_ble_eq_true rfl) (s_fill (N := 16) (by decide) (by decide) (by assumption) (by assumption)) (fun v_8 h_8 q_8 => ?_) (fun _ _ q => q.elim)
  obtain ⟨rfl, E1, V1⟩ := q_8
  have G1 : Sk h_8 w := hS0.kept E1.fm PRok_nP hw
  have hS := G1
  obtain ⟨⟨k1, k2, k3, k4, k5, k6, k7⟩, ⟨n1, ⟨n2, n3, n4, n5⟩, ⟨n6, n7⟩, ⟨n8, n9⟩, ⟨n10, n11⟩, n12, n13⟩, ⟨m1, ⟨m2, m3, m4⟩, ⟨m5, m6⟩, ⟨m7, m8⟩, m9, m10⟩, ⟨o1, ⟨o2, o3, o4⟩, ⟨o5, o6, o7⟩, ⟨o8, o9, o10⟩, o11, o12⟩, ⟨b1, ⟨b2, b3⟩, ⟨b4, b5, b6⟩, b7, b8, b9⟩, ⟨j1, ⟨j2, j3, j4, j5, j6, j7, j8⟩, ⟨j9, j10⟩, j11⟩⟩ := hS
  obtain ⟨r1, r2, r3⟩ := o7 0 (by decide)
  obtain ⟨r4, r5, r6⟩ := o10 0 (by decide)
  rw [Nat.add_zero] at r1 r2 r3 r4 r5 r6
  have r1' : hr h_8 (w + 13) 0 = some (w + 14) := r1
  have r4' : hr h_8 (w + 21) 0 = some (w + 22) := r4
  refine wp_aload_n d_81_11 (by rfl) ?_
  refine wp_getR (1) d_81_12 fl_9_16 rfl rfl (by first | assumption | (simp only [kd_setI]; assumption) | (rw [E3.1, E2.1, E1.1]; assumption) | (rw [E2.1, E1.1]; assumption) | (rw [E1.1]; assumption) | (simp only [kd_setI]; rw [E3.1, E2.1, E1.1]; assumption)) (by first | assumption | (simp only [hr_setI]; assumption) | exact ((E3.2.2.2.2.2.2.2.2 _ _ id).trans ((E2.2.2.2.2.2.2.2.2 _ _ id).trans ((E1.2.2.2.2.2.2.2.2 _ _ id).trans (by assumption)))) | exact ((E2.2.2.2.2.2.2.2.2 _ _ id).trans ((E1.2.2.2.2.2.2.2.2 _ _ id).trans (by assumption))) | exact ((E1.2.2.2.2.2.2.2.2 _ _ id).trans (by assumption))) ?_
  refine wp_iconst d_81_15 ?_
  refine wp_aald d_81_16 (by first | omega | (simp only [kd_setI, kd_cpI]; omega)) (by first | omega | (simp only [kd_setI, kd_cpI]; omega)) (by apply isRf_of; assumption; rfl) (by first | omega | (simp only [ln_setI]; rw [E3.2.1, E2.2.1, E1.2.1]; omega) | (rw [E3.2.1, E2.2.1, E1.2.1]; omega) | (rw [E2.2.1, E1.2.1]; omega) | (rw [E1.2.1]; omega) | decide) (by first | omega | (simp only [ln_setI]; rw [E3.2.1, E2.2.1, E1.2.1]; omega) | (rw [E3.2.1, E2.2.1, E1.2.1]; omega) | (rw [E2.2.1, E1.2.1]; omega) | (rw [E1.2.1]; omega) | decide) (by first | assumption | (simp only [hr_setI]; assumption) | exact ((E3.2.2.2.2.2.2.2.2 _ _ id).trans ((E2.2.2.2.2.2.2.2.2 _ _ id).trans ((E1.2.2.2.2.2.2.2.2 _ _ id).trans (by assumption)))) | exact ((E2.2.2.2.2.2.2.2.2 _ _ id).trans ((E1.2.2.2.2.2.2.2.2 _ _ id).trans (by assumption))) | exact ((E1.2.2.2.2.2.2.2.2 _ _ id).trans (by assumption))) ?_
  refine wp_ldc (1000000000) d_81_17 ck_9_23 (by decide) ?_
  refine wp_callS d_81_19 c_81_59 rfl (by rfl) (by rfl) (by exact Nat.le_of_ble_eq_true rfl) (by exact Nat.le_of_ble_eq_true rfl) (s_fill (N := 16) (by decide) (by decide) (by assumption) (by assumption)) (fun v_19 h_19 q_19 => ?_) (fun _ _ q => q.elim)
  obtain ⟨rfl, E2, V2⟩ := q_19
  have G2 : Sk h_19 w := G1.kept E2.fm PRok_nP (by have := E1.2.2.2.1; omega)
  have hS := G2
  obtain ⟨⟨k1, k2, k3, k4, k5, k6, k7⟩, ⟨n1, ⟨n2, n3, n4, n5⟩, ⟨n6, n7⟩, ⟨n8, n9⟩, ⟨n10, n11⟩, n12, n13⟩, ⟨m1, ⟨m2, m3, m4⟩, ⟨m5, m6⟩, ⟨m7, m8⟩, m9, m10⟩, ⟨o1, ⟨o2, o3, o4⟩, ⟨o5, o6, o7⟩, ⟨o8, o9, o10⟩, o11, o12⟩, ⟨b1, ⟨b2, b3⟩, ⟨b4, b5, b6⟩, b7, b8, b9⟩, ⟨j1, ⟨j2, j3, j4, j5, j6, j7, j8⟩, ⟨j9, j10⟩, j11⟩⟩ := hS
  obtain ⟨r1, r2, r3⟩ := o7 0 (by decide)
  obtain ⟨r4, r5, r6⟩ := o10 0 (by decide)
  rw [Nat.add_zero] at r1 r2 r3 r4 r5 r6
  have r1' : hr h_19 (w + 13) 0 = some (w + 14) := r1
  have r4' : hr h_19 (w + 21) 0 = some (w + 22) := r4
  refine wp_aload_n d_81_22 (by rfl) ?_
  refine wp_getR (2) d_81_23 fl_9_19 rfl rfl (by first | assumption | (simp only [kd_setI]; assumption) | (rw [E3.1, E2.1, E1.1]; assumption) | (rw [E2.1, E1.1]; assumption) | (rw [E1.1]; assumption) | (simp only [kd_setI]; rw [E3.1, E2.1, E1.1]; assumption)) (by first | assumption | (simp only [hr_setI]; assumption) | exact ((E3.2.2.2.2.2.2.2.2 _ _ id).trans ((E2.2.2.2.2.2.2.2.2 _ _ id).trans ((E1.2.2.2.2.2.2.2.2 _ _ id).trans (by assumption)))) | exact ((E2.2.2.2.2.2.2.2.2 _ _ id).trans ((E1.2.2.2.2.2.2.2.2 _ _ id).trans (by assumption))) | exact ((E1.2.2.2.2.2.2.2.2 _ _ id).trans (by assumption))) ?_
  refine wp_ldc (1000000000) d_81_26 ck_9_23 (by decide) ?_
  refine wp_callS d_81_28 c_81_59 rfl (by rfl) (by rfl) (by exact Nat.le_of_ble_eq_true rfl) (by exact Nat.le_of_ble_eq_true rfl) (s_fill (N := 16) (by decide) (by decide) (by assumption) (by assumption)) (fun v_28 h_28 q_28 => ?_) (fun _ _ q => q.elim)
  obtain ⟨rfl, E3, V3⟩ := q_28
  have G3 : Sk h_28 w := G2.kept E3.fm PRok_nP (by have := E1.2.2.2.1; have := E2.2.2.2.1; omega)
  have hS := G3
  obtain ⟨⟨k1, k2, k3, k4, k5, k6, k7⟩, ⟨n1, ⟨n2, n3, n4, n5⟩, ⟨n6, n7⟩, ⟨n8, n9⟩, ⟨n10, n11⟩, n12, n13⟩, ⟨m1, ⟨m2, m3, m4⟩, ⟨m5, m6⟩, ⟨m7, m8⟩, m9, m10⟩, ⟨o1, ⟨o2, o3, o4⟩, ⟨o5, o6, o7⟩, ⟨o8, o9, o10⟩, o11, o12⟩, ⟨b1, ⟨b2, b3⟩, ⟨b4, b5, b6⟩, b7, b8, b9⟩, ⟨j1, ⟨j2, j3, j4, j5, j6, j7, j8⟩, ⟨j9, j10⟩, j11⟩⟩ := hS
  obtain ⟨r1, r2, r3⟩ := o7 0 (by decide)
  obtain ⟨r4, r5, r6⟩ := o10 0 (by decide)
  rw [Nat.add_zero] at r1 r2 r3 r4 r5 r6
  have r1' : hr h_28 (w + 13) 0 = some (w + 14) := r1
  have r4' : hr h_28 (w + 21) 0 = some (w + 22) := r4
  refine wp_aload_n d_81_31 (by rfl) ?_
  refine wp_getR (0) d_81_32 fl_9_11 rfl rfl (by first | assumption | (simp only [kd_setI]; assumption) | (rw [E3.1, E2.1, E1.1]; assumption) | (rw [E2.1, E1.1]; assumption) | (rw [E1.1]; assumption) | (simp only [kd_setI]; rw [E3.1, E2.1, E1.1]; assumption)) (by first | assumption | (simp only [hr_setI]; assumption) | exact ((E3.2.2.2.2.2.2.2.2 _ _ id).trans ((E2.2.2.2.2.2.2.2.2 _ _ id).trans ((E1.2.2.2.2.2.2.2.2 _ _ id).trans (by assumption)))) | exact ((E2.2.2.2.2.2.2.2.2 _ _ id).trans ((E1.2.2.2.2.2.2.2.2 _ _ id).trans (by assumption))) | exact ((E1.2.2.2.2.2.2.2.2 _ _ id).trans (by assumption))) ?_
  refine wp_iconst d_81_35 ?_
  refine wp_aald d_81_36 (by first | omega | (simp only [kd_setI, kd_cpI]; omega)) (by first | omega | (simp only [kd_setI, kd_cpI]; omega)) (by apply isRf_of; assumption; rfl) (by first | omega | (simp only [ln_setI]; rw [E3.2.1, E2.2.1, E1.2.1]; omega) | (rw [E3.2.1, E2.2.1, E1.2.1]; omega) | (rw [E2.2.1, E1.2.1]; omega) | (rw [E1.2.1]; omega) | decide) (by first | omega | (simp only [ln_setI]; rw [E3.2.1, E2.2.1, E1.2.1]; omega) | (rw [E3.2.1, E2.2.1, E1.2.1]; omega) | (rw [E2.2.1, E1.2.1]; omega) | (rw [E1.2.1]; omega) | decide) (by first | assumption | (simp only [hr_setI]; assumption) | exact ((E3.2.2.2.2.2.2.2.2 _ _ id).trans ((E2.2.2.2.2.2.2.2.2 _ _ id).trans ((E1.2.2.2.2.2.2.2.2 _ _ id).trans (by assumption)))) | exact ((E2.2.2.2.2.2.2.2.2 _ _ id).trans ((E1.2.2.2.2.2.2.2.2 _ _ id).trans (by assumption))) | exact ((E1.2.2.2.2.2.2.2.2 _ _ id).trans (by assumption))) ?_
  refine wp_iload_n d_81_37 (by rfl) ?_
  refine wp_iload_n d_81_38 (by rfl) ?_
  refine wp_iast d_81_39 (by first | assumption | (simp only [kd_setI]; assumption) | (rw [E3.1, E2.1, E1.1]; assumption) | (rw [E2.1, E1.1]; assumption) | (rw [E1.1]; assumption) | (simp only [kd_setI]; rw [E3.1, E2.1, E1.1]; assumption)) (by first | omega | (simp only [ln_setI]; rw [E3.2.1, E2.2.1, E1.2.1]; omega) | (rw [E3.2.1, E2.2.1, E1.2.1]; omega) | (rw [E2.2.1, E1.2.1]; omega) | (rw [E1.2.1]; omega) | decide) (by first | omega | (simp only [ln_setI]; rw [E3.2.1, E2.2.1, E1.2.1]; omega) | (rw [E3.2.1, E2.2.1, E1.2.1]; omega) | (rw [E2.2.1, E1.2.1]; omega) | (rw [E1.2.1]; omega) | decide) (by first | omega | (simp only [ln_setI]; rw [E3.2.1, E2.2.1, E1.2.1]; omega) | (rw [E3.2.1, E2.2.1, E1.2.1]; omega) | (rw [E2.2.1, E1.2.1]; omega) | (rw [E1.2.1]; omega) | decide) ?_
  refine wp_aload_n d_81_40 (by rfl) ?_
  refine wp_getR (1) d_81_41 fl_9_16 rfl rfl (by first | assumption | (simp only [kd_setI]; assumption) | (rw [E3.1, E2.1, E1.1]; assumption) | (rw [E2.1, E1.1]; assumption) | (rw [E1.1]; assumption) | (simp only [kd_setI]; rw [E3.1, E2.1, E1.1]; assumption)) (by first | assumption | (simp only [hr_setI]; assumption) | exact ((E3.2.2.2.2.2.2.2.2 _ _ id).trans ((E2.2.2.2.2.2.2.2.2 _ _ id).trans ((E1.2.2.2.2.2.2.2.2 _ _ id).trans (by assumption)))) | exact ((E2.2.2.2.2.2.2.2.2 _ _ id).trans ((E1.2.2.2.2.2.2.2.2 _ _ id).trans (by assumption))) | exact ((E1.2.2.2.2.2.2.2.2 _ _ id).trans (by assumption))) ?_
  refine wp_iconst d_81_44 ?_
  refine wp_aald d_81_45 (by first | omega | (simp only [kd_setI, kd_cpI]; omega)) (by first | omega | (simp only [kd_setI, kd_cpI]; omega)) (by apply isRf_of; assumption; rfl) (by first | omega | (simp only [ln_setI]; rw [E3.2.1, E2.2.1, E1.2.1]; omega) | (rw [E3.2.1, E2.2.1, E1.2.1]; omega) | (rw [E2.2.1, E1.2.1]; omega) | (rw [E1.2.1]; omega) | decide) (by first | omega | (simp only [ln_setI]; rw [E3.2.1, E2.2.1, E1.2.1]; omega) | (rw [E3.2.1, E2.2.1, E1.2.1]; omega) | (rw [E2.2.1, E1.2.1]; omega) | (rw [E1.2.1]; omega) | decide) (by first | assumption | (simp only [hr_setI]; assumption) | exact ((E3.2.2.2.2.2.2.2.2 _ _ id).trans ((E2.2.2.2.2.2.2.2.2 _ _ id).trans ((E1.2.2.2.2.2.2.2.2 _ _ id).trans (by assumption)))) | exact ((E2.2.2.2.2.2.2.2.2 _ _ id).trans ((E1.2.2.2.2.2.2.2.2 _ _ id).trans (by assumption))) | exact ((E1.2.2.2.2.2.2.2.2 _ _ id).trans (by assumption))) ?_
  refine wp_iload_n d_81_46 (by rfl) ?_
  refine wp_iload_n d_81_47 (by rfl) ?_
  refine wp_iast d_81_48 (by first | assumption | (simp only [kd_setI]; assumption) | (rw [E3.1, E2.1, E1.1]; assumption) | (rw [E2.1, E1.1]; assumption) | (rw [E1.1]; assumption) | (simp only [kd_setI]; rw [E3.1, E2.1, E1.1]; assumption)) (by first | omega | (simp only [ln_setI]; rw [E3.2.1, E2.2.1, E1.2.1]; omega) | (rw [E3.2.1, E2.2.1, E1.2.1]; omega) | (rw [E2.2.1, E1.2.1]; omega) | (rw [E1.2.1]; omega) | decide) (by first | omega | (simp only [ln_setI]; rw [E3.2.1, E2.2.1, E1.2.1]; omega) | (rw [E3.2.1, E2.2.1, E1.2.1]; omega) | (rw [E2.2.1, E1.2.1]; omega) | (rw [E1.2.1]; omega) | decide) (by first | omega | (simp only [ln_setI]; rw [E3.2.1, E2.2.1, E1.2.1]; omega) | (rw [E3.2.1, E2.2.1, E1.2.1]; omega) | (rw [E2.2.1, E1.2.1]; omega) | (rw [E1.2.1]; omega) | decide) ?_
  refine wp_aload_n d_81_49 (by rfl) ?_
  refine wp_getR (2) d_81_50 fl_9_19 rfl rfl (by first | assumption | (simp only [kd_setI]; assumption) | (rw [E3.1, E2.1, E1.1]; assumption) | (rw [E2.1, E1.1]; assumption) | (rw [E1.1]; assumption) | (simp only [kd_setI]; rw [E3.1, E2.1, E1.1]; assumption)) (by first | assumption | (simp only [hr_setI]; assumption) | exact ((E3.2.2.2.2.2.2.2.2 _ _ id).trans ((E2.2.2.2.2.2.2.2.2 _ _ id).trans ((E1.2.2.2.2.2.2.2.2 _ _ id).trans (by assumption)))) | exact ((E2.2.2.2.2.2.2.2.2 _ _ id).trans ((E1.2.2.2.2.2.2.2.2 _ _ id).trans (by assumption))) | exact ((E1.2.2.2.2.2.2.2.2 _ _ id).trans (by assumption))) ?_
  refine wp_iload_n d_81_53 (by rfl) ?_
  refine wp_iload_n d_81_54 (by rfl) ?_
  refine wp_iast d_81_55 (by first | assumption | (simp only [kd_setI]; assumption) | (rw [E3.1, E2.1, E1.1]; assumption) | (rw [E2.1, E1.1]; assumption) | (rw [E1.1]; assumption) | (simp only [kd_setI]; rw [E3.1, E2.1, E1.1]; assumption)) (by first | omega | (simp only [ln_setI]; rw [E3.2.1, E2.2.1, E1.2.1]; omega) | (rw [E3.2.1, E2.2.1, E1.2.1]; omega) | (rw [E2.2.1, E1.2.1]; omega) | (rw [E1.2.1]; omega) | decide) (by first | omega | (simp only [ln_setI]; rw [E3.2.1, E2.2.1, E1.2.1]; omega) | (rw [E3.2.1, E2.2.1, E1.2.1]; omega) | (rw [E2.2.1, E1.2.1]; omega) | (rw [E1.2.1]; omega) | decide) (by first | omega | (simp only [ln_setI]; rw [E3.2.1, E2.2.1, E1.2.1]; omega) | (rw [E3.2.1, E2.2.1, E1.2.1]; omega) | (rw [E2.2.1, E1.2.1]; omega) | (rw [E1.2.1]; omega) | decide) ?_
  refine wp_vret d_81_56 rfl ?_
  refine ⟨rfl, ?_, fun s s0 s1 => ?_⟩
  · exact (E1.mono (fun x z => Or.inl z) (fun x z => z)).trans ((E2.mono (fun x z => Or.inr (Or.inl z)) (fun x z => z)).trans ((E3.mono (fun x z => Or.inr (Or.inr z)) (fun x z => z)).trans ((ch_setI (Or.inl rfl)).trans ((ch_setI (Or.inr (Or.inl rfl))).trans (ch_setI (Or.inr (Or.inr rfl)))))))
  · have a1 := V1 s s0 s1
    have a2 := V2 s s0 s1
    have a3 := V3 s s0 s1
    have b1 := E2.2.2.2.2.2.2.2.1 (w + 14) s (by omega)
    have b2 := E3.2.2.2.2.2.2.2.1 (w + 14) s (by omega)
    have b3 := E3.2.2.2.2.2.2.2.1 (w + 22) s (by omega)
    rw [hi_upF, hi_setI_ne (by omega), hi_setI_ne (by omega), hi_setI_ne (by omega), hi_setI_ne (by omega), hi_upF, hi_setI_ne (by omega), hi_upF, hi_setI_ne (by omega)]
    unfold upF
    by_cases hs : s = o
    · rw [if_pos hs, if_pos hs, if_pos hs, if_pos hs]
      exact ⟨rfl, rfl, rfl⟩
    · rw [if_neg hs, if_neg hs, if_neg hs, if_neg hs]
      exact ⟨by omega, by omega, by omega⟩
