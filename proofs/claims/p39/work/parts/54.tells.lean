/-! ===== what the kept journey tells ===== -/
section LEG
variable {h : Hp} {w X : Nat} {o d T D : Int} {K n : Nat}
theorem spJ_succ {k : Int} (h0 : 0 ≤ k) : spJ h w (k + 1) = hi h (w + 151) k := by
  unfold spJ
  rw [if_neg (by omega), show k + 1 - 1 = k by omega]
theorem tmJ_succ {k : Int} (h0 : 0 ≤ k) : tmJ h w (k + 1) = hi h (w + 153) k := by
  unfold tmJ
  rw [if_neg (by omega), show k + 1 - 1 = k by omega]
/-- a leg: it begins no earlier than one is there, and takes no less than nothing -/
theorem LegOk.step (hT : TT h w X) {k : Int} (h0 : 0 ≤ k) (q : LegOk h w k) : tmJ h w k ≤ hi h (w + 152) k ∧ hi h (w + 152) k ≤ hi h (w + 153) k ∧ (hr h (w + 147) k = none → hi h (w + 152) k = tmJ h w k) := by
  have hc := hT.2.2.2.1 (spJ h w k)
  rcases q with ⟨t, a, z1, z2, z3, z4, z5, z6, z7, z8, z9, z10⟩ | ⟨z1, z2, z3, z4⟩
  · obtain ⟨a', c, y1, y2, y3, ⟨t1, t2, t3, t4, t5, t6, t7, t8⟩, -⟩ := hT.2.2.2.2.2.1 t z2.1 z2.2
    cases z3.symm.trans y1
    have := t6 _ _ z5.1 z5.2.1 z5.2.2
    refine ⟨?_, by omega, fun y => by rw [z1] at y; cases y⟩
    unfold snJ at z7
    split at z7 <;> omega
  · have b := hT.net.2.1 _ _ _ z2
    exact ⟨by omega, by omega, fun _ => z3⟩
theorem Kp.up (hT : TT h w X) (q : Kp h w o d T D K n) : ∀ k : Nat, k ≤ n → T ≤ tmJ h w k
  | 0, _ => by
    unfold tmJ
    rw [if_pos (by omega), q.2.2.2.2.2.2.1.2.2]
    exact Int.le_refl _
  | k + 1, hk => by
    have := Kp.up hT q k (by omega)
    have := (q.2.2.2.1 (k : Int) (by omega) (by omega)).step hT (by omega)
    rw [show ((k + 1 : Nat) : Int) = (k : Int) + 1 from rfl, tmJ_succ (by omega)]
    omega
theorem Kp.down (hT : TT h w X) (q : Kp h w o d T D K n) : ∀ m k : Nat, k + m = n → tmJ h w k ≤ D
  | 0, k, hk => by
    rw [show k = n by omega, q.2.2.2.2.2.2.2.2.1]
    exact Int.le_refl _
  | m + 1, k, hk => by
    have := Kp.down hT q m (k + 1) (by omega)
    have := (q.2.2.2.1 (k : Int) (by omega) (by omega)).step hT (by omega)
    rw [show ((k + 1 : Nat) : Int) = (k : Int) + 1 from rfl, tmJ_succ (by omega)] at *
    omega
theorem Kp.tm (hT : TT h w X) (q : Kp h w o d T D K n) {k : Int} (h0 : 0 ≤ k) (h1 : k ≤ n) : T ≤ tmJ h w k ∧ tmJ h w k ≤ D := by
  have e : k = ((k.toNat : Nat) : Int) := by omega
  rw [e]
  exact ⟨Kp.up hT q _ (by omega), Kp.down hT q (n - k.toNat) _ (by omega)⟩
/-- a leg's kind: the trip's cell -/
theorem LegOk.kind (hT : TT h w X) {k : Int} (q : LegOk h w k) {a : Nat} (ha : hr h (w + 147) k = some a) : kd h a = 12 ∧ 0 ≤ hi h a 0 := by
  rcases q with ⟨t, a1, z1, z2, z3, -⟩ | ⟨z1, -⟩
  · cases ha.symm.trans z1
    obtain ⟨a', c, y1, y2, y3, g, e, -⟩ := hT.2.2.2.2.2.1 t z2.1 z2.2
    cases z3.symm.trans y1
    exact ⟨g.1, by omega⟩
  · rw [ha] at z1
    cases z1
end LEG
set_option maxRecDepth 100000 in
set_option maxHeartbeats 4000000 in
theorem s_needLeg {w : Nat} {k : Int} {h : Hp} (hS : Sk h w) (hk : hi h (w + 146) 0 = 1) (hz : szJ h w ≤ 13) (h0 : 0 ≤ k ∧ k < szJ h w) : wp 16 0 (entL [vR (some w), vI k] (mL 16)) [] h (fun v h' => v = none ∧ h' = h) noX := by
  have hS9 := hS
  obtain ⟨⟨k1, k2, k3, k4, k5, k6, k7⟩, ⟨n1, ⟨n2, n3, n4, n5⟩, ⟨n6, n7⟩, ⟨n8, n9⟩, ⟨n10, n11⟩, n12, n13⟩, ⟨m1, ⟨m2, m3, m4⟩, ⟨m5, m6⟩, ⟨m7, m8⟩, m9, m10⟩, ⟨o1, ⟨o2, o3, o4⟩, ⟨o5, o6, o7⟩, ⟨o8, o9, o10⟩, o11, o12⟩, ⟨b1, ⟨b2, b3⟩, ⟨b4, b5, b6⟩, b7, b8, b9⟩, ⟨j1, ⟨j2, j3, j4, j5, j6, j7, j8⟩, ⟨j9, j10⟩, j11⟩⟩ := hS
  obtain ⟨x1, x2⟩ := j11 0 (by decide)
  obtain ⟨y1, y2⟩ := j11 1 (by decide)
  obtain ⟨z1, z2⟩ := j11 2 (by decide)
  obtain ⟨p1, p2⟩ := j11 3 (by decide)
  obtain ⟨q1, q2⟩ := j11 4 (by decide)
  obtain ⟨s1, s2⟩ := j11 5 (by decide)
  rw [Nat.add_zero] at x1 x2
  have y1 : kd h (w + 149) = 100 := y1
  have y2 : ln h (w + 149) = 13 := y2
  have z1 : kd h (w + 150) = 100 := z1
  have z2 : ln h (w + 150) = 13 := z2
  have p1 : kd h (w + 151) = 100 := p1
  have p2 : ln h (w + 151) = 13 := p2
  have q1 : kd h (w + 152) = 100 := q1
  have q2 : ln h (w + 152) = 13 := q2
  have s1 : kd h (w + 153) = 100 := s1
  have s2 : ln h (w + 153) = 13 := s2
  have sz0 : szJ h w = hi h (w + 146) 4 := rfl
  refine wp_aload_n d_16_0 (by rfl) ?_
  refine wp_getR (6) d_16_1 fl_0_54 rfl rfl (by assumption) (by assumption) ?_
  refine wp_getI (0) d_16_4 fl_0_219 rfl rfl (by assumption) (fun x_4 e_4 r_4 => ?_)
  subst e_4
  refine wp_callS d_16_7 c_16_70 rfl (by rfl) (by rfl) (by exact Nat.le_of_ble_eq_true rfl) (by exact Nat.le_of_ble_eq_true rfl) (s_needState hk) (fun v_7 h_7 q_7 => ?_) (fun _ _ q => q.elim)
  obtain ⟨rfl, z_7⟩ := q_7
  replace z_7 := z_7.symm
  subst z_7
  refine wp_iload_n d_16_10 (by rfl) ?_
  refine wp_aload_n d_16_11 (by rfl) ?_
  refine wp_getR (6) d_16_12 fl_0_54 rfl rfl (by assumption) (by assumption) ?_
  refine wp_getI (4) d_16_15 fl_0_223 rfl rfl (by assumption) (fun x_15 e_15 r_15 => ?_)
  subst e_15
  refine wp_callS d_16_18 c_16_107 rfl (by rfl) (by rfl) (by exact Nat.le_of_ble_eq_true rfl) (by exact Nat.le_of_ble_eq_true rfl) (s_needIndex h0.1 (by omega) (by omega)) (fun v_18 h_18 q_18 => ?_) (fun _ _ q => q.elim)
  obtain ⟨rfl, z_18⟩ := q_18
  replace z_18 := z_18.symm
  subst z_18
  refine wp_vret d_16_21 rfl ?_
  exact ⟨rfl, rfl⟩
set_option maxRecDepth 100000 in
set_option maxHeartbeats 4000000 in
theorem s_tripOf {w : Nat} {k : Int} {h : Hp} (hS : Sk h w) (h0 : 0 ≤ k ∧ k < 13) (ht : ∀ a, hr h (w + 147) k = some a → kd h a = 12) : wp 69 0 (entL [vR (some (w + 146)), vI k] (mL 69)) [] h (fun v h' => ∃ z, v = some (vI z) ∧ h' = h ∧ ((hr h (w + 147) k = none ∧ z = -1) ∨ ∃ a, hr h (w + 147) k = some a ∧ z = hi h a 0)) noX := by
  have hS9 := hS
  obtain ⟨⟨k1, k2, k3, k4, k5, k6, k7⟩, ⟨n1, ⟨n2, n3, n4, n5⟩, ⟨n6, n7⟩, ⟨n8, n9⟩, ⟨n10, n11⟩, n12, n13⟩, ⟨m1, ⟨m2, m3, m4⟩, ⟨m5, m6⟩, ⟨m7, m8⟩, m9, m10⟩, ⟨o1, ⟨o2, o3, o4⟩, ⟨o5, o6, o7⟩, ⟨o8, o9, o10⟩, o11, o12⟩, ⟨b1, ⟨b2, b3⟩, ⟨b4, b5, b6⟩, b7, b8, b9⟩, ⟨j1, ⟨j2, j3, j4, j5, j6, j7, j8⟩, ⟨j9, j10⟩, j11⟩⟩ := hS
  obtain ⟨x1, x2⟩ := j11 0 (by decide)
  obtain ⟨y1, y2⟩ := j11 1 (by decide)
  obtain ⟨z1, z2⟩ := j11 2 (by decide)
  obtain ⟨p1, p2⟩ := j11 3 (by decide)
  obtain ⟨q1, q2⟩ := j11 4 (by decide)
  obtain ⟨s1, s2⟩ := j11 5 (by decide)
  rw [Nat.add_zero] at x1 x2
  have y1 : kd h (w + 149) = 100 := y1
  have y2 : ln h (w + 149) = 13 := y2
  have z1 : kd h (w + 150) = 100 := z1
  have z2 : ln h (w + 150) = 13 := z2
  have p1 : kd h (w + 151) = 100 := p1
  have p2 : ln h (w + 151) = 13 := p2
  have q1 : kd h (w + 152) = 100 := q1
  have q2 : ln h (w + 152) = 13 := q2
  have s1 : kd h (w + 153) = 100 := s1
  have s2 : ln h (w + 153) = 13 := s2
  have sz0 : szJ h w = hi h (w + 146) 4 := rfl
  refine wp_aload_n d_69_0 (by rfl) ?_
  refine wp_getR (5) d_69_1 fl_6_11 rfl rfl (by assumption) (by first | assumption | rfl) ?_
  refine wp_iload_n d_69_4 (by rfl) ?_
  refine wp_aald d_69_5 (by first | omega | (simp only [kd_setI, kd_cpI]; omega)) (by first | omega | (simp only [kd_setI, kd_cpI]; omega)) (by apply isRf_of; assumption; rfl) (by omega) (by omega) (by first | assumption | rfl) ?_
  refine wp_astore_n d_69_6 (by decide) ?_
  refine wp_aload_n d_69_7 (by rfl) ?_
  refine wp_ifnonnull (tgt := 15) d_69_8 (by decide) (fun a_8 c_8 => ?_) (fun c_8 => ?_)
  · have c_9 := ht a_8 c_8
    have c_10 := c_8
    rw [c_8]
    refine wp_aload_n d_69_15 (by rfl) ?_
    refine wp_getI (0) d_69_16 fl_6_148 rfl rfl (by assumption) (fun x_16 e_16 r_16 => ?_)
    subst e_16
    refine wp_iret d_69_19 rfl ?_
    first
      | exact ⟨_, rfl, rfl, Or.inl ⟨c_8, rfl⟩⟩
      | exact ⟨_, rfl, rfl, Or.inr ⟨a_8, rfl, rfl⟩⟩
  · refine wp_iconst d_69_11 ?_
    refine wp_goto (tgt := 19) d_69_12 (by decide) ?_
    refine wp_iret d_69_19 rfl ?_
    first
      | exact ⟨_, rfl, rfl, Or.inl ⟨c_8, rfl⟩⟩
      | exact ⟨_, rfl, rfl, Or.inr ⟨a_8, rfl, rfl⟩⟩
set_option maxRecDepth 100000 in
set_option maxHeartbeats 4000000 in
theorem s_legTrip {w : Nat} {k : Int} {h : Hp} (hS : Sk h w) (hk : hi h (w + 146) 0 = 1) (hz : szJ h w ≤ 13) (h0 : 0 ≤ k ∧ k < szJ h w) (ht : ∀ a, hr h (w + 147) k = some a → kd h a = 12) : wp 15 0 (entL [vR (some w), vI k] (mL 15)) [] h (fun v h' => ∃ z, v = some (vI z) ∧ h' = h ∧ ((hr h (w + 147) k = none ∧ z = -1) ∨ ∃ a, hr h (w + 147) k = some a ∧ z = hi h a 0)) noX := by
  have hS9 := hS
  obtain ⟨⟨k1, k2, k3, k4, k5, k6, k7⟩, ⟨n1, ⟨n2, n3, n4, n5⟩, ⟨n6, n7⟩, ⟨n8, n9⟩, ⟨n10, n11⟩, n12, n13⟩, ⟨m1, ⟨m2, m3, m4⟩, ⟨m5, m6⟩, ⟨m7, m8⟩, m9, m10⟩, ⟨o1, ⟨o2, o3, o4⟩, ⟨o5, o6, o7⟩, ⟨o8, o9, o10⟩, o11, o12⟩, ⟨b1, ⟨b2, b3⟩, ⟨b4, b5, b6⟩, b7, b8, b9⟩, ⟨j1, ⟨j2, j3, j4, j5, j6, j7, j8⟩, ⟨j9, j10⟩, j11⟩⟩ := hS
  obtain ⟨x1, x2⟩ := j11 0 (by decide)
  obtain ⟨y1, y2⟩ := j11 1 (by decide)
  obtain ⟨z1, z2⟩ := j11 2 (by decide)
  obtain ⟨p1, p2⟩ := j11 3 (by decide)
  obtain ⟨q1, q2⟩ := j11 4 (by decide)
  obtain ⟨s1, s2⟩ := j11 5 (by decide)
  rw [Nat.add_zero] at x1 x2
  have y1 : kd h (w + 149) = 100 := y1
  have y2 : ln h (w + 149) = 13 := y2
  have z1 : kd h (w + 150) = 100 := z1
  have z2 : ln h (w + 150) = 13 := z2
  have p1 : kd h (w + 151) = 100 := p1
  have p2 : ln h (w + 151) = 13 := p2
  have q1 : kd h (w + 152) = 100 := q1
  have q2 : ln h (w + 152) = 13 := q2
  have s1 : kd h (w + 153) = 100 := s1
  have s2 : ln h (w + 153) = 13 := s2
  have sz0 : szJ h w = hi h (w + 146) 4 := rfl
  refine wp_aload_n d_15_0 (by rfl) ?_
  refine wp_iload_n d_15_1 (by rfl) ?_
  refine wp_callV d_15_2 c_15_224 rfl (by rfl) (by rfl) ⟨0, rfl, rfl, by decide⟩ (by assumption) (by exact Nat.le_of_ble_eq_true rfl) (by exact Nat.le_of_ble_eq_true rfl) (s_needLeg hS9 hk hz h0) (fun v_2 h_2 q_2 => ?_) (fun _ _ q => q.elim)
  obtain ⟨rfl, z_2⟩ := q_2
  replace z_2 := z_2.symm
  subst z_2
  refine wp_aload_n d_15_5 (by rfl) ?_
  refine wp_getR (6) d_15_6 fl_0_54 rfl rfl (by assumption) (by assumption) ?_
  refine wp_iload_n d_15_9 (by rfl) ?_
  refine wp_callV d_15_10 c_15_227 rfl (by rfl) (by rfl) ⟨6, rfl, rfl, by decide⟩ (by assumption) (by exact Nat.le_of_ble_eq_true rfl) (by exact Nat.le_of_ble_eq_true rfl) (s_tripOf hS9 ⟨h0.1, by omega⟩ ht) (fun v_10 h_10 q_10 => ?_) (fun _ _ q => q.elim)
  obtain ⟨z_10, rfl, y_10, u_10⟩ := q_10
  replace y_10 := y_10.symm
  subst y_10
  refine wp_iret d_15_13 rfl ?_
  exact ⟨_, rfl, rfl, u_10⟩
set_option maxRecDepth 100000 in
set_option maxHeartbeats 4000000 in
theorem s_legTo {w : Nat} {k : Int} {h : Hp} (hS : Sk h w) (hk : hi h (w + 146) 0 = 1) (hz : szJ h w ≤ 13) (h0 : 0 ≤ k ∧ k < szJ h w) : wp 18 0 (entL [vR (some w), vI k] (mL 18)) [] h (fun v h' => v = some (vI (hi h (w + 151) k)) ∧ h' = h) noX := by
  have hS9 := hS
  obtain ⟨⟨k1, k2, k3, k4, k5, k6, k7⟩, ⟨n1, ⟨n2, n3, n4, n5⟩, ⟨n6, n7⟩, ⟨n8, n9⟩, ⟨n10, n11⟩, n12, n13⟩, ⟨m1, ⟨m2, m3, m4⟩, ⟨m5, m6⟩, ⟨m7, m8⟩, m9, m10⟩, ⟨o1, ⟨o2, o3, o4⟩, ⟨o5, o6, o7⟩, ⟨o8, o9, o10⟩, o11, o12⟩, ⟨b1, ⟨b2, b3⟩, ⟨b4, b5, b6⟩, b7, b8, b9⟩, ⟨j1, ⟨j2, j3, j4, j5, j6, j7, j8⟩, ⟨j9, j10⟩, j11⟩⟩ := hS
  obtain ⟨x1, x2⟩ := j11 0 (by decide)
  obtain ⟨y1, y2⟩ := j11 1 (by decide)
  obtain ⟨z1, z2⟩ := j11 2 (by decide)
  obtain ⟨p1, p2⟩ := j11 3 (by decide)
  obtain ⟨q1, q2⟩ := j11 4 (by decide)
  obtain ⟨s1, s2⟩ := j11 5 (by decide)
  rw [Nat.add_zero] at x1 x2
  have y1 : kd h (w + 149) = 100 := y1
  have y2 : ln h (w + 149) = 13 := y2
  have z1 : kd h (w + 150) = 100 := z1
  have z2 : ln h (w + 150) = 13 := z2
  have p1 : kd h (w + 151) = 100 := p1
  have p2 : ln h (w + 151) = 13 := p2
  have q1 : kd h (w + 152) = 100 := q1
  have q2 : ln h (w + 152) = 13 := q2
  have s1 : kd h (w + 153) = 100 := s1
  have s2 : ln h (w + 153) = 13 := s2
  have sz0 : szJ h w = hi h (w + 146) 4 := rfl
  refine wp_aload_n d_18_0 (by rfl) ?_
  refine wp_iload_n d_18_1 (by rfl) ?_
  refine wp_callV d_18_2 c_18_224 rfl (by rfl) (by rfl) ⟨0, rfl, rfl, by decide⟩ (by assumption) (by exact Nat.le_of_ble_eq_true rfl) (by exact Nat.le_of_ble_eq_true rfl) (s_needLeg hS9 hk hz h0) (fun v_2 h_2 q_2 => ?_) (fun _ _ q => q.elim)
  obtain ⟨rfl, z_2⟩ := q_2
  replace z_2 := z_2.symm
  subst z_2
  refine wp_aload_n d_18_5 (by rfl) ?_
  refine wp_getR (6) d_18_6 fl_0_54 rfl rfl (by assumption) (by assumption) ?_
  refine wp_getR (9) d_18_9 fl_0_228 rfl rfl (by assumption) (by assumption) ?_
  refine wp_iload_n d_18_12 (by rfl) ?_
  refine wp_iald d_18_13 (Or.inl (by assumption)) (by omega) (by omega) (fun x_13 e_13 r_13 => ?_)
  subst e_13
  refine wp_iret d_18_14 rfl ?_
  exact ⟨rfl, rfl⟩
set_option maxRecDepth 100000 in
set_option maxHeartbeats 4000000 in
theorem s_legBegin {w : Nat} {k : Int} {h : Hp} (hS : Sk h w) (hk : hi h (w + 146) 0 = 1) (hz : szJ h w ≤ 13) (h0 : 0 ≤ k ∧ k < szJ h w) : wp 19 0 (entL [vR (some w), vI k] (mL 19)) [] h (fun v h' => v = some (vI (hi h (w + 152) k)) ∧ h' = h) noX := by
  have hS9 := hS
  obtain ⟨⟨k1, k2, k3, k4, k5, k6, k7⟩, ⟨n1, ⟨n2, n3, n4, n5⟩, ⟨n6, n7⟩, ⟨n8, n9⟩, ⟨n10, n11⟩, n12, n13⟩, ⟨m1, ⟨m2, m3, m4⟩, ⟨m5, m6⟩, ⟨m7, m8⟩, m9, m10⟩, ⟨o1, ⟨o2, o3, o4⟩, ⟨o5, o6, o7⟩, ⟨o8, o9, o10⟩, o11, o12⟩, ⟨b1, ⟨b2, b3⟩, ⟨b4, b5, b6⟩, b7, b8, b9⟩, ⟨j1, ⟨j2, j3, j4, j5, j6, j7, j8⟩, ⟨j9, j10⟩, j11⟩⟩ := hS
  obtain ⟨x1, x2⟩ := j11 0 (by decide)
  obtain ⟨y1, y2⟩ := j11 1 (by decide)
  obtain ⟨z1, z2⟩ := j11 2 (by decide)
  obtain ⟨p1, p2⟩ := j11 3 (by decide)
  obtain ⟨q1, q2⟩ := j11 4 (by decide)
  obtain ⟨s1, s2⟩ := j11 5 (by decide)
  rw [Nat.add_zero] at x1 x2
  have y1 : kd h (w + 149) = 100 := y1
  have y2 : ln h (w + 149) = 13 := y2
  have z1 : kd h (w + 150) = 100 := z1
  have z2 : ln h (w + 150) = 13 := z2
  have p1 : kd h (w + 151) = 100 := p1
  have p2 : ln h (w + 151) = 13 := p2
  have q1 : kd h (w + 152) = 100 := q1
  have q2 : ln h (w + 152) = 13 := q2
  have s1 : kd h (w + 153) = 100 := s1
  have s2 : ln h (w + 153) = 13 := s2
  have sz0 : szJ h w = hi h (w + 146) 4 := rfl
  refine wp_aload_n d_19_0 (by rfl) ?_
  refine wp_iload_n d_19_1 (by rfl) ?_
  refine wp_callV d_19_2 c_19_224 rfl (by rfl) (by rfl) ⟨0, rfl, rfl, by decide⟩ (by assumption) (by exact Nat.le_of_ble_eq_true rfl) (by exact Nat.le_of_ble_eq_true rfl) (s_needLeg hS9 hk hz h0) (fun v_2 h_2 q_2 => ?_) (fun _ _ q => q.elim)
  obtain ⟨rfl, z_2⟩ := q_2
  replace z_2 := z_2.symm
  subst z_2
  refine wp_aload_n d_19_5 (by rfl) ?_
  refine wp_getR (6) d_19_6 fl_0_54 rfl rfl (by assumption) (by assumption) ?_
  refine wp_getR (10) d_19_9 fl_0_231 rfl rfl (by assumption) (by assumption) ?_
  refine wp_iload_n d_19_12 (by rfl) ?_
  refine wp_iald d_19_13 (Or.inl (by assumption)) (by omega) (by omega) (fun x_13 e_13 r_13 => ?_)
  subst e_13
  refine wp_iret d_19_14 rfl ?_
  exact ⟨rfl, rfl⟩
set_option maxRecDepth 100000 in
set_option maxHeartbeats 4000000 in
theorem s_legEnd {w : Nat} {k : Int} {h : Hp} (hS : Sk h w) (hk : hi h (w + 146) 0 = 1) (hz : szJ h w ≤ 13) (h0 : 0 ≤ k ∧ k < szJ h w) : wp 20 0 (entL [vR (some w), vI k] (mL 20)) [] h (fun v h' => v = some (vI (hi h (w + 153) k)) ∧ h' = h) noX := by
  have hS9 := hS
  obtain ⟨⟨k1, k2, k3, k4, k5, k6, k7⟩, ⟨n1, ⟨n2, n3, n4, n5⟩, ⟨n6, n7⟩, ⟨n8, n9⟩, ⟨n10, n11⟩, n12, n13⟩, ⟨m1, ⟨m2, m3, m4⟩, ⟨m5, m6⟩, ⟨m7, m8⟩, m9, m10⟩, ⟨o1, ⟨o2, o3, o4⟩, ⟨o5, o6, o7⟩, ⟨o8, o9, o10⟩, o11, o12⟩, ⟨b1, ⟨b2, b3⟩, ⟨b4, b5, b6⟩, b7, b8, b9⟩, ⟨j1, ⟨j2, j3, j4, j5, j6, j7, j8⟩, ⟨j9, j10⟩, j11⟩⟩ := hS
  obtain ⟨x1, x2⟩ := j11 0 (by decide)
  obtain ⟨y1, y2⟩ := j11 1 (by decide)
  obtain ⟨z1, z2⟩ := j11 2 (by decide)
  obtain ⟨p1, p2⟩ := j11 3 (by decide)
  obtain ⟨q1, q2⟩ := j11 4 (by decide)
  obtain ⟨s1, s2⟩ := j11 5 (by decide)
  rw [Nat.add_zero] at x1 x2
  have y1 : kd h (w + 149) = 100 := y1
  have y2 : ln h (w + 149) = 13 := y2
  have z1 : kd h (w + 150) = 100 := z1
  have z2 : ln h (w + 150) = 13 := z2
  have p1 : kd h (w + 151) = 100 := p1
  have p2 : ln h (w + 151) = 13 := p2
  have q1 : kd h (w + 152) = 100 := q1
  have q2 : ln h (w + 152) = 13 := q2
  have s1 : kd h (w + 153) = 100 := s1
  have s2 : ln h (w + 153) = 13 := s2
  have sz0 : szJ h w = hi h (w + 146) 4 := rfl
  refine wp_aload_n d_20_0 (by rfl) ?_
  refine wp_iload_n d_20_1 (by rfl) ?_
  refine wp_callV d_20_2 c_20_224 rfl (by rfl) (by rfl) ⟨0, rfl, rfl, by decide⟩ (by assumption) (by exact Nat.le_of_ble_eq_true rfl) (by exact Nat.le_of_ble_eq_true rfl) (s_needLeg hS9 hk hz h0) (fun v_2 h_2 q_2 => ?_) (fun _ _ q => q.elim)
  obtain ⟨rfl, z_2⟩ := q_2
  replace z_2 := z_2.symm
  subst z_2
  refine wp_aload_n d_20_5 (by rfl) ?_
  refine wp_getR (6) d_20_6 fl_0_54 rfl rfl (by assumption) (by assumption) ?_
  refine wp_getR (11) d_20_9 fl_0_234 rfl rfl (by assumption) (by assumption) ?_
  refine wp_iload_n d_20_12 (by rfl) ?_
  refine wp_iald d_20_13 (Or.inl (by assumption)) (by omega) (by omega) (fun x_13 e_13 r_13 => ?_)
  subst e_13
  refine wp_iret d_20_14 rfl ?_
  exact ⟨rfl, rfl⟩
set_option maxRecDepth 100000 in
set_option maxHeartbeats 4000000 in
theorem s_slack {w : Nat} {h : Hp} (hS : Sk h w) (hk : hi h (w + 146) 0 = 1) : wp 21 0 (entL [vR (some w)] (mL 21)) [] h (fun v h' => v = some (vI (hi h (w + 146) 12)) ∧ h' = h) noX := by
  have hS9 := hS
  obtain ⟨⟨k1, k2, k3, k4, k5, k6, k7⟩, ⟨n1, ⟨n2, n3, n4, n5⟩, ⟨n6, n7⟩, ⟨n8, n9⟩, ⟨n10, n11⟩, n12, n13⟩, ⟨m1, ⟨m2, m3, m4⟩, ⟨m5, m6⟩, ⟨m7, m8⟩, m9, m10⟩, ⟨o1, ⟨o2, o3, o4⟩, ⟨o5, o6, o7⟩, ⟨o8, o9, o10⟩, o11, o12⟩, ⟨b1, ⟨b2, b3⟩, ⟨b4, b5, b6⟩, b7, b8, b9⟩, ⟨j1, ⟨j2, j3, j4, j5, j6, j7, j8⟩, ⟨j9, j10⟩, j11⟩⟩ := hS
  obtain ⟨x1, x2⟩ := j11 0 (by decide)
  obtain ⟨y1, y2⟩ := j11 1 (by decide)
  obtain ⟨z1, z2⟩ := j11 2 (by decide)
  obtain ⟨p1, p2⟩ := j11 3 (by decide)
  obtain ⟨q1, q2⟩ := j11 4 (by decide)
  obtain ⟨s1, s2⟩ := j11 5 (by decide)
  rw [Nat.add_zero] at x1 x2
  have y1 : kd h (w + 149) = 100 := y1
  have y2 : ln h (w + 149) = 13 := y2
  have z1 : kd h (w + 150) = 100 := z1
  have z2 : ln h (w + 150) = 13 := z2
  have p1 : kd h (w + 151) = 100 := p1
  have p2 : ln h (w + 151) = 13 := p2
  have q1 : kd h (w + 152) = 100 := q1
  have q2 : ln h (w + 152) = 13 := q2
  have s1 : kd h (w + 153) = 100 := s1
  have s2 : ln h (w + 153) = 13 := s2
  have sz0 : szJ h w = hi h (w + 146) 4 := rfl
  refine wp_aload_n d_21_0 (by rfl) ?_
  refine wp_getR (6) d_21_1 fl_0_54 rfl rfl (by assumption) (by assumption) ?_
  refine wp_getI (0) d_21_4 fl_0_219 rfl rfl (by assumption) (fun x_4 e_4 r_4 => ?_)
  subst e_4
  refine wp_callS d_21_7 c_21_70 rfl (by rfl) (by rfl) (by exact Nat.le_of_ble_eq_true rfl) (by exact Nat.le_of_ble_eq_true rfl) (s_needState hk) (fun v_7 h_7 q_7 => ?_) (fun _ _ q => q.elim)
  obtain ⟨rfl, z_7⟩ := q_7
  replace z_7 := z_7.symm
  subst z_7
  refine wp_aload_n d_21_10 (by rfl) ?_
  refine wp_getR (6) d_21_11 fl_0_54 rfl rfl (by assumption) (by assumption) ?_
  refine wp_getI (12) d_21_14 fl_0_237 rfl rfl (by assumption) (fun x_14 e_14 r_14 => ?_)
  subst e_14
  refine wp_iret d_21_17 rfl ?_
  exact ⟨rfl, rfl⟩
set_option maxRecDepth 100000 in
set_option maxHeartbeats 4000000 in
theorem s_price {w : Nat} {h : Hp} (hS : Sk h w) (hk : hi h (w + 146) 0 = 1) : wp 22 0 (entL [vR (some w)] (mL 22)) [] h (fun v h' => v = some (vI (hi h (w + 146) 13)) ∧ h' = h) noX := by
  have hS9 := hS
  obtain ⟨⟨k1, k2, k3, k4, k5, k6, k7⟩, ⟨n1, ⟨n2, n3, n4, n5⟩, ⟨n6, n7⟩, ⟨n8, n9⟩, ⟨n10, n11⟩, n12, n13⟩, ⟨m1, ⟨m2, m3, m4⟩, ⟨m5, m6⟩, ⟨m7, m8⟩, m9, m10⟩, ⟨o1, ⟨o2, o3, o4⟩, ⟨o5, o6, o7⟩, ⟨o8, o9, o10⟩, o11, o12⟩, ⟨b1, ⟨b2, b3⟩, ⟨b4, b5, b6⟩, b7, b8, b9⟩, ⟨j1, ⟨j2, j3, j4, j5, j6, j7, j8⟩, ⟨j9, j10⟩, j11⟩⟩ := hS
  obtain ⟨x1, x2⟩ := j11 0 (by decide)
  obtain ⟨y1, y2⟩ := j11 1 (by decide)
  obtain ⟨z1, z2⟩ := j11 2 (by decide)
  obtain ⟨p1, p2⟩ := j11 3 (by decide)
  obtain ⟨q1, q2⟩ := j11 4 (by decide)
  obtain ⟨s1, s2⟩ := j11 5 (by decide)
  rw [Nat.add_zero] at x1 x2
  have y1 : kd h (w + 149) = 100 := y1
  have y2 : ln h (w + 149) = 13 := y2
  have z1 : kd h (w + 150) = 100 := z1
  have z2 : ln h (w + 150) = 13 := z2
  have p1 : kd h (w + 151) = 100 := p1
  have p2 : ln h (w + 151) = 13 := p2
  have q1 : kd h (w + 152) = 100 := q1
  have q2 : ln h (w + 152) = 13 := q2
  have s1 : kd h (w + 153) = 100 := s1
  have s2 : ln h (w + 153) = 13 := s2
  have sz0 : szJ h w = hi h (w + 146) 4 := rfl
  refine wp_aload_n d_22_0 (by rfl) ?_
  refine wp_getR (6) d_22_1 fl_0_54 rfl rfl (by assumption) (by assumption) ?_
  refine wp_getI (0) d_22_4 fl_0_219 rfl rfl (by assumption) (fun x_4 e_4 r_4 => ?_)
  subst e_4
  refine wp_callS d_22_7 c_22_70 rfl (by rfl) (by rfl) (by exact Nat.le_of_ble_eq_true rfl) (by exact Nat.le_of_ble_eq_true rfl) (s_needState hk) (fun v_7 h_7 q_7 => ?_) (fun _ _ q => q.elim)
  obtain ⟨rfl, z_7⟩ := q_7
  replace z_7 := z_7.symm
  subst z_7
  refine wp_aload_n d_22_10 (by rfl) ?_
  refine wp_getR (6) d_22_11 fl_0_54 rfl rfl (by assumption) (by assumption) ?_
  refine wp_getI (13) d_22_14 fl_0_240 rfl rfl (by assumption) (fun x_14 e_14 r_14 => ?_)
  subst e_14
  refine wp_iret d_22_17 rfl ?_
  exact ⟨rfl, rfl⟩
set_option maxRecDepth 100000 in
set_option maxHeartbeats 4000000 in
theorem l_poss {w X : Nat} {o d T D : Int} {K n : Nat} {h : Hp} (hS : Sk h w) (hT : TT h w X) (kp : Kp h w o d T D K n) : ∀ (mm : Nat) (k : Int), k + mm = n → 0 ≤ k → wp 70 13 [some (vR (some (w + 146))), some (vR (some (w + 1))), some (vI (tmJ h w k)), some (vI (snJ h w k)), some (vI (k)), none, none] [] h (fun v h' => v = some (vI 1) ∧ h' = h) noX := by
  intro mm
  induction mm with
  | zero =>
    intro k e0 e1
    have hS9 := hS
    obtain ⟨⟨k1, k2, k3, k4, k5, k6, k7⟩, ⟨n1, ⟨n2, n3, n4, n5⟩, ⟨n6, n7⟩, ⟨n8, n9⟩, ⟨n10, n11⟩, n12, n13⟩, ⟨m1, ⟨m2, m3, m4⟩, ⟨m5, m6⟩, ⟨m7, m8⟩, m9, m10⟩, ⟨o1, ⟨o2, o3, o4⟩, ⟨o5, o6, o7⟩, ⟨o8, o9, o10⟩, o11, o12⟩, ⟨b1, ⟨b2, b3⟩, ⟨b4, b5, b6⟩, b7, b8, b9⟩, ⟨j1, ⟨j2, j3, j4, j5, j6, j7, j8⟩, ⟨j9, j10⟩, j11⟩⟩ := hS
    obtain ⟨x1, x2⟩ := j11 0 (by decide)
    obtain ⟨y1, y2⟩ := j11 1 (by decide)
    obtain ⟨z1, z2⟩ := j11 2 (by decide)
    obtain ⟨p1, p2⟩ := j11 3 (by decide)
    obtain ⟨q1, q2⟩ := j11 4 (by decide)
    obtain ⟨s1, s2⟩ := j11 5 (by decide)
    rw [Nat.add_zero] at x1 x2
    have y1 : kd h (w + 149) = 100 := y1
    have y2 : ln h (w + 149) = 13 := y2
    have z1 : kd h (w + 150) = 100 := z1
    have z2 : ln h (w + 150) = 13 := z2
    have p1 : kd h (w + 151) = 100 := p1
    have p2 : ln h (w + 151) = 13 := p2
    have q1 : kd h (w + 152) = 100 := q1
    have q2 : ln h (w + 152) = 13 := q2
    have s1 : kd h (w + 153) = 100 := s1
    have s2 : ln h (w + 153) = 13 := s2
    have sz0 : szJ h w = hi h (w + 146) 4 := rfl
    have szn : szJ h w = n := kp.2.1
    have n13 := kp.2.2.1
    have kT := kp.2.2.2.2.2.2.1
    have kL := kp.2.2.2.2.2.2.2.2.2.2.2
    have tmk := kp.tm hT e1 (by omega)
    have kn : k = n := by omega
    have tmn : tmJ h w k = D := by rw [kn]; exact kp.2.2.2.2.2.2.2.2.1
    refine wp_iload d_70_13 (by rfl) ?_
    refine wp_aload_n d_70_15 (by rfl) ?_
    refine wp_getI (4) d_70_16 fl_6_50 rfl rfl (by assumption) (fun x_16 e_16 r_16 => ?_)
    subst e_16
    refine wp_icmp_ge (tgt := 148) d_70_19 (by decide) (by omega) (by omega) (fun c_19 => ?_) (fun c_19 => ?_)
    rotate_left
    · exact absurd c_19 (by omega)
    refine wp_iload_n d_70_148 (by rfl) ?_
    refine wp_aload_n d_70_149 (by rfl) ?_
    refine wp_getI (3) d_70_150 fl_6_47 rfl rfl (by assumption) (fun x_150 e_150 r_150 => ?_)
    subst e_150
    refine wp_sipush d_70_153 (by decide) ?_
    refine wp_iadd d_70_156 ?_
    refine wp_icmp_gt (tgt := 164) d_70_157 (by decide) (by omega) (by omega) (fun c_157 => ?_) (fun c_157 => ?_)
    · exact absurd c_157 (by omega)
    refine wp_iconst d_70_160 ?_
    refine wp_goto (tgt := 165) d_70_161 (by decide) ?_
    refine wp_zret d_70_165 rfl (by omega) ?_
    exact ⟨rfl, rfl⟩
  | succ mm ih =>
    intro k e0 e1
    have hS9 := hS
    obtain ⟨⟨k1, k2, k3, k4, k5, k6, k7⟩, ⟨n1, ⟨n2, n3, n4, n5⟩, ⟨n6, n7⟩, ⟨n8, n9⟩, ⟨n10, n11⟩, n12, n13⟩, ⟨m1, ⟨m2, m3, m4⟩, ⟨m5, m6⟩, ⟨m7, m8⟩, m9, m10⟩, ⟨o1, ⟨o2, o3, o4⟩, ⟨o5, o6, o7⟩, ⟨o8, o9, o10⟩, o11, o12⟩, ⟨b1, ⟨b2, b3⟩, ⟨b4, b5, b6⟩, b7, b8, b9⟩, ⟨j1, ⟨j2, j3, j4, j5, j6, j7, j8⟩, ⟨j9, j10⟩, j11⟩⟩ := hS
    obtain ⟨x1, x2⟩ := j11 0 (by decide)
    obtain ⟨y1, y2⟩ := j11 1 (by decide)
    obtain ⟨z1, z2⟩ := j11 2 (by decide)
    obtain ⟨p1, p2⟩ := j11 3 (by decide)
    obtain ⟨q1, q2⟩ := j11 4 (by decide)
    obtain ⟨s1, s2⟩ := j11 5 (by decide)
    rw [Nat.add_zero] at x1 x2
    have y1 : kd h (w + 149) = 100 := y1
    have y2 : ln h (w + 149) = 13 := y2
    have z1 : kd h (w + 150) = 100 := z1
    have z2 : ln h (w + 150) = 13 := z2
    have p1 : kd h (w + 151) = 100 := p1
    have p2 : ln h (w + 151) = 13 := p2
    have q1 : kd h (w + 152) = 100 := q1
    have q2 : ln h (w + 152) = 13 := q2
    have s1 : kd h (w + 153) = 100 := s1
    have s2 : ln h (w + 153) = 13 := s2
    have sz0 : szJ h w = hi h (w + 146) 4 := rfl
    have szn : szJ h w = n := kp.2.1
    have n13 := kp.2.2.1
    have kT := kp.2.2.2.2.2.2.1
    have kL := kp.2.2.2.2.2.2.2.2.2.2.2
    have tmk := kp.tm hT e1 (by omega)
    have lg := kp.2.2.2.1 k e1 (by omega)
    have ls := lg.step hT e1
    have t1 := tmJ_succ (h := h) (w := w) e1
    have p9 := spJ_succ (h := h) (w := w) e1
    have tm1 := kp.tm hT (k := k + 1) (by omega) (by omega)
    rcases lg with ⟨t, a, l1, l2, l3, l4, l5, l6, l7, l8, l9, l10⟩ | ⟨l1, l2, l3, l4⟩
    · obtain ⟨a', c, g1, g2, g3, gT, g5, gc, g6, g7, gC⟩ := hT.2.2.2.2.2.1 t l2.1 l2.2
      cases l3.symm.trans g1
      have hT0 := gT
      obtain ⟨tk1, ⟨u1, u2, u3, u4⟩, ⟨⟨v1, v2⟩, ⟨v3, v4⟩, ⟨v5, v6⟩, v7, v8⟩, t4, t5, t6, t7, t8⟩ := gT
      have ti := t5 _ l5.1 (by omega)
      have tj := t5 _ (by omega : 0 ≤ hi h (w + 150) k) l5.2.2
      have sn1 : snJ h w (k + 1) = hi h (w + 153) k + hi h (w + 2) (hi h (w + 151) k) := by
        unfold snJ
        rw [if_pos ⟨by omega, by rw [show k + 1 - 1 = k by omega, l1]; exact fun z => nomatch z⟩, t1, p9]
      have sn0 : tmJ h w k ≤ snJ h w k := by
        unfold snJ
        have := hT.2.2.2.1 (spJ h w k)
        split <;> omega
      have tg : 0 ≤ hi h (w + 151) k ∧ hi h (w + 151) k < 16 := by
        rw [l10]
        have := hT.1
        omega
      refine wp_iload d_70_13 (by rfl) ?_
      refine wp_aload_n d_70_15 (by rfl) ?_
      refine wp_getI (4) d_70_16 fl_6_50 rfl rfl (by assumption) (fun x_16 e_16 r_16 => ?_)
      subst e_16
      refine wp_icmp_ge (tgt := 148) d_70_19 (by decide) (by omega) (by omega) (fun c_19 => ?_) (fun c_19 => ?_)
      · exact absurd c_19 (by omega)
      refine wp_aload_n d_70_22 (by rfl) ?_
      refine wp_getR (5) d_70_23 fl_6_11 rfl rfl (by assumption) (by first | assumption | exact l1) ?_
      refine wp_iload d_70_26 (by rfl) ?_
      refine wp_aald d_70_28 (by first | omega | (simp only [kd_setI, kd_cpI]; omega)) (by first | omega | (simp only [kd_setI, kd_cpI]; omega)) (by apply isRf_of; assumption; rfl) (by omega) (by omega) (by first | assumption | exact l1) ?_
      refine wp_astore d_70_29 (by decide) ?_
      refine wp_aload d_70_31 (by rfl) ?_
      refine wp_ifnonnull (tgt := 59) d_70_33 (by decide) (fun a_33 c_33 => ?_) (fun c_33 => ?_)
      rotate_left
      · exact absurd c_33 (fun z => nomatch z)
      obtain rfl := Option.some.inj c_33
      refine wp_aload d_70_59 (by rfl) ?_
      refine wp_aload_n d_70_61 (by rfl) ?_
      refine wp_getR (6) d_70_62 fl_6_17 rfl rfl (by assumption) (by first | assumption | exact l1) ?_
      refine wp_iload d_70_65 (by rfl) ?_
      refine wp_iald d_70_67 (Or.inl (by assumption)) (by omega) (by omega) (fun x_67 e_67 r_67 => ?_)
      subst e_67
      refine wp_callV d_70_68 c_70_115 rfl (by rfl) (by rfl) ⟨11, rfl, rfl, by decide⟩ (by assumption) (by exact Nat.le_of_ble_eq_true rfl) (by exact Nat.le_of_ble_eq_true rfl) (s_baseOf hT0 l4.1) (fun v_68 h_68 q_68 => ?_) (fun _ _ q => q.elim)
      obtain ⟨rfl, z_68⟩ := q_68
      replace z_68 := z_68.symm
      subst z_68
      refine wp_istore d_70_71 (by decide) ?_
      refine wp_aload d_70_73 (by rfl) ?_
      refine wp_aload_n d_70_75 (by rfl) ?_
      refine wp_getR (6) d_70_76 fl_6_17 rfl rfl (by assumption) (by first | assumption | exact l1) ?_
      refine wp_iload d_70_79 (by rfl) ?_
      refine wp_iald d_70_81 (Or.inl (by assumption)) (by omega) (by omega) (fun x_81 e_81 r_81 => ?_)
      subst e_81
      refine wp_callV d_70_82 c_70_151 rfl (by rfl) (by rfl) ⟨11, rfl, rfl, by decide⟩ (by assumption) (by exact Nat.le_of_ble_eq_true rfl) (by exact Nat.le_of_ble_eq_true rfl) (s_hasRun hT0 gc gC (by omega)) (fun v_82 h_82 q_82 => ?_) (fun _ _ q => q.elim)
      obtain ⟨z_82, rfl, y_82, u_82⟩ := q_82
      replace y_82 := y_82.symm
      subst y_82
      have hz1 : z_82 = 1 := by
        rcases u_82 with ⟨y, -⟩ | ⟨-, y⟩
        · exact y
        · exact absurd l4 y
      refine wp_if_eq (tgt := 108) d_70_85 (by decide) (by omega) (fun c_85 => ?_) (fun c_85 => ?_)
      · exact absurd c_85 (by omega)
      refine wp_iload d_70_88 (by rfl) ?_
      refine wp_aload d_70_90 (by rfl) ?_
      refine wp_getR (5) d_70_92 fl_6_94 rfl rfl (by assumption) (by first | assumption | exact l1) ?_
      refine wp_aload_n d_70_95 (by rfl) ?_
      refine wp_getR (7) d_70_96 fl_6_21 rfl rfl (by assumption) (by first | assumption | exact l1) ?_
      refine wp_iload d_70_99 (by rfl) ?_
      refine wp_iald d_70_101 (Or.inl (by assumption)) (by omega) (by omega) (fun x_101 e_101 r_101 => ?_)
      subst e_101
      refine wp_iald d_70_102 (Or.inl (by assumption)) (by omega) (by omega) (fun x_102 e_102 r_102 => ?_)
      subst e_102
      refine wp_iadd d_70_103 ?_
      refine wp_iload_n d_70_104 (by rfl) ?_
      refine wp_icmp_ge (tgt := 110) d_70_105 (by decide) (by omega) (by omega) (fun c_105 => ?_) (fun c_105 => ?_)
      rotate_left
      · exact absurd c_105 (by omega)
      refine wp_iload d_70_110 (by rfl) ?_
      refine wp_aload d_70_112 (by rfl) ?_
      refine wp_getR (4) d_70_114 fl_6_112 rfl rfl (by assumption) (by first | assumption | exact l1) ?_
      refine wp_aload_n d_70_117 (by rfl) ?_
      refine wp_getR (8) d_70_118 fl_6_24 rfl rfl (by assumption) (by first | assumption | exact l1) ?_
      refine wp_iload d_70_121 (by rfl) ?_
      refine wp_iald d_70_123 (Or.inl (by assumption)) (by omega) (by omega) (fun x_123 e_123 r_123 => ?_)
      subst e_123
      refine wp_iald d_70_124 (Or.inl (by assumption)) (by omega) (by omega) (fun x_124 e_124 r_124 => ?_)
      subst e_124
      refine wp_iadd d_70_125 ?_
      refine wp_istore_n d_70_126 (by decide) ?_
      refine wp_iload_n d_70_127 (by rfl) ?_
      refine wp_aload_n d_70_128 (by rfl) ?_
      refine wp_getR (0) d_70_129 fl_6_78 rfl rfl (by assumption) (by first | assumption | exact l1) ?_
      refine wp_aload_n d_70_132 (by rfl) ?_
      refine wp_getR (9) d_70_133 fl_6_27 rfl rfl (by assumption) (by first | assumption | exact l1) ?_
      refine wp_iload d_70_136 (by rfl) ?_
      refine wp_iald d_70_138 (Or.inl (by assumption)) (by omega) (by omega) (fun x_138 e_138 r_138 => ?_)
      subst e_138
      refine wp_iald d_70_139 (Or.inl (by assumption)) (by omega) (by omega) (fun x_139 e_139 r_139 => ?_)
      subst e_139
      refine wp_iadd d_70_140 ?_
      refine wp_istore_n d_70_141 (by decide) ?_
      refine wp_iinc d_70_142 (by rfl) (by decide) ?_
      refine wp_goto (tgt := 13) d_70_145 (by decide) ?_
      refine wp_to [some (vR (some (w + 146))), some (vR (some (w + 1))), some (vI (tmJ h w (k + 1))), some (vI (snJ h w (k + 1))), some (vI (k + 1)), none, none] ⟨rfl, rfl, congrArg (fun z => some (vI z)) (by omega), congrArg (fun z => some (vI z)) (by omega), rfl, trivial⟩ ?_
      exact ih (k + 1) (by omega) (by omega)
    · have sn1 : snJ h w (k + 1) = hi h (w + 153) k := by
        unfold snJ
        rw [if_neg (fun z => z.2 (by rw [show k + 1 - 1 = k by omega]; exact l1)), t1]
        omega
      refine wp_iload d_70_13 (by rfl) ?_
      refine wp_aload_n d_70_15 (by rfl) ?_
      refine wp_getI (4) d_70_16 fl_6_50 rfl rfl (by assumption) (fun x_16 e_16 r_16 => ?_)
      subst e_16
      refine wp_icmp_ge (tgt := 148) d_70_19 (by decide) (by omega) (by omega) (fun c_19 => ?_) (fun c_19 => ?_)
      · exact absurd c_19 (by omega)
      refine wp_aload_n d_70_22 (by rfl) ?_
      refine wp_getR (5) d_70_23 fl_6_11 rfl rfl (by assumption) (by first | assumption | exact l1) ?_
      refine wp_iload d_70_26 (by rfl) ?_
      refine wp_aald d_70_28 (by first | omega | (simp only [kd_setI, kd_cpI]; omega)) (by first | omega | (simp only [kd_setI, kd_cpI]; omega)) (by apply isRf_of; assumption; rfl) (by omega) (by omega) (by first | assumption | exact l1) ?_
      refine wp_astore d_70_29 (by decide) ?_
      refine wp_aload d_70_31 (by rfl) ?_
      refine wp_ifnonnull (tgt := 59) d_70_33 (by decide) (fun a_33 c_33 => ?_) (fun c_33 => ?_)
      · exact absurd c_33 (fun z => nomatch z)
      refine wp_iload_n d_70_36 (by rfl) ?_
      refine wp_aload_n d_70_37 (by rfl) ?_
      refine wp_getR (11) d_70_38 fl_6_33 rfl rfl (by assumption) (by first | assumption | exact l1) ?_
      refine wp_iload d_70_41 (by rfl) ?_
      refine wp_iald d_70_43 (Or.inl (by assumption)) (by omega) (by omega) (fun x_43 e_43 r_43 => ?_)
      subst e_43
      refine wp_aload_n d_70_44 (by rfl) ?_
      refine wp_getR (10) d_70_45 fl_6_30 rfl rfl (by assumption) (by first | assumption | exact l1) ?_
      refine wp_iload d_70_48 (by rfl) ?_
      refine wp_iald d_70_50 (Or.inl (by assumption)) (by omega) (by omega) (fun x_50 e_50 r_50 => ?_)
      subst e_50
      refine wp_isub d_70_51 ?_
      refine wp_iadd d_70_52 ?_
      refine wp_istore_n d_70_53 (by decide) ?_
      refine wp_iload_n d_70_54 (by rfl) ?_
      refine wp_istore_n d_70_55 (by decide) ?_
      refine wp_goto (tgt := 142) d_70_56 (by decide) ?_
      refine wp_iinc d_70_142 (by rfl) (by decide) ?_
      refine wp_goto (tgt := 13) d_70_145 (by decide) ?_
      refine wp_to [some (vR (some (w + 146))), some (vR (some (w + 1))), some (vI (tmJ h w (k + 1))), some (vI (snJ h w (k + 1))), some (vI (k + 1)), none, none] ⟨rfl, rfl, congrArg (fun z => some (vI z)) (by omega), congrArg (fun z => some (vI z)) (by omega), rfl, trivial⟩ ?_
      exact ih (k + 1) (by omega) (by omega)
set_option maxRecDepth 100000 in
set_option maxHeartbeats 4000000 in
theorem s_possible {w X : Nat} {o d T D : Int} {K n : Nat} {h : Hp} (hS : Sk h w) (hT : TT h w X) (kp : Kp h w o d T D K n) : wp 70 0 (entL [vR (some (w + 146)), vR (some (w + 1))] (mL 70)) [] h (fun v h' => v = some (vI 1) ∧ h' = h) noX := by
  have hS9 := hS
  obtain ⟨⟨k1, k2, k3, k4, k5, k6, k7⟩, ⟨n1, ⟨n2, n3, n4, n5⟩, ⟨n6, n7⟩, ⟨n8, n9⟩, ⟨n10, n11⟩, n12, n13⟩, ⟨m1, ⟨m2, m3, m4⟩, ⟨m5, m6⟩, ⟨m7, m8⟩, m9, m10⟩, ⟨o1, ⟨o2, o3, o4⟩, ⟨o5, o6, o7⟩, ⟨o8, o9, o10⟩, o11, o12⟩, ⟨b1, ⟨b2, b3⟩, ⟨b4, b5, b6⟩, b7, b8, b9⟩, ⟨j1, ⟨j2, j3, j4, j5, j6, j7, j8⟩, ⟨j9, j10⟩, j11⟩⟩ := hS
  obtain ⟨x1, x2⟩ := j11 0 (by decide)
  obtain ⟨y1, y2⟩ := j11 1 (by decide)
  obtain ⟨z1, z2⟩ := j11 2 (by decide)
  obtain ⟨p1, p2⟩ := j11 3 (by decide)
  obtain ⟨q1, q2⟩ := j11 4 (by decide)
  obtain ⟨s1, s2⟩ := j11 5 (by decide)
  rw [Nat.add_zero] at x1 x2
  have y1 : kd h (w + 149) = 100 := y1
  have y2 : ln h (w + 149) = 13 := y2
  have z1 : kd h (w + 150) = 100 := z1
  have z2 : ln h (w + 150) = 13 := z2
  have p1 : kd h (w + 151) = 100 := p1
  have p2 : ln h (w + 151) = 13 := p2
  have q1 : kd h (w + 152) = 100 := q1
  have q2 : ln h (w + 152) = 13 := q2
  have s1 : kd h (w + 153) = 100 := s1
  have s2 : ln h (w + 153) = 13 := s2
  have sz0 : szJ h w = hi h (w + 146) 4 := rfl
  have t0 : tmJ h w 0 = hi h (w + 146) 3 := by unfold tmJ; rw [if_pos rfl]
  have s0 : snJ h w 0 = hi h (w + 146) 3 := by unfold snJ; rw [if_neg (fun z => absurd z.1 (by omega)), t0]; omega
  refine wp_aload_n d_70_0 (by rfl) ?_
  refine wp_getI (3) d_70_1 fl_6_47 rfl rfl (by assumption) (fun x_1 e_1 r_1 => ?_)
  subst e_1
  refine wp_istore_n d_70_4 (by decide) ?_
  refine wp_aload_n d_70_5 (by rfl) ?_
  refine wp_getI (3) d_70_6 fl_6_47 rfl rfl (by assumption) (fun x_6 e_6 r_6 => ?_)
  subst e_6
  refine wp_istore_n d_70_9 (by decide) ?_
  refine wp_iconst d_70_10 ?_
  refine wp_istore d_70_11 (by decide) ?_
  refine wp_to [some (vR (some (w + 146))), some (vR (some (w + 1))), some (vI (tmJ h w 0)), some (vI (snJ h w 0)), some (vI (0)), none, none] ⟨rfl, rfl, congrArg (fun z => some (vI z)) t0.symm, congrArg (fun z => some (vI z)) s0.symm, rfl, trivial⟩ ?_
  exact l_poss hS9 hT kp n 0 (by omega) (by omega)
set_option maxRecDepth 100000 in
set_option maxHeartbeats 4000000 in
theorem s_holds {w X : Nat} {o d T D : Int} {K n : Nat} {h : Hp} (hS : Sk h w) (hT : TT h w X) (kp : Kp h w o d T D K n) : wp 23 0 (entL [vR (some w)] (mL 23)) [] h (fun v h' => v = some (vI 1) ∧ h' = h) noX := by
  have hS9 := hS
  obtain ⟨⟨k1, k2, k3, k4, k5, k6, k7⟩, ⟨n1, ⟨n2, n3, n4, n5⟩, ⟨n6, n7⟩, ⟨n8, n9⟩, ⟨n10, n11⟩, n12, n13⟩, ⟨m1, ⟨m2, m3, m4⟩, ⟨m5, m6⟩, ⟨m7, m8⟩, m9, m10⟩, ⟨o1, ⟨o2, o3, o4⟩, ⟨o5, o6, o7⟩, ⟨o8, o9, o10⟩, o11, o12⟩, ⟨b1, ⟨b2, b3⟩, ⟨b4, b5, b6⟩, b7, b8, b9⟩, ⟨j1, ⟨j2, j3, j4, j5, j6, j7, j8⟩, ⟨j9, j10⟩, j11⟩⟩ := hS
  obtain ⟨x1, x2⟩ := j11 0 (by decide)
  obtain ⟨y1, y2⟩ := j11 1 (by decide)
  obtain ⟨z1, z2⟩ := j11 2 (by decide)
  obtain ⟨p1, p2⟩ := j11 3 (by decide)
  obtain ⟨q1, q2⟩ := j11 4 (by decide)
  obtain ⟨s1, s2⟩ := j11 5 (by decide)
  rw [Nat.add_zero] at x1 x2
  have y1 : kd h (w + 149) = 100 := y1
  have y2 : ln h (w + 149) = 13 := y2
  have z1 : kd h (w + 150) = 100 := z1
  have z2 : ln h (w + 150) = 13 := z2
  have p1 : kd h (w + 151) = 100 := p1
  have p2 : ln h (w + 151) = 13 := p2
  have q1 : kd h (w + 152) = 100 := q1
  have q2 : ln h (w + 152) = 13 := q2
  have s1 : kd h (w + 153) = 100 := s1
  have s2 : ln h (w + 153) = 13 := s2
  have sz0 : szJ h w = hi h (w + 146) 4 := rfl
  refine wp_aload_n d_23_0 (by rfl) ?_
  refine wp_getR (6) d_23_1 fl_0_54 rfl rfl (by assumption) (by assumption) ?_
  refine wp_getI (0) d_23_4 fl_0_219 rfl rfl (by assumption) (fun x_4 e_4 r_4 => ?_)
  subst e_4
  refine wp_callS d_23_7 c_23_70 rfl (by rfl) (by rfl) (by exact Nat.le_of_ble_eq_true rfl) (by exact Nat.le_of_ble_eq_true rfl) (s_needState kp.1) (fun v_7 h_7 q_7 => ?_) (fun _ _ q => q.elim)
  obtain ⟨rfl, z_7⟩ := q_7
  replace z_7 := z_7.symm
  subst z_7
  refine wp_aload_n d_23_10 (by rfl) ?_
  refine wp_getR (6) d_23_11 fl_0_54 rfl rfl (by assumption) (by assumption) ?_
  refine wp_aload_n d_23_14 (by rfl) ?_
  refine wp_getR (0) d_23_15 fl_0_12 rfl rfl (by assumption) (by assumption) ?_
  refine wp_callV d_23_18 c_23_243 rfl (by rfl) (by rfl) ⟨6, rfl, rfl, by decide⟩ (by assumption) (by exact Nat.le_of_ble_eq_true rfl) (by exact Nat.le_of_ble_eq_true rfl) (s_possible hS9 hT kp) (fun v_18 h_18 q_18 => ?_) (fun _ _ q => q.elim)
  obtain ⟨rfl, z_18⟩ := q_18
  replace z_18 := z_18.symm
  subst z_18
  refine wp_zret d_23_21 rfl (by omega) ?_
  exact ⟨rfl, rfl⟩
set_option maxRecDepth 100000 in
set_option maxHeartbeats 4000000 in
theorem s_inAll {w X : Nat} {o d T D : Int} {K n : Nat} {h : Hp} (hS : Sk h w) (hT : TT h w X) (kp : Kp h w o d T D K n) : wp 71 0 (entL [vR (some (w + 146))] (mL 71)) [] h (fun v h' => v = some (vI (D - T)) ∧ h' = h) noX := by
  have hS9 := hS
  obtain ⟨⟨k1, k2, k3, k4, k5, k6, k7⟩, ⟨n1, ⟨n2, n3, n4, n5⟩, ⟨n6, n7⟩, ⟨n8, n9⟩, ⟨n10, n11⟩, n12, n13⟩, ⟨m1, ⟨m2, m3, m4⟩, ⟨m5, m6⟩, ⟨m7, m8⟩, m9, m10⟩, ⟨o1, ⟨o2, o3, o4⟩, ⟨o5, o6, o7⟩, ⟨o8, o9, o10⟩, o11, o12⟩, ⟨b1, ⟨b2, b3⟩, ⟨b4, b5, b6⟩, b7, b8, b9⟩, ⟨j1, ⟨j2, j3, j4, j5, j6, j7, j8⟩, ⟨j9, j10⟩, j11⟩⟩ := hS
  obtain ⟨x1, x2⟩ := j11 0 (by decide)
  obtain ⟨y1, y2⟩ := j11 1 (by decide)
  obtain ⟨z1, z2⟩ := j11 2 (by decide)
  obtain ⟨p1, p2⟩ := j11 3 (by decide)
  obtain ⟨q1, q2⟩ := j11 4 (by decide)
  obtain ⟨s1, s2⟩ := j11 5 (by decide)
  rw [Nat.add_zero] at x1 x2
  have y1 : kd h (w + 149) = 100 := y1
  have y2 : ln h (w + 149) = 13 := y2
  have z1 : kd h (w + 150) = 100 := z1
  have z2 : ln h (w + 150) = 13 := z2
  have p1 : kd h (w + 151) = 100 := p1
  have p2 : ln h (w + 151) = 13 := p2
  have q1 : kd h (w + 152) = 100 := q1
  have q2 : ln h (w + 152) = 13 := q2
  have s1 : kd h (w + 153) = 100 := s1
  have s2 : ln h (w + 153) = 13 := s2
  have sz0 : szJ h w = hi h (w + 146) 4 := rfl
  have szn : szJ h w = n := kp.2.1
  have n13 := kp.2.2.1
  have kT := kp.2.2.2.2.2.2.1
  have tmn : tmJ h w (szJ h w) = D := by rw [szn]; exact kp.2.2.2.2.2.2.2.2.1
  refine wp_aload_n d_71_0 (by rfl) ?_
  refine wp_callV d_71_1 c_71_71 rfl (by rfl) (by rfl) ⟨6, rfl, rfl, by decide⟩ (by assumption) (by exact Nat.le_of_ble_eq_true rfl) (by exact Nat.le_of_ble_eq_true rfl) (s_timeNow hS9 ⟨by omega, by omega⟩) (fun v_1 h_1 q_1 => ?_) (fun _ _ q => q.elim)
  obtain ⟨rfl, z_1⟩ := q_1
  replace z_1 := z_1.symm
  subst z_1
  refine wp_aload_n d_71_4 (by rfl) ?_
  refine wp_getI (3) d_71_5 fl_6_47 rfl rfl (by assumption) (fun x_5 e_5 r_5 => ?_)
  subst e_5
  refine wp_isub d_71_8 ?_
  refine wp_iret d_71_9 rfl ?_
  exact ⟨congrArg (fun z => some (vI z)) (by omega), rfl⟩
set_option maxRecDepth 100000 in
set_option maxHeartbeats 4000000 in
theorem l_inRides {w X : Nat} {o d T D : Int} {K n : Nat} {h : Hp} (hS : Sk h w) (hT : TT h w X) (kp : Kp h w o d T D K n) : ∀ (mm : Nat) (k z : Int), k + mm = n → 0 ≤ k → 0 ≤ z ∧ z ≤ tmJ h w k - T → wp 72 4 [some (vR (some (w + 146))), some (vI (z)), some (vI (k))] [] h (fun v h' => ∃ z, v = some (vI z) ∧ h' = h ∧ 0 ≤ z ∧ z ≤ D - T) noX := by
  intro mm
  induction mm with
  | zero =>
    intro k z e0 e1 ez
    have hS9 := hS
    obtain ⟨⟨k1, k2, k3, k4, k5, k6, k7⟩, ⟨n1, ⟨n2, n3, n4, n5⟩, ⟨n6, n7⟩, ⟨n8, n9⟩, ⟨n10, n11⟩, n12, n13⟩, ⟨m1, ⟨m2, m3, m4⟩, ⟨m5, m6⟩, ⟨m7, m8⟩, m9, m10⟩, ⟨o1, ⟨o2, o3, o4⟩, ⟨o5, o6, o7⟩, ⟨o8, o9, o10⟩, o11, o12⟩, ⟨b1, ⟨b2, b3⟩, ⟨b4, b5, b6⟩, b7, b8, b9⟩, ⟨j1, ⟨j2, j3, j4, j5, j6, j7, j8⟩, ⟨j9, j10⟩, j11⟩⟩ := hS
    obtain ⟨x1, x2⟩ := j11 0 (by decide)
    obtain ⟨y1, y2⟩ := j11 1 (by decide)
    obtain ⟨z1, z2⟩ := j11 2 (by decide)
    obtain ⟨p1, p2⟩ := j11 3 (by decide)
    obtain ⟨q1, q2⟩ := j11 4 (by decide)
    obtain ⟨s1, s2⟩ := j11 5 (by decide)
    rw [Nat.add_zero] at x1 x2
    have y1 : kd h (w + 149) = 100 := y1
    have y2 : ln h (w + 149) = 13 := y2
    have z1 : kd h (w + 150) = 100 := z1
    have z2 : ln h (w + 150) = 13 := z2
    have p1 : kd h (w + 151) = 100 := p1
    have p2 : ln h (w + 151) = 13 := p2
    have q1 : kd h (w + 152) = 100 := q1
    have q2 : ln h (w + 152) = 13 := q2
    have s1 : kd h (w + 153) = 100 := s1
    have s2 : ln h (w + 153) = 13 := s2
    have sz0 : szJ h w = hi h (w + 146) 4 := rfl
    have szn : szJ h w = n := kp.2.1
    have n13 := kp.2.2.1
    have kT := kp.2.2.2.2.2.2.1
    have kL := kp.2.2.2.2.2.2.2.2.2.2.2
    have tmk := kp.tm hT e1 (by omega)
    have kn : k = n := by omega
    have tmn : tmJ h w k = D := by rw [kn]; exact kp.2.2.2.2.2.2.2.2.1
    refine wp_iload_n d_72_4 (by rfl) ?_
    refine wp_aload_n d_72_5 (by rfl) ?_
    refine wp_getI (4) d_72_6 fl_6_50 rfl rfl (by assumption) (fun x_6 e_6 r_6 => ?_)
    subst e_6
    refine wp_icmp_ge (tgt := 43) d_72_9 (by decide) (by omega) (by omega) (fun c_9 => ?_) (fun c_9 => ?_)
    rotate_left
    · exact absurd c_9 (by omega)
    refine wp_iload_n d_72_43 (by rfl) ?_
    refine wp_iret d_72_44 rfl ?_
    exact ⟨_, rfl, rfl, by omega, by omega⟩
  | succ mm ih =>
    intro k z e0 e1 ez
    have hS9 := hS
    obtain ⟨⟨k1, k2, k3, k4, k5, k6, k7⟩, ⟨n1, ⟨n2, n3, n4, n5⟩, ⟨n6, n7⟩, ⟨n8, n9⟩, ⟨n10, n11⟩, n12, n13⟩, ⟨m1, ⟨m2, m3, m4⟩, ⟨m5, m6⟩, ⟨m7, m8⟩, m9, m10⟩, ⟨o1, ⟨o2, o3, o4⟩, ⟨o5, o6, o7⟩, ⟨o8, o9, o10⟩, o11, o12⟩, ⟨b1, ⟨b2, b3⟩, ⟨b4, b5, b6⟩, b7, b8, b9⟩, ⟨j1, ⟨j2, j3, j4, j5, j6, j7, j8⟩, ⟨j9, j10⟩, j11⟩⟩ := hS
    obtain ⟨x1, x2⟩ := j11 0 (by decide)
    obtain ⟨y1, y2⟩ := j11 1 (by decide)
    obtain ⟨z1, z2⟩ := j11 2 (by decide)
    obtain ⟨p1, p2⟩ := j11 3 (by decide)
    obtain ⟨q1, q2⟩ := j11 4 (by decide)
    obtain ⟨s1, s2⟩ := j11 5 (by decide)
    rw [Nat.add_zero] at x1 x2
    have y1 : kd h (w + 149) = 100 := y1
    have y2 : ln h (w + 149) = 13 := y2
    have z1 : kd h (w + 150) = 100 := z1
    have z2 : ln h (w + 150) = 13 := z2
    have p1 : kd h (w + 151) = 100 := p1
    have p2 : ln h (w + 151) = 13 := p2
    have q1 : kd h (w + 152) = 100 := q1
    have q2 : ln h (w + 152) = 13 := q2
    have s1 : kd h (w + 153) = 100 := s1
    have s2 : ln h (w + 153) = 13 := s2
    have sz0 : szJ h w = hi h (w + 146) 4 := rfl
    have szn : szJ h w = n := kp.2.1
    have n13 := kp.2.2.1
    have kT := kp.2.2.2.2.2.2.1
    have kL := kp.2.2.2.2.2.2.2.2.2.2.2
    have tmk := kp.tm hT e1 (by omega)
    have lg := kp.2.2.2.1 k e1 (by omega)
    have ls := lg.step hT e1
    have t1 := tmJ_succ (h := h) (w := w) e1
    have tm1 := kp.tm hT (k := k + 1) (by omega) (by omega)
    refine wp_iload_n d_72_4 (by rfl) ?_
    refine wp_aload_n d_72_5 (by rfl) ?_
    refine wp_getI (4) d_72_6 fl_6_50 rfl rfl (by assumption) (fun x_6 e_6 r_6 => ?_)
    subst e_6
    refine wp_icmp_ge (tgt := 43) d_72_9 (by decide) (by omega) (by omega) (fun c_9 => ?_) (fun c_9 => ?_)
    · exact absurd c_9 (by omega)
    refine wp_aload_n d_72_12 (by rfl) ?_
    refine wp_getR (5) d_72_13 fl_6_11 rfl rfl (by assumption) (by first | assumption | rfl) ?_
    refine wp_iload_n d_72_16 (by rfl) ?_
    refine wp_aald d_72_17 (by first | omega | (simp only [kd_setI, kd_cpI]; omega)) (by first | omega | (simp only [kd_setI, kd_cpI]; omega)) (by apply isRf_of; assumption; rfl) (by omega) (by omega) (by first | assumption | rfl) ?_
    refine wp_ifnull (tgt := 37) d_72_18 (by decide) (fun c_18 => ?_) (fun a_18 c_18 => ?_)
    · refine wp_iinc d_72_37 (by rfl) (by decide) ?_
      refine wp_goto (tgt := 4) d_72_40 (by decide) ?_
      first
        | (refine wp_to [some (vR (some (w + 146))), some (vI (z)), some (vI (k + 1))] ⟨rfl, rfl, rfl, trivial⟩ ?_
           exact ih (k + 1) _ (by omega) (by omega) ⟨by omega, by omega⟩)
        | (refine wp_to [some (vR (some (w + 146))), some (vI (z + (hi h (w + 153) k - hi h (w + 152) k))), some (vI (k + 1))] ⟨rfl, rfl, rfl, trivial⟩ ?_
           exact ih (k + 1) _ (by omega) (by omega) ⟨by omega, by omega⟩)
    · refine wp_iload_n d_72_21 (by rfl) ?_
      refine wp_aload_n d_72_22 (by rfl) ?_
      refine wp_getR (11) d_72_23 fl_6_33 rfl rfl (by assumption) (by first | assumption | rfl) ?_
      refine wp_iload_n d_72_26 (by rfl) ?_
      refine wp_iald d_72_27 (Or.inl (by assumption)) (by omega) (by omega) (fun x_27 e_27 r_27 => ?_)
      subst e_27
      refine wp_aload_n d_72_28 (by rfl) ?_
      refine wp_getR (10) d_72_29 fl_6_30 rfl rfl (by assumption) (by first | assumption | rfl) ?_
      refine wp_iload_n d_72_32 (by rfl) ?_
      refine wp_iald d_72_33 (Or.inl (by assumption)) (by omega) (by omega) (fun x_33 e_33 r_33 => ?_)
      subst e_33
      refine wp_isub d_72_34 ?_
      refine wp_iadd d_72_35 ?_
      refine wp_istore_n d_72_36 (by decide) ?_
      refine wp_iinc d_72_37 (by rfl) (by decide) ?_
      refine wp_goto (tgt := 4) d_72_40 (by decide) ?_
      first
        | (refine wp_to [some (vR (some (w + 146))), some (vI (z)), some (vI (k + 1))] ⟨rfl, rfl, rfl, trivial⟩ ?_
           exact ih (k + 1) _ (by omega) (by omega) ⟨by omega, by omega⟩)
        | (refine wp_to [some (vR (some (w + 146))), some (vI (z + (hi h (w + 153) k - hi h (w + 152) k))), some (vI (k + 1))] ⟨rfl, rfl, rfl, trivial⟩ ?_
           exact ih (k + 1) _ (by omega) (by omega) ⟨by omega, by omega⟩)
set_option maxRecDepth 100000 in
set_option maxHeartbeats 4000000 in
theorem s_inRides {w X : Nat} {o d T D : Int} {K n : Nat} {h : Hp} (hS : Sk h w) (hT : TT h w X) (kp : Kp h w o d T D K n) : wp 72 0 (entL [vR (some (w + 146))] (mL 72)) [] h (fun v h' => ∃ z, v = some (vI z) ∧ h' = h ∧ 0 ≤ z ∧ z ≤ D - T) noX := by
  refine wp_iconst d_72_0 ?_
  refine wp_istore_n d_72_1 (by decide) ?_
  refine wp_iconst d_72_2 ?_
  refine wp_istore_n d_72_3 (by decide) ?_
  have t0 := kp.up hT 0 (by omega)
  refine wp_to [some (vR (some (w + 146))), some (vI (0)), some (vI (0))] ⟨rfl, rfl, rfl, trivial⟩ ?_
  exact l_inRides hS hT kp n 0 0 (by omega) (by omega) ⟨by omega, by have : tmJ h w ((0 : Nat) : Int) = tmJ h w 0 := rfl; omega⟩
set_option maxRecDepth 100000 in
set_option maxHeartbeats 4000000 in
theorem s_moving {w X : Nat} {o d T D : Int} {K n : Nat} {h : Hp} (hS : Sk h w) (hT : TT h w X) (kp : Kp h w o d T D K n) : wp 24 0 (entL [vR (some w)] (mL 24)) [] h (fun v h' => ∃ b, v = some (vD b) ∧ h' = h ∧ (FP.dcmp b FP.dconst0 = some .gt ∨ FP.dcmp b FP.dconst0 = some .eq) ∧ (FP.dcmp b FP.dconst1 = some .lt ∨ FP.dcmp b FP.dconst1 = some .eq)) noX := by
  have hS9 := hS
  obtain ⟨⟨k1, k2, k3, k4, k5, k6, k7⟩, ⟨n1, ⟨n2, n3, n4, n5⟩, ⟨n6, n7⟩, ⟨n8, n9⟩, ⟨n10, n11⟩, n12, n13⟩, ⟨m1, ⟨m2, m3, m4⟩, ⟨m5, m6⟩, ⟨m7, m8⟩, m9, m10⟩, ⟨o1, ⟨o2, o3, o4⟩, ⟨o5, o6, o7⟩, ⟨o8, o9, o10⟩, o11, o12⟩, ⟨b1, ⟨b2, b3⟩, ⟨b4, b5, b6⟩, b7, b8, b9⟩, ⟨j1, ⟨j2, j3, j4, j5, j6, j7, j8⟩, ⟨j9, j10⟩, j11⟩⟩ := hS
  obtain ⟨x1, x2⟩ := j11 0 (by decide)
  obtain ⟨y1, y2⟩ := j11 1 (by decide)
  obtain ⟨z1, z2⟩ := j11 2 (by decide)
  obtain ⟨p1, p2⟩ := j11 3 (by decide)
  obtain ⟨q1, q2⟩ := j11 4 (by decide)
  obtain ⟨s1, s2⟩ := j11 5 (by decide)
  rw [Nat.add_zero] at x1 x2
  have y1 : kd h (w + 149) = 100 := y1
  have y2 : ln h (w + 149) = 13 := y2
  have z1 : kd h (w + 150) = 100 := z1
  have z2 : ln h (w + 150) = 13 := z2
  have p1 : kd h (w + 151) = 100 := p1
  have p2 : ln h (w + 151) = 13 := p2
  have q1 : kd h (w + 152) = 100 := q1
  have q2 : ln h (w + 152) = 13 := q2
  have s1 : kd h (w + 153) = 100 := s1
  have s2 : ln h (w + 153) = 13 := s2
  have sz0 : szJ h w = hi h (w + 146) 4 := rfl
  have hk0 := kp.1
  have kL := kp.2.2.2.2.2.2.2.2.2.2.2
  refine wp_aload_n d_24_0 (by rfl) ?_
  refine wp_getR (6) d_24_1 fl_0_54 rfl rfl (by assumption) (by assumption) ?_
  refine wp_getI (0) d_24_4 fl_0_219 rfl rfl (by assumption) (fun x_4 e_4 r_4 => ?_)
  subst e_4
  refine wp_if_eq (tgt := 20) d_24_7 (by decide) (by omega) (fun c_7 => ?_) (fun c_7 => ?_)
  · exact absurd c_7 (by omega)
  refine wp_aload_n d_24_10 (by rfl) ?_
  refine wp_getR (6) d_24_11 fl_0_54 rfl rfl (by assumption) (by assumption) ?_
  refine wp_callV d_24_14 c_24_256 rfl (by rfl) (by rfl) ⟨6, rfl, rfl, by decide⟩ (by assumption) (by exact Nat.le_of_ble_eq_true rfl) (by exact Nat.le_of_ble_eq_true rfl) (s_inAll hS9 hT kp) (fun v_14 h_14 q_14 => ?_) (fun _ _ q => q.elim)
  obtain ⟨rfl, z_14⟩ := q_14
  replace z_14 := z_14.symm
  subst z_14
  refine wp_goto (tgt := 21) d_24_17 (by decide) ?_
  refine wp_istore_n d_24_21 (by decide) ?_
  refine wp_iload_n d_24_22 (by rfl) ?_
  refine wp_if_gt (tgt := 28) d_24_23 (by decide) (by omega) (fun c_23 => ?_) (fun c_23 => ?_)
  · refine wp_aload_n d_24_28 (by rfl) ?_
    refine wp_getR (6) d_24_29 fl_0_54 rfl rfl (by assumption) (by assumption) ?_
    refine wp_callV d_24_32 c_24_259 rfl (by rfl) (by rfl) ⟨6, rfl, rfl, by decide⟩ (by assumption) (by exact Nat.le_of_ble_eq_true rfl) (by exact Nat.le_of_ble_eq_true rfl) (s_inRides hS9 hT kp) (fun v_32 h_32 q_32 => ?_) (fun _ _ q => q.elim)
    obtain ⟨z_32, rfl, y_32, u_32⟩ := q_32
    replace y_32 := y_32.symm
    subst y_32
    have fpp := fp_part u_32.1 u_32.2 (by omega) (by omega)
    refine wp_i2d d_24_35 ?_
    refine wp_iload_n d_24_36 (by rfl) ?_
    refine wp_i2d d_24_37 ?_
    refine wp_ddiv d_24_38 fpp.1 ?_
    refine wp_dret d_24_39 rfl ?_
    first
      | exact ⟨_, rfl, rfl, fpp.2⟩
      | exact ⟨_, rfl, rfl, Or.inr (by decide +kernel), Or.inl (by decide +kernel)⟩
  · refine wp_dconst0 d_24_26 ?_
    refine wp_dret d_24_27 rfl ?_
    first
      | exact ⟨_, rfl, rfl, fpp.2⟩
      | exact ⟨_, rfl, rfl, Or.inr (by decide +kernel), Or.inl (by decide +kernel)⟩
