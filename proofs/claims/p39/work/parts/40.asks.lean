/-! ===== what is asked of the search onwards ===== -/
set_option maxRecDepth 100000 in
set_option maxHeartbeats 4000000 in
theorem s_needIndex {x n : Int} {h : Hp} (h0 : 0 ≤ x) (h1 : x < n) (h2 : n ≤ 1000000) : wp 2 0 (entL [vI x, vI n] (mL 2)) [] h (fun v h' => v = none ∧ h' = h) noX := by
  refine wp_iload_n d_2_0 (by rfl) ?_
  refine wp_if_lt (tgt := 9) d_2_1 (by decide) (by omega) (fun c_1 => ?_) (fun c_1 => ?_)
  · exact absurd c_1 (by omega)
  refine wp_iload_n d_2_4 (by rfl) ?_
  refine wp_iload_n d_2_5 (by rfl) ?_
  refine wp_icmp_lt (tgt := 20) d_2_6 (by decide) (by omega) (by omega) (fun c_6 => ?_) (fun c_6 => ?_)
  rotate_left
  · exact absurd c_6 (by omega)
  refine wp_vret d_2_20 rfl ?_
  exact ⟨rfl, rfl⟩
set_option maxRecDepth 100000 in
set_option maxHeartbeats 4000000 in
theorem s_needArgument {x : Int} {h : Hp} (h0 : x = 1) : wp 5 0 (entL [vI x] (mL 5)) [] h (fun v h' => v = none ∧ h' = h) noX := by
  refine wp_iload_n d_5_0 (by rfl) ?_
  refine wp_if_ne (tgt := 15) d_5_1 (by decide) (by omega) (fun c_1 => ?_) (fun c_1 => ?_)
  rotate_left
  · exact absurd c_1 (by omega)
  refine wp_vret d_5_15 rfl ?_
  exact ⟨rfl, rfl⟩
set_option maxRecDepth 100000 in
set_option maxHeartbeats 4000000 in
theorem s_needState {x : Int} {h : Hp} (h0 : x = 1) : wp 17 0 (entL [vI x] (mL 17)) [] h (fun v h' => v = none ∧ h' = h) noX := by
  refine wp_iload_n d_17_0 (by rfl) ?_
  refine wp_if_ne (tgt := 15) d_17_1 (by decide) (by omega) (fun c_1 => ?_) (fun c_1 => ?_)
  rotate_left
  · exact absurd c_1 (by omega)
  refine wp_vret d_17_15 rfl ?_
  exact ⟨rfl, rfl⟩
set_option maxRecDepth 100000 in
set_option maxHeartbeats 4000000 in
theorem s_needTime {x : Int} {h : Hp} (h0 : 0 ≤ x ∧ x ≤ 500000) : wp 3 0 (entL [vI x] (mL 3)) [] h (fun v h' => v = none ∧ h' = h) noX := by
  refine wp_iload_n d_3_0 (by rfl) ?_
  refine wp_iconst d_3_1 ?_
  refine wp_ldcw (500000) d_3_2 ck_0_294 (by decide) ?_
  refine wp_callS d_3_5 c_3_58 rfl (by rfl) (by rfl) (by exact Nat.le_of_ble_eq_true rfl) (by exact Nat.le_of_ble_eq_true rfl) (s_isW (by omega) (by omega) (by omega)) (fun v_5 h_5 q_5 => ?_) (fun _ _ q => q.elim)
  obtain ⟨z_5, rfl, y_5, u_5⟩ := q_5
  replace y_5 := y_5.symm
  subst y_5
  refine wp_callS d_3_8 c_3_62 rfl (by rfl) (by rfl) (by exact Nat.le_of_ble_eq_true rfl) (by exact Nat.le_of_ble_eq_true rfl) (s_needArgument (by omega)) (fun v_8 h_8 q_8 => ?_) (fun _ _ q => q.elim)
  obtain ⟨rfl, z_8⟩ := q_8
  replace z_8 := z_8.symm
  subst z_8
  refine wp_vret d_3_11 rfl ?_
  exact ⟨rfl, rfl⟩
set_option maxRecDepth 100000 in
set_option maxHeartbeats 4000000 in
theorem s_needStop {w : Nat} {x : Int} {h : Hp} (hS : Sk h w) (h0 : 0 ≤ x ∧ x < hi h (w + 1) 4) (h1 : hi h (w + 1) 4 ≤ 16) : wp 1 0 (entL [vR (some w), vI x] (mL 1)) [] h (fun v h' => v = none ∧ h' = h) noX := by
  obtain ⟨⟨k1, k2, k3, k4, k5, k6, k7⟩, ⟨n1, ⟨n2, n3, n4, n5⟩, ⟨n6, n7⟩, ⟨n8, n9⟩, ⟨n10, n11⟩, n12, n13⟩, ⟨m1, ⟨m2, m3, m4⟩, ⟨m5, m6⟩, ⟨m7, m8⟩, m9, m10⟩, ⟨o1, ⟨o2, o3, o4⟩, ⟨o5, o6, o7⟩, ⟨o8, o9, o10⟩, o11, o12⟩, ⟨b1, ⟨b2, b3⟩, ⟨b4, b5, b6⟩, b7, b8, b9⟩, ⟨j1, ⟨j2, j3, j4, j5, j6, j7, j8⟩, ⟨j9, j10⟩, j11⟩⟩ := hS
  refine wp_iload_n d_1_0 (by rfl) ?_
  refine wp_aload_n d_1_1 (by rfl) ?_
  refine wp_getR (0) d_1_2 fl_0_12 rfl rfl (by assumption) (by assumption) ?_
  refine wp_getI (4) d_1_5 fl_0_66 rfl rfl (by assumption) (fun x_5 e_5 r_5 => ?_)
  refine wp_callS d_1_8 c_1_107 rfl (by rfl) (by rfl) (by exact Nat.le_of_ble_eq_true rfl) (by exact Nat.le_of_ble_eq_true rfl) (s_needIndex h0.1 (by omega) (by omega)) (fun v_8 h_8 q_8 => ?_) (fun _ _ q => q.elim)
  obtain ⟨rfl, z_8⟩ := q_8
  replace z_8 := z_8.symm
  subst z_8
  refine wp_vret d_1_11 rfl ?_
  exact ⟨rfl, rfl⟩
set_option maxRecDepth 100000 in
set_option maxHeartbeats 4000000 in
theorem s_needTrip {w : Nat} {x : Int} {h : Hp} (hS : Sk h w) (h0 : 0 ≤ x ∧ x < hi h (w + 1) 7) (h1 : hi h (w + 1) 7 ≤ 24) : wp 28 0 (entL [vR (some w), vI x] (mL 28)) [] h (fun v h' => v = none ∧ h' = h) noX := by
  obtain ⟨⟨k1, k2, k3, k4, k5, k6, k7⟩, ⟨n1, ⟨n2, n3, n4, n5⟩, ⟨n6, n7⟩, ⟨n8, n9⟩, ⟨n10, n11⟩, n12, n13⟩, ⟨m1, ⟨m2, m3, m4⟩, ⟨m5, m6⟩, ⟨m7, m8⟩, m9, m10⟩, ⟨o1, ⟨o2, o3, o4⟩, ⟨o5, o6, o7⟩, ⟨o8, o9, o10⟩, o11, o12⟩, ⟨b1, ⟨b2, b3⟩, ⟨b4, b5, b6⟩, b7, b8, b9⟩, ⟨j1, ⟨j2, j3, j4, j5, j6, j7, j8⟩, ⟨j9, j10⟩, j11⟩⟩ := hS
  refine wp_iload_n d_28_0 (by rfl) ?_
  refine wp_aload_n d_28_1 (by rfl) ?_
  refine wp_getR (0) d_28_2 fl_0_12 rfl rfl (by assumption) (by assumption) ?_
  refine wp_getI (7) d_28_5 fl_0_117 rfl rfl (by assumption) (fun x_5 e_5 r_5 => ?_)
  refine wp_callS d_28_8 c_28_107 rfl (by rfl) (by rfl) (by exact Nat.le_of_ble_eq_true rfl) (by exact Nat.le_of_ble_eq_true rfl) (s_needIndex h0.1 (by omega) (by omega)) (fun v_8 h_8 q_8 => ?_) (fun _ _ q => q.elim)
  obtain ⟨rfl, z_8⟩ := q_8
  replace z_8 := z_8.symm
  subst z_8
  refine wp_vret d_28_11 rfl ?_
  exact ⟨rfl, rfl⟩
set_option maxRecDepth 100000 in
set_option maxHeartbeats 4000000 in
theorem s_endOf {w K : Nat} {s : Int} {h : Hp} (hS : Sk h w) (hK : K ≤ 6) (h0 : 0 ≤ s ∧ s < 16) : wp 87 0 (entL [vR (some (w + 12)), vI s, vI (K : Int)] (mL 87)) [] h (fun v h' => v = some (vI (hi h (w + 14 + K) s)) ∧ h' = h) noX := by
  obtain ⟨⟨k1, k2, k3, k4, k5, k6, k7⟩, ⟨n1, ⟨n2, n3, n4, n5⟩, ⟨n6, n7⟩, ⟨n8, n9⟩, ⟨n10, n11⟩, n12, n13⟩, ⟨m1, ⟨m2, m3, m4⟩, ⟨m5, m6⟩, ⟨m7, m8⟩, m9, m10⟩, ⟨o1, ⟨o2, o3, o4⟩, ⟨o5, o6, o7⟩, ⟨o8, o9, o10⟩, o11, o12⟩, ⟨b1, ⟨b2, b3⟩, ⟨b4, b5, b6⟩, b7, b8, b9⟩, ⟨j1, ⟨j2, j3, j4, j5, j6, j7, j8⟩, ⟨j9, j10⟩, j11⟩⟩ := hS
  obtain ⟨r1, r2, r3⟩ := o7 K (by omega)
  refine wp_iload_n d_87_0 (by rfl) ?_
  refine wp_iconst d_87_1 ?_
  refine wp_bipush d_87_2 (by decide) ?_
  refine wp_callSn d_87_4 c_87_24 rfl (by rfl) (by rfl) (by exact Nat.le_of_ble_eq_true rfl) (by exact Nat.le_of_ble_eq_true rfl) (s_isW (by omega) (by omega) (by omega)) (fun v_4 h_4 q_4 => ?_) (fun _ _ q => q.elim)
  obtain ⟨z_4, rfl, y_4, u_4⟩ := q_4
  replace y_4 := y_4.symm
  subst y_4
  refine wp_if_eq (tgt := 21) d_87_7 (by decide) (by omega) (fun c_7 => ?_) (fun c_7 => ?_)
  · exact absurd c_7 (by omega)
  refine wp_aload_n d_87_10 (by rfl) ?_
  refine wp_getR (0) d_87_11 fl_9_11 rfl rfl (by assumption) (by assumption) ?_
  refine wp_iload_n d_87_14 (by rfl) ?_
  refine wp_aald d_87_15 (by first | omega | (simp only [kd_setI, kd_cpI]; omega)) (by first | omega | (simp only [kd_setI, kd_cpI]; omega)) (by apply isRf_of; assumption; rfl) (by omega) (by omega) (by assumption) ?_
  refine wp_iload_n d_87_16 (by rfl) ?_
  refine wp_iald d_87_17 (Or.inl (by assumption)) (by omega) (by omega) (fun x_17 e_17 r_17 => ?_)
  refine wp_goto (tgt := 23) d_87_18 (by decide) ?_
  refine wp_iret d_87_23 rfl ?_
  exact ⟨by rw [e_17], rfl⟩
set_option maxRecDepth 100000 in
set_option maxHeartbeats 4000000 in
theorem s_isReached {w : Nat} {s : Int} {h : Hp} (hS : Sk h w) (h0 : 0 ≤ s ∧ s < 16) : wp 88 0 (entL [vR (some (w + 12)), vI s] (mL 88)) [] h (fun v h' => ∃ z, v = some (vI z) ∧ h' = h ∧ ((z = 1 ∧ hi h (w + 14 + 6) s < 1000000000) ∨ (z = 0 ∧ 1000000000 ≤ hi h (w + 14 + 6) s))) noX := by
  obtain ⟨⟨k1, k2, k3, k4, k5, k6, k7⟩, ⟨n1, ⟨n2, n3, n4, n5⟩, ⟨n6, n7⟩, ⟨n8, n9⟩, ⟨n10, n11⟩, n12, n13⟩, ⟨m1, ⟨m2, m3, m4⟩, ⟨m5, m6⟩, ⟨m7, m8⟩, m9, m10⟩, ⟨o1, ⟨o2, o3, o4⟩, ⟨o5, o6, o7⟩, ⟨o8, o9, o10⟩, o11, o12⟩, ⟨b1, ⟨b2, b3⟩, ⟨b4, b5, b6⟩, b7, b8, b9⟩, ⟨j1, ⟨j2, j3, j4, j5, j6, j7, j8⟩, ⟨j9, j10⟩, j11⟩⟩ := hS
  obtain ⟨r1, r2, r3⟩ := o7 6 (by omega)
  refine wp_aload_n d_88_0 (by rfl) ?_
  refine wp_getR (0) d_88_1 fl_9_11 rfl rfl (by assumption) (by assumption) ?_
  refine wp_bipush d_88_4 (by decide) ?_
  refine wp_aald d_88_6 (by first | omega | (simp only [kd_setI, kd_cpI]; omega)) (by first | omega | (simp only [kd_setI, kd_cpI]; omega)) (by apply isRf_of; assumption; rfl) (by omega) (by omega) (by assumption) ?_
  refine wp_iload_n d_88_7 (by rfl) ?_
  refine wp_iald d_88_8 (Or.inl (by assumption)) (by omega) (by omega) (fun x_8 e_8 r_8 => ?_)
  refine wp_ldc (1000000000) d_88_9 ck_9_23 (by decide) ?_
  refine wp_icmp_ge (tgt := 18) d_88_11 (by decide) (by omega) (by omega) (fun c_11 => ?_) (fun c_11 => ?_)
  · refine wp_iconst d_88_18 ?_
    refine wp_zret d_88_19 rfl (by omega) ?_
    exact ⟨_, rfl, rfl, by omega⟩
  · refine wp_iconst d_88_14 ?_
    refine wp_goto (tgt := 19) d_88_15 (by decide) ?_
    refine wp_zret d_88_19 rfl (by omega) ?_
    exact ⟨_, rfl, rfl, by omega⟩
set_option maxRecDepth 100000 in
set_option maxHeartbeats 4000000 in
theorem l_fewest {w : Nat} {s : Int} {h : Hp} (hS0 : Sk h w) (h0 : 0 ≤ s ∧ s < 16) : ∀ (m K : Nat), K + m = 6 → (∀ j : Nat, j < K → hi h (w + 14 + 6) s < hi h (w + 14 + j) s) → wp 89 2 [some (vR (some (w + 12))), some (vI s), some (vI (K : Int))] [] h (fun v h' => h' = h ∧ ∃ k : Nat, v = some (vI (k : Int)) ∧ k ≤ 6 ∧ hi h (w + 14 + k) s ≤ hi h (w + 14 + 6) s ∧ ∀ j : Nat, j < k → hi h (w + 14 + 6) s < hi h (w + 14 + j) s) noX := by
  intro m
  induction m with
  | zero =>
    intro K e I
    have hS := hS0
    obtain ⟨⟨k1, k2, k3, k4, k5, k6, k7⟩, ⟨n1, ⟨n2, n3, n4, n5⟩, ⟨n6, n7⟩, ⟨n8, n9⟩, ⟨n10, n11⟩, n12, n13⟩, ⟨m1, ⟨m2, m3, m4⟩, ⟨m5, m6⟩, ⟨m7, m8⟩, m9, m10⟩, ⟨o1, ⟨o2, o3, o4⟩, ⟨o5, o6, o7⟩, ⟨o8, o9, o10⟩, o11, o12⟩, ⟨b1, ⟨b2, b3⟩, ⟨b4, b5, b6⟩, b7, b8, b9⟩, ⟨j1, ⟨j2, j3, j4, j5, j6, j7, j8⟩, ⟨j9, j10⟩, j11⟩⟩ := hS
    obtain ⟨r1, r2, r3⟩ := o7 K (by omega)
    obtain ⟨r4, r5, r6⟩ := o7 6 (by omega)
    obtain rfl : K = 6 := by omega
    refine wp_iload_n d_89_2 (by rfl) ?_
    refine wp_bipush d_89_3 (by decide) ?_
    refine wp_icmp_ge (tgt := 34) d_89_5 (by decide) (by omega) (by omega) (fun c_5 => ?_) (fun c_5 => ?_)
    rotate_left
    · exact absurd c_5 (by omega)
    refine wp_iload_n d_89_34 (by rfl) ?_
    refine wp_iret d_89_35 rfl ?_
    exact ⟨rfl, 6, rfl, by omega, Int.le_refl _, I⟩
  | succ m ih =>
    intro K e I
    have hS := hS0
    obtain ⟨⟨k1, k2, k3, k4, k5, k6, k7⟩, ⟨n1, ⟨n2, n3, n4, n5⟩, ⟨n6, n7⟩, ⟨n8, n9⟩, ⟨n10, n11⟩, n12, n13⟩, ⟨m1, ⟨m2, m3, m4⟩, ⟨m5, m6⟩, ⟨m7, m8⟩, m9, m10⟩, ⟨o1, ⟨o2, o3, o4⟩, ⟨o5, o6, o7⟩, ⟨o8, o9, o10⟩, o11, o12⟩, ⟨b1, ⟨b2, b3⟩, ⟨b4, b5, b6⟩, b7, b8, b9⟩, ⟨j1, ⟨j2, j3, j4, j5, j6, j7, j8⟩, ⟨j9, j10⟩, j11⟩⟩ := hS
    obtain ⟨r1, r2, r3⟩ := o7 K (by omega)
    obtain ⟨r4, r5, r6⟩ := o7 6 (by omega)
    refine wp_iload_n d_89_2 (by rfl) ?_
    refine wp_bipush d_89_3 (by decide) ?_
    refine wp_icmp_ge (tgt := 34) d_89_5 (by decide) (by omega) (by omega) (fun c_5 => ?_) (fun c_5 => ?_)
    · exact absurd c_5 (by omega)
    refine wp_aload_n d_89_8 (by rfl) ?_
    refine wp_getR (0) d_89_9 fl_9_11 rfl rfl (by assumption) (by assumption) ?_
    refine wp_iload_n d_89_12 (by rfl) ?_
    refine wp_aald d_89_13 (by first | omega | (simp only [kd_setI, kd_cpI]; omega)) (by first | omega | (simp only [kd_setI, kd_cpI]; omega)) (by apply isRf_of; assumption; rfl) (by omega) (by omega) (by assumption) ?_
    refine wp_iload_n d_89_14 (by rfl) ?_
    refine wp_iald d_89_15 (Or.inl (by assumption)) (by omega) (by omega) (fun x_15 e_15 r_15 => ?_)
    refine wp_aload_n d_89_16 (by rfl) ?_
    refine wp_getR (0) d_89_17 fl_9_11 rfl rfl (by assumption) (by assumption) ?_
    refine wp_bipush d_89_20 (by decide) ?_
    refine wp_aald d_89_22 (by first | omega | (simp only [kd_setI, kd_cpI]; omega)) (by first | omega | (simp only [kd_setI, kd_cpI]; omega)) (by apply isRf_of; assumption; rfl) (by omega) (by omega) (by assumption) ?_
    refine wp_iload_n d_89_23 (by rfl) ?_
    refine wp_iald d_89_24 (Or.inl (by assumption)) (by omega) (by omega) (fun x_24 e_24 r_24 => ?_)
    refine wp_icmp_le (tgt := 34) d_89_25 (by decide) (by omega) (by omega) (fun c_25 => ?_) (fun c_25 => ?_)
    · refine wp_iload_n d_89_34 (by rfl) ?_
      refine wp_iret d_89_35 rfl ?_
      exact ⟨rfl, K, rfl, by omega, by omega, I⟩
    · refine wp_iinc d_89_28 (by rfl) (by decide) ?_
      refine wp_goto (tgt := 2) d_89_31 (by decide) ?_
      refine wp_to [some (vR (some (w + 12))), some (vI s), some (vI ((K + 1 : Nat) : Int))] ⟨rfl, rfl, rfl, trivial⟩ ?_
      refine ih (K + 1) (by omega) (fun j hj => ?_)
      by_cases z : j = K
      · subst z
        rw [← e_15, ← e_24]
        omega
      · exact I j (by omega)
set_option maxRecDepth 100000 in
set_option maxHeartbeats 4000000 in
theorem s_fewest {w : Nat} {s : Int} {h : Hp} (hS : Sk h w) (h0 : 0 ≤ s ∧ s < 16) : wp 89 0 (entL [vR (some (w + 12)), vI s] (mL 89)) [] h (fun v h' => h' = h ∧ ∃ k : Nat, v = some (vI (k : Int)) ∧ k ≤ 6 ∧ hi h (w + 14 + k) s ≤ hi h (w + 14 + 6) s ∧ ∀ j : Nat, j < k → hi h (w + 14 + 6) s < hi h (w + 14 + j) s) noX := by
  refine wp_iconst d_89_0 ?_
  refine wp_istore_n d_89_1 (by decide) ?_
  refine wp_to [some (vR (some (w + 12))), some (vI s), some (vI ((0 : Nat) : Int))] ⟨rfl, rfl, rfl, trivial⟩ ?_
  exact l_fewest hS h0 6 0 (by omega) (fun j hj => by omega)
/-- the least end of a journey from o at T to d, with K rides at most, as it is told -/
abbrev Ea (h : Hp) (w : Nat) (o T V : Int) (K : Nat) (d e : Int) : Prop := JL (hi h (w + 2)) (Wy h w) (Ra h w) o T (T + V) K d e
theorem OnW.cov {h0 h : Hp} {w X : Nat} {o T L : Int} (hT0 : TT h0 w X) (q : OnW h0 h w o T L) : ∀ r i j, Ra h0 w r → 0 ≤ i → i < j → j < rz r → T ≤ rd r i → ra r j ≤ L → Rc h w r := by
  rintro r i j ⟨t, a, d, z0, z1, z2, z3, rfl⟩ i0 i1 i2 i3 i4
  obtain ⟨a', c, g1, g2, g3, ⟨t1, t2, t3, t4, t5, t6, t7, t8⟩, -⟩ := hT0.2.2.2.2.2.1 t z0 z1
  cases z2.symm.trans g1
  have i2' : j < hi h0 a 7 := i2
  have i3' : T ≤ baseOf h0 a d + hi h0 (a + 3) i := i3
  have i4' : baseOf h0 a d + hi h0 (a + 2) j ≤ L := i4
  refine q.2.1 t d a z0 z1 ⟨z2, z3, by omega, ?_, ?_⟩
  · have := t6 0 j (by omega) (by omega) i2'
    omega
  · have x1 := t6 i (hi h0 a 7 - 1) i0 (by omega) (by omega)
    have x2 := t5 (hi h0 a 7 - 1) (by omega) (by omega)
    omega
theorem OnW.net {h0 h : Hp} {w X : Nat} {P R : Nat → Prop} {o T L : Int} (hT0 : TT h0 w X) (e : fm P R h0 h) (of : Off w X P R) (q : OnW h0 h w o T L) : ∀ r, Rc h w r → Ra h0 w r := fun r z => by
  have z9 := q.1.sub z
  rw [Ra.kept hT0 e of] at z9
  exact z9
theorem OnW.ea {h0 h : Hp} {w X : Nat} {P R : Nat → Prop} {o T V d : Int} (hT0 : TT h0 w X) (e : fm P R h0 h) (of : Off w X P R) (ho : 0 ≤ o ∧ o < hi h0 (w + 1) 4) (hd : 0 ≤ d ∧ d < hi h0 (w + 1) 4) (q : OnW h0 h w o T (T + V)) {K : Nat} (hK : K ≤ 6) : Ea h0 w o T V K d (hi h (w + 14 + K) d) := by
  obtain ⟨f, y, E⟩ := q.2.2 K hK
  exact JL.runs hT0.net ho (q.net hT0 e of) (q.cov hT0) (E.le hd)
theorem Ea.bd {h : Hp} {w X : Nat} {o T V d e : Int} {K : Nat} (hT : TT h w X) (ho : 0 ≤ o ∧ o < hi h (w + 1) 4) (hV : 0 ≤ V) (hT0 : 0 ≤ T ∧ T + V ≤ 1000000) (q : Ea h w o T V K d e) : (T ≤ e ∧ e ≤ T + V) ∨ e = 1000000000 := by
  rcases q.1 with z | ⟨j, p, hj, he⟩
  · exact Or.inr z
  · exact Or.inl ⟨(JE.ge hT.net ho he).1, JE.le (by omega) he⟩
theorem Ea.kept {P R : Nat → Prop} {h h' : Hp} {w X : Nat} {o T V d e : Int} {K : Nat} (q : TT h w X) (e' : fm P R h h') (of : Off w X P R) : Ea h' w o T V K d e ↔ Ea h w o T V K d e := by
  unfold Ea
  rw [Wy.kept q e' of, Ra.kept q e' of, of.i e' q.2.2.2.2.2.2.1 (a := w + 2) (by omega) q.2.2.2.2.2.2.2]
/-- as an answer -/
def an (e : Int) : Int := if e < 1000000000 then e else -1
set_option maxRecDepth 100000 in
set_option maxHeartbeats 4000000 in
theorem s_leastEnd {w X K : Nat} {o T d : Int} {h0 : Hp} (hS0 : Sk h0 w) (hT0 : TT h0 w X) (ho : 0 ≤ o ∧ o < hi h0 (w + 1) 4) (hd : 0 ≤ d ∧ d < hi h0 (w + 1) 4) (hT : 0 ≤ T ∧ T ≤ 500000) (hK : K ≤ 6) : wp 6 0 (entL [vR (some w), vI o, vI d, vI T, vI (K : Int)] (mL 6)) [] h0 (fun v h' => ch (PO w) (PQ w) h0 h' ∧ ∃ e, v = some (vI (an e)) ∧ Ea h0 w o T 2880 K d e) noX := by
  have hS := hS0
  obtain ⟨⟨k1, k2, k3, k4, k5, k6, k7⟩, ⟨n1, ⟨n2, n3, n4, n5⟩, ⟨n6, n7⟩, ⟨n8, n9⟩, ⟨n10, n11⟩, n12, n13⟩, ⟨m1, ⟨m2, m3, m4⟩, ⟨m5, m6⟩, ⟨m7, m8⟩, m9, m10⟩, ⟨o1, ⟨o2, o3, o4⟩, ⟨o5, o6, o7⟩, ⟨o8, o9, o10⟩, o11, o12⟩, ⟨b1, ⟨b2, b3⟩, ⟨b4, b5, b6⟩, b7, b8, b9⟩, ⟨j1, ⟨j2, j3, j4, j5, j6, j7, j8⟩, ⟨j9, j10⟩, j11⟩⟩ := hS
  have hX := hT0.2.2.2.2.2.2
  have hn := hT0.1
  refine wp_aload_n d_6_0 (by rfl) ?_
  refine wp_getR (3) d_6_1 fl_0_33 rfl rfl (by first | assumption | exact hS2.1.1 | exact hS2.2.2.2.1.1) (by first | assumption | exact hS2.1.2.2.2.1) ?_
  refine wp_aload_n d_6_4 (by rfl) ?_
  refine wp_getR (0) d_6_5 fl_0_12 rfl rfl (by first | assumption | exact hS2.1.1 | exact hS2.2.2.2.1.1) (by first | assumption | exact hS2.1.2.2.2.1) ?_
  refine wp_aload_n d_6_8 (by rfl) ?_
  refine wp_getR (1) d_6_9 fl_0_19 rfl rfl (by first | assumption | exact hS2.1.1 | exact hS2.2.2.2.1.1) (by first | assumption | exact hS2.1.2.2.2.1) ?_
  refine wp_iload_n d_6_12 (by rfl) ?_
  refine wp_iload_n d_6_13 (by rfl) ?_
  refine wp_sipush d_6_14 (by decide) ?_
  refine wp_callV d_6_17 c_6_173 rfl (by rfl) (by rfl) ⟨9, rfl, rfl, by decide⟩ (by first | assumption | exact hS2.1.1 | exact hS2.2.2.2.1.1) (by exact Nat.le_of_ble_eq_true rfl) (by exact Nat.le_of_ble_eq_true rfl) (s_seek hS0 hT0 ho hT (by omega)) (fun v_17 h_17 q_17 => ?_) (fun _ _ q => q.elim)
  obtain ⟨rfl, E1, O1⟩ := q_17
  have hS2 : Sk h_17 w := hS0.kept E1.fm ((POoff (X := X)).pr hX.2) (by omega)
  have nn : hi h_17 (w + 1) 4 = hi h0 (w + 1) 4 := E1.2.2.2.2.2.2.2.1 _ _ (by unfold PO; omega)
  refine wp_aload_n d_6_20 (by rfl) ?_
  refine wp_getR (3) d_6_21 fl_0_33 rfl rfl (by first | assumption | exact hS2.1.1 | exact hS2.2.2.2.1.1) (by first | assumption | exact hS2.1.2.2.2.1) ?_
  refine wp_iload_n d_6_24 (by rfl) ?_
  refine wp_iload d_6_25 (by rfl) ?_
  refine wp_callV d_6_27 c_6_209 rfl (by rfl) (by rfl) ⟨9, rfl, rfl, by decide⟩ (by first | assumption | exact hS2.1.1 | exact hS2.2.2.2.1.1) (by exact Nat.le_of_ble_eq_true rfl) (by exact Nat.le_of_ble_eq_true rfl) (s_endOf hS2 hK (by omega)) (fun v_27 h_27 q_27 => ?_) (fun _ _ q => q.elim)
  obtain ⟨rfl, z_27⟩ := q_27
  replace z_27 := z_27.symm
  subst z_27
  have eA := O1.ea hT0 E1.fm POoff ho hd hK
  have eB := eA.bd hT0 ho (by omega) (by omega)
  refine wp_istore d_6_30 (by decide) ?_
  refine wp_iload d_6_32 (by rfl) ?_
  refine wp_ldc (1000000000) d_6_34 ck_0_197 (by decide) ?_
  refine wp_icmp_ge (tgt := 44) d_6_36 (by decide) (by omega) (by omega) (fun c_36 => ?_) (fun c_36 => ?_)
  · refine wp_iconst d_6_44 ?_
    refine wp_iret d_6_45 rfl ?_
    first
      | (refine ⟨E1, _, ?_, eA⟩; unfold an; rw [if_pos (by omega)])
      | (refine ⟨E1, _, ?_, eA⟩; unfold an; rw [if_neg (by omega)])
  · refine wp_iload d_6_39 (by rfl) ?_
    refine wp_goto (tgt := 45) d_6_41 (by decide) ?_
    refine wp_iret d_6_45 rfl ?_
    first
      | (refine ⟨E1, _, ?_, eA⟩; unfold an; rw [if_pos (by omega)])
      | (refine ⟨E1, _, ?_, eA⟩; unfold an; rw [if_neg (by omega)])
set_option maxRecDepth 100000 in
set_option maxHeartbeats 4000000 in
theorem s_earliest {w X : Nat} {o T d : Int} {h0 : Hp} (hS0 : Sk h0 w) (hT0 : TT h0 w X) (ho : 0 ≤ o ∧ o < hi h0 (w + 1) 4) (hd : 0 ≤ d ∧ d < hi h0 (w + 1) 4) (hT : 0 ≤ T ∧ T ≤ 500000) : wp 0 0 (entL [vR (some w), vI o, vI d, vI T] (mL 0)) [] h0 (fun v h' => ch (PO w) (PQ w) h0 h' ∧ ∃ e, v = some (vI (an e)) ∧ Ea h0 w o T 2880 6 d e) noX := by
  have hS := hS0
  obtain ⟨⟨k1, k2, k3, k4, k5, k6, k7⟩, ⟨n1, ⟨n2, n3, n4, n5⟩, ⟨n6, n7⟩, ⟨n8, n9⟩, ⟨n10, n11⟩, n12, n13⟩, ⟨m1, ⟨m2, m3, m4⟩, ⟨m5, m6⟩, ⟨m7, m8⟩, m9, m10⟩, ⟨o1, ⟨o2, o3, o4⟩, ⟨o5, o6, o7⟩, ⟨o8, o9, o10⟩, o11, o12⟩, ⟨b1, ⟨b2, b3⟩, ⟨b4, b5, b6⟩, b7, b8, b9⟩, ⟨j1, ⟨j2, j3, j4, j5, j6, j7, j8⟩, ⟨j9, j10⟩, j11⟩⟩ := hS
  have hX := hT0.2.2.2.2.2.2
  have hn := hT0.1
  refine wp_aload_n d_0_0 (by rfl) ?_
  refine wp_iload_n d_0_1 (by rfl) ?_
  refine wp_callV d_0_2 c_0_77 rfl (by rfl) (by rfl) ⟨0, rfl, rfl, by decide⟩ (by assumption) (by exact Nat.le_of_ble_eq_true rfl) (by exact Nat.le_of_ble_eq_true rfl) (s_needStop hS0 ho (by omega)) (fun v_2 h_2 q_2 => ?_) (fun _ _ q => q.elim)
  obtain ⟨rfl, z_2⟩ := q_2
  replace z_2 := z_2.symm
  subst z_2
  refine wp_aload_n d_0_5 (by rfl) ?_
  refine wp_iload_n d_0_6 (by rfl) ?_
  refine wp_callV d_0_7 c_0_77 rfl (by rfl) (by rfl) ⟨0, rfl, rfl, by decide⟩ (by assumption) (by exact Nat.le_of_ble_eq_true rfl) (by exact Nat.le_of_ble_eq_true rfl) (s_needStop hS0 hd (by omega)) (fun v_7 h_7 q_7 => ?_) (fun _ _ q => q.elim)
  obtain ⟨rfl, z_7⟩ := q_7
  replace z_7 := z_7.symm
  subst z_7
  refine wp_iload_n d_0_10 (by rfl) ?_
  refine wp_callS d_0_11 c_0_154 rfl (by rfl) (by rfl) (by exact Nat.le_of_ble_eq_true rfl) (by exact Nat.le_of_ble_eq_true rfl) (s_needTime hT) (fun v_11 h_11 q_11 => ?_) (fun _ _ q => q.elim)
  obtain ⟨rfl, z_11⟩ := q_11
  replace z_11 := z_11.symm
  subst z_11
  refine wp_aload_n d_0_14 (by rfl) ?_
  refine wp_iload_n d_0_15 (by rfl) ?_
  refine wp_iload_n d_0_16 (by rfl) ?_
  refine wp_iload_n d_0_17 (by rfl) ?_
  refine wp_bipush d_0_18 (by decide) ?_
  refine wp_callV d_0_20 c_0_169 rfl (by rfl) (by rfl) ⟨0, rfl, rfl, by decide⟩ (by assumption) (by exact Nat.le_of_ble_eq_true rfl) (by exact Nat.le_of_ble_eq_true rfl) (s_leastEnd (K := 6) hS0 hT0 ho hd hT (by omega)) (fun v_20 h_20 q_20 => ?_) (fun _ _ q => q.elim)
  obtain ⟨E1, e, rfl, eA⟩ := q_20
  refine wp_iret d_0_23 rfl ?_
  exact ⟨E1, e, rfl, eA⟩
set_option maxRecDepth 100000 in
set_option maxHeartbeats 4000000 in
theorem s_withRides {w X K : Nat} {o T d : Int} {h0 : Hp} (hS0 : Sk h0 w) (hT0 : TT h0 w X) (ho : 0 ≤ o ∧ o < hi h0 (w + 1) 4) (hd : 0 ≤ d ∧ d < hi h0 (w + 1) 4) (hT : 0 ≤ T ∧ T ≤ 500000) (hK : K ≤ 6) : wp 8 0 (entL [vR (some w), vI o, vI d, vI T, vI (K : Int)] (mL 8)) [] h0 (fun v h' => ch (PO w) (PQ w) h0 h' ∧ ∃ e, v = some (vI (an e)) ∧ Ea h0 w o T 2880 K d e) noX := by
  have hS := hS0
  obtain ⟨⟨k1, k2, k3, k4, k5, k6, k7⟩, ⟨n1, ⟨n2, n3, n4, n5⟩, ⟨n6, n7⟩, ⟨n8, n9⟩, ⟨n10, n11⟩, n12, n13⟩, ⟨m1, ⟨m2, m3, m4⟩, ⟨m5, m6⟩, ⟨m7, m8⟩, m9, m10⟩, ⟨o1, ⟨o2, o3, o4⟩, ⟨o5, o6, o7⟩, ⟨o8, o9, o10⟩, o11, o12⟩, ⟨b1, ⟨b2, b3⟩, ⟨b4, b5, b6⟩, b7, b8, b9⟩, ⟨j1, ⟨j2, j3, j4, j5, j6, j7, j8⟩, ⟨j9, j10⟩, j11⟩⟩ := hS
  have hX := hT0.2.2.2.2.2.2
  have hn := hT0.1
  refine wp_aload_n d_8_0 (by rfl) ?_
  refine wp_iload_n d_8_1 (by rfl) ?_
  refine wp_callV d_8_2 c_8_77 rfl (by rfl) (by rfl) ⟨0, rfl, rfl, by decide⟩ (by assumption) (by exact Nat.le_of_ble_eq_true rfl) (by exact Nat.le_of_ble_eq_true rfl) (s_needStop hS0 ho (by omega)) (fun v_2 h_2 q_2 => ?_) (fun _ _ q => q.elim)
  obtain ⟨rfl, z_2⟩ := q_2
  replace z_2 := z_2.symm
  subst z_2
  refine wp_aload_n d_8_5 (by rfl) ?_
  refine wp_iload_n d_8_6 (by rfl) ?_
  refine wp_callV d_8_7 c_8_77 rfl (by rfl) (by rfl) ⟨0, rfl, rfl, by decide⟩ (by assumption) (by exact Nat.le_of_ble_eq_true rfl) (by exact Nat.le_of_ble_eq_true rfl) (s_needStop hS0 hd (by omega)) (fun v_7 h_7 q_7 => ?_) (fun _ _ q => q.elim)
  obtain ⟨rfl, z_7⟩ := q_7
  replace z_7 := z_7.symm
  subst z_7
  refine wp_iload_n d_8_10 (by rfl) ?_
  refine wp_callS d_8_11 c_8_154 rfl (by rfl) (by rfl) (by exact Nat.le_of_ble_eq_true rfl) (by exact Nat.le_of_ble_eq_true rfl) (s_needTime hT) (fun v_11 h_11 q_11 => ?_) (fun _ _ q => q.elim)
  obtain ⟨rfl, z_11⟩ := q_11
  replace z_11 := z_11.symm
  subst z_11
  refine wp_iload d_8_14 (by rfl) ?_
  refine wp_iconst d_8_16 ?_
  refine wp_bipush d_8_17 (by decide) ?_
  refine wp_callS d_8_19 c_8_58 rfl (by rfl) (by rfl) (by exact Nat.le_of_ble_eq_true rfl) (by exact Nat.le_of_ble_eq_true rfl) (s_isW (by omega) (by omega) (by omega)) (fun v_19 h_19 q_19 => ?_) (fun _ _ q => q.elim)
  obtain ⟨z_19, rfl, y_19, u_19⟩ := q_19
  replace y_19 := y_19.symm
  subst y_19
  refine wp_callS d_8_22 c_8_62 rfl (by rfl) (by rfl) (by exact Nat.le_of_ble_eq_true rfl) (by exact Nat.le_of_ble_eq_true rfl) (s_needArgument (by omega)) (fun v_22 h_22 q_22 => ?_) (fun _ _ q => q.elim)
  obtain ⟨rfl, z_22⟩ := q_22
  replace z_22 := z_22.symm
  subst z_22
  refine wp_aload_n d_8_25 (by rfl) ?_
  refine wp_iload_n d_8_26 (by rfl) ?_
  refine wp_iload_n d_8_27 (by rfl) ?_
  refine wp_iload_n d_8_28 (by rfl) ?_
  refine wp_iload d_8_29 (by rfl) ?_
  refine wp_callV d_8_31 c_8_169 rfl (by rfl) (by rfl) ⟨0, rfl, rfl, by decide⟩ (by assumption) (by exact Nat.le_of_ble_eq_true rfl) (by exact Nat.le_of_ble_eq_true rfl) (s_leastEnd (K := K) hS0 hT0 ho hd hT hK) (fun v_31 h_31 q_31 => ?_) (fun _ _ q => q.elim)
  obtain ⟨E1, e, rfl, eA⟩ := q_31
  refine wp_iret d_8_34 rfl ?_
  exact ⟨E1, e, rfl, eA⟩
set_option maxRecDepth 100000 in
set_option maxHeartbeats 4000000 in
theorem s_rides {w X : Nat} {o T d : Int} {h0 : Hp} (hS0 : Sk h0 w) (hT0 : TT h0 w X) (ho : 0 ≤ o ∧ o < hi h0 (w + 1) 4) (hd : 0 ≤ d ∧ d < hi h0 (w + 1) 4) (hT : 0 ≤ T ∧ T ≤ 500000) : wp 9 0 (entL [vR (some w), vI o, vI d, vI T] (mL 9)) [] h0 (fun v h' => ch (PO w) (PQ w) h0 h' ∧ ∃ e, Ea h0 w o T 2880 6 d e ∧ ((v = some (vI (-1)) ∧ e = 1000000000) ∨ (e < 1000000000 ∧ ∃ k : Nat, v = some (vI (k : Int)) ∧ k ≤ 6 ∧ Ea h0 w o T 2880 k d e ∧ ∀ j : Nat, j < k → ∀ e', Ea h0 w o T 2880 j d e' → e < e'))) noX := by
  have hS := hS0
  obtain ⟨⟨k1, k2, k3, k4, k5, k6, k7⟩, ⟨n1, ⟨n2, n3, n4, n5⟩, ⟨n6, n7⟩, ⟨n8, n9⟩, ⟨n10, n11⟩, n12, n13⟩, ⟨m1, ⟨m2, m3, m4⟩, ⟨m5, m6⟩, ⟨m7, m8⟩, m9, m10⟩, ⟨o1, ⟨o2, o3, o4⟩, ⟨o5, o6, o7⟩, ⟨o8, o9, o10⟩, o11, o12⟩, ⟨b1, ⟨b2, b3⟩, ⟨b4, b5, b6⟩, b7, b8, b9⟩, ⟨j1, ⟨j2, j3, j4, j5, j6, j7, j8⟩, ⟨j9, j10⟩, j11⟩⟩ := hS
  have hX := hT0.2.2.2.2.2.2
  have hn := hT0.1
  refine wp_aload_n d_9_0 (by rfl) ?_
  refine wp_iload_n d_9_1 (by rfl) ?_
  refine wp_callV d_9_2 c_9_77 rfl (by rfl) (by rfl) ⟨0, rfl, rfl, by decide⟩ (by first | assumption | exact hS2.1.1 | exact hS2.2.2.2.1.1) (by exact Nat.le_of_ble_eq_true rfl) (by exact Nat.le_of_ble_eq_true rfl) (s_needStop hS0 ho (by omega)) (fun v_2 h_2 q_2 => ?_) (fun _ _ q => q.elim)
  obtain ⟨rfl, z_2⟩ := q_2
  replace z_2 := z_2.symm
  subst z_2
  refine wp_aload_n d_9_5 (by rfl) ?_
  refine wp_iload_n d_9_6 (by rfl) ?_
  refine wp_callV d_9_7 c_9_77 rfl (by rfl) (by rfl) ⟨0, rfl, rfl, by decide⟩ (by first | assumption | exact hS2.1.1 | exact hS2.2.2.2.1.1) (by exact Nat.le_of_ble_eq_true rfl) (by exact Nat.le_of_ble_eq_true rfl) (s_needStop hS0 hd (by omega)) (fun v_7 h_7 q_7 => ?_) (fun _ _ q => q.elim)
  obtain ⟨rfl, z_7⟩ := q_7
  replace z_7 := z_7.symm
  subst z_7
  refine wp_iload_n d_9_10 (by rfl) ?_
  refine wp_callS d_9_11 c_9_154 rfl (by rfl) (by rfl) (by exact Nat.le_of_ble_eq_true rfl) (by exact Nat.le_of_ble_eq_true rfl) (s_needTime hT) (fun v_11 h_11 q_11 => ?_) (fun _ _ q => q.elim)
  obtain ⟨rfl, z_11⟩ := q_11
  replace z_11 := z_11.symm
  subst z_11
  refine wp_aload_n d_9_14 (by rfl) ?_
  refine wp_getR (3) d_9_15 fl_0_33 rfl rfl (by first | assumption | exact hS2.1.1 | exact hS2.2.2.2.1.1) (by first | assumption | exact hS2.1.2.2.2.1) ?_
  refine wp_aload_n d_9_18 (by rfl) ?_
  refine wp_getR (0) d_9_19 fl_0_12 rfl rfl (by first | assumption | exact hS2.1.1 | exact hS2.2.2.2.1.1) (by first | assumption | exact hS2.1.2.2.2.1) ?_
  refine wp_aload_n d_9_22 (by rfl) ?_
  refine wp_getR (1) d_9_23 fl_0_19 rfl rfl (by first | assumption | exact hS2.1.1 | exact hS2.2.2.2.1.1) (by first | assumption | exact hS2.1.2.2.2.1) ?_
  refine wp_iload_n d_9_26 (by rfl) ?_
  refine wp_iload_n d_9_27 (by rfl) ?_
  refine wp_sipush d_9_28 (by decide) ?_
  refine wp_callV d_9_31 c_9_173 rfl (by rfl) (by rfl) ⟨9, rfl, rfl, by decide⟩ (by first | assumption | exact hS2.1.1 | exact hS2.2.2.2.1.1) (by exact Nat.le_of_ble_eq_true rfl) (by exact Nat.le_of_ble_eq_true rfl) (s_seek hS0 hT0 ho hT (by omega)) (fun v_31 h_31 q_31 => ?_) (fun _ _ q => q.elim)
  obtain ⟨rfl, E1, O1⟩ := q_31
  have hS2 : Sk h_31 w := hS0.kept E1.fm ((POoff (X := X)).pr hX.2) (by omega)
  have nn : hi h_31 (w + 1) 4 = hi h0 (w + 1) 4 := E1.2.2.2.2.2.2.2.1 _ _ (by unfold PO; omega)
  have eA := O1.ea hT0 E1.fm POoff ho hd (Nat.le_refl 6)
  have eB := eA.bd hT0 ho (by omega) (by omega)
  refine wp_aload_n d_9_34 (by rfl) ?_
  refine wp_getR (3) d_9_35 fl_0_33 rfl rfl (by first | assumption | exact hS2.1.1 | exact hS2.2.2.2.1.1) (by first | assumption | exact hS2.1.2.2.2.1) ?_
  refine wp_iload_n d_9_38 (by rfl) ?_
  refine wp_callV d_9_39 c_9_177 rfl (by rfl) (by rfl) ⟨9, rfl, rfl, by decide⟩ (by first | assumption | exact hS2.1.1 | exact hS2.2.2.2.1.1) (by exact Nat.le_of_ble_eq_true rfl) (by exact Nat.le_of_ble_eq_true rfl) (s_isReached hS2 (by omega)) (fun v_39 h_39 q_39 => ?_) (fun _ _ q => q.elim)
  obtain ⟨z_39, rfl, y_39, u_39⟩ := q_39
  replace y_39 := y_39.symm
  subst y_39
  refine wp_if_eq (tgt := 56) d_9_42 (by decide) (by omega) (fun c_42 => ?_) (fun c_42 => ?_)
  · refine wp_iconst d_9_56 ?_
    refine wp_iret d_9_57 rfl ?_
    first
      | (exact ⟨E1, _, eA, Or.inl ⟨rfl, by omega⟩⟩)
      | (have ek := O1.ea hT0 E1.fm POoff ho hd g1
         have ek6 : hi h_31 (w + 14 + k) d = hi h_31 (w + 14 + 6) d := by
           have kb := ek.bd hT0 ho (by omega) (by omega)
           rcases ek.1 with z | ⟨j, p, hj, he⟩
           · omega
           · have := eA.2 j _ p (by omega) he
             omega
         exact ⟨E1, _, eA, Or.inr ⟨by omega, k, rfl, g1, by rw [← ek6]; exact ek, fun j hj e' he' => by
           rw [he'.uniq (by omega) (by omega) (O1.ea hT0 E1.fm POoff ho hd (K := j) (by omega))]
           exact g3 j hj⟩⟩)
  · refine wp_aload_n d_9_45 (by rfl) ?_
    refine wp_getR (3) d_9_46 fl_0_33 rfl rfl (by first | assumption | exact hS2.1.1 | exact hS2.2.2.2.1.1) (by first | assumption | exact hS2.1.2.2.2.1) ?_
    refine wp_iload_n d_9_49 (by rfl) ?_
    refine wp_callV d_9_50 c_9_180 rfl (by rfl) (by rfl) ⟨9, rfl, rfl, by decide⟩ (by first | assumption | exact hS2.1.1 | exact hS2.2.2.2.1.1) (by exact Nat.le_of_ble_eq_true rfl) (by exact Nat.le_of_ble_eq_true rfl) (s_fewest hS2 (by omega)) (fun v_50 h_50 q_50 => ?_) (fun _ _ q => q.elim)
    obtain ⟨z_50, k, rfl, g1, g2, g3⟩ := q_50
    replace z_50 := z_50.symm
    subst z_50
    refine wp_goto (tgt := 57) d_9_53 (by decide) ?_
    refine wp_iret d_9_57 rfl ?_
    first
      | (exact ⟨E1, _, eA, Or.inl ⟨rfl, by omega⟩⟩)
      | (have ek := O1.ea hT0 E1.fm POoff ho hd g1
         have ek6 : hi h_31 (w + 14 + k) d = hi h_31 (w + 14 + 6) d := by
           have kb := ek.bd hT0 ho (by omega) (by omega)
           rcases ek.1 with z | ⟨j, p, hj, he⟩
           · omega
           · have := eA.2 j _ p (by omega) he
             omega
         exact ⟨E1, _, eA, Or.inr ⟨by omega, k, rfl, g1, by rw [← ek6]; exact ek, fun j hj e' he' => by
           rw [he'.uniq (by omega) (by omega) (O1.ea hT0 E1.fm POoff ho hd (K := j) (by omega))]
           exact g3 j hj⟩⟩)
/-- a sum over stops -/
def sm (f : Int → Int) : Nat → Int
  | 0 => 0
  | k + 1 => sm f k + f k
theorem sm_congr {f g : Int → Int} : ∀ {n : Nat}, (∀ s : Nat, s < n → f s = g s) → sm f n = sm g n
  | 0, _ => rfl
  | n + 1, q => by
    show sm f n + f n = sm g n + g n
    rw [sm_congr (fun s hs => q s (by omega)), q n (by omega)]
theorem sm_bd {f : Int → Int} (q : ∀ s, f s = 0 ∨ f s = 1) : ∀ n : Nat, 0 ≤ sm f n ∧ sm f n ≤ n
  | 0 => ⟨Int.le_refl _, Int.le_refl _⟩
  | n + 1 => by
    have := sm_bd q n
    show 0 ≤ sm f n + f n ∧ sm f n + f n ≤ _
    have := q (n : Int)
    omega
/-- is there a journey that ends within V minutes? -/
def wi (e : Int) : Int := if e < 1000000000 then 1 else 0
set_option maxRecDepth 100000 in
set_option maxHeartbeats 4000000 in
theorem l_reached {w : Nat} {o T V : Int} {h : Hp} (hS1 : Sk h w) (hn : 0 ≤ hi h (w + 1) 4 ∧ hi h (w + 1) 4 ≤ 16) : ∀ (m s : Nat), (s : Int) + m = hi h (w + 1) 4 → wp 12 44 [some (vR (some w)), some (vI o), some (vI T), some (vI V), some (vI (sm (fun s => wi (hi h (w + 14 + 6) s)) s)), some (vI ((s : Int)))] [] h (fun v h' => v = some (vI (sm (fun s => wi (hi h (w + 14 + 6) s)) (hi h (w + 1) 4).toNat)) ∧ h' = h) noX := by
  have wb : ∀ s : Int, wi (hi h (w + 14 + 6) s) = 0 ∨ wi (hi h (w + 14 + 6) s) = 1 := fun s => by unfold wi; split <;> omega
  intro m
  induction m with
  | zero =>
    intro s e
    have hS := hS1
    obtain ⟨⟨k1, k2, k3, k4, k5, k6, k7⟩, ⟨n1, ⟨n2, n3, n4, n5⟩, ⟨n6, n7⟩, ⟨n8, n9⟩, ⟨n10, n11⟩, n12, n13⟩, ⟨m1, ⟨m2, m3, m4⟩, ⟨m5, m6⟩, ⟨m7, m8⟩, m9, m10⟩, ⟨o1, ⟨o2, o3, o4⟩, ⟨o5, o6, o7⟩, ⟨o8, o9, o10⟩, o11, o12⟩, ⟨b1, ⟨b2, b3⟩, ⟨b4, b5, b6⟩, b7, b8, b9⟩, ⟨j1, ⟨j2, j3, j4, j5, j6, j7, j8⟩, ⟨j9, j10⟩, j11⟩⟩ := hS
    have sb := sm_bd wb s
    refine wp_iload d_12_44 (by rfl) ?_
    refine wp_aload_n d_12_46 (by rfl) ?_
    refine wp_getR (0) d_12_47 fl_0_12 rfl rfl (by assumption) (by assumption) ?_
    refine wp_getI (4) d_12_50 fl_0_66 rfl rfl (by assumption) (fun x_50 e_50 r_50 => ?_)
    refine wp_icmp_ge (tgt := 77) d_12_53 (by decide) (by omega) (by omega) (fun c_53 => ?_) (fun c_53 => ?_)
    rotate_left
    · exact absurd c_53 (by omega)
    refine wp_iload d_12_77 (by rfl) ?_
    refine wp_iret d_12_79 rfl ?_
    exact ⟨by rw [show (hi h (w + 1) 4).toNat = s by omega], rfl⟩
  | succ m ih =>
    intro s e
    have hS := hS1
    obtain ⟨⟨k1, k2, k3, k4, k5, k6, k7⟩, ⟨n1, ⟨n2, n3, n4, n5⟩, ⟨n6, n7⟩, ⟨n8, n9⟩, ⟨n10, n11⟩, n12, n13⟩, ⟨m1, ⟨m2, m3, m4⟩, ⟨m5, m6⟩, ⟨m7, m8⟩, m9, m10⟩, ⟨o1, ⟨o2, o3, o4⟩, ⟨o5, o6, o7⟩, ⟨o8, o9, o10⟩, o11, o12⟩, ⟨b1, ⟨b2, b3⟩, ⟨b4, b5, b6⟩, b7, b8, b9⟩, ⟨j1, ⟨j2, j3, j4, j5, j6, j7, j8⟩, ⟨j9, j10⟩, j11⟩⟩ := hS
    have sb := sm_bd wb s
    refine wp_iload d_12_44 (by rfl) ?_
    refine wp_aload_n d_12_46 (by rfl) ?_
    refine wp_getR (0) d_12_47 fl_0_12 rfl rfl (by assumption) (by assumption) ?_
    refine wp_getI (4) d_12_50 fl_0_66 rfl rfl (by assumption) (fun x_50 e_50 r_50 => ?_)
    refine wp_icmp_ge (tgt := 77) d_12_53 (by decide) (by omega) (by omega) (fun c_53 => ?_) (fun c_53 => ?_)
    · exact absurd c_53 (by omega)
    refine wp_aload_n d_12_56 (by rfl) ?_
    refine wp_getR (3) d_12_57 fl_0_33 rfl rfl (by assumption) (by assumption) ?_
    refine wp_iload d_12_60 (by rfl) ?_
    refine wp_callV d_12_62 c_12_177 rfl (by rfl) (by rfl) ⟨9, rfl, rfl, by decide⟩ (by assumption) (by exact Nat.le_of_ble_eq_true rfl) (by exact Nat.le_of_ble_eq_true rfl) (s_isReached hS1 (by omega)) (fun v_62 h_62 q_62 => ?_) (fun _ _ q => q.elim)
    obtain ⟨z_62, rfl, y_62, u_62⟩ := q_62
    replace y_62 := y_62.symm
    subst y_62
    refine wp_if_eq (tgt := 71) d_12_65 (by decide) (by omega) (fun c_65 => ?_) (fun c_65 => ?_)
    · refine wp_iinc d_12_71 (by rfl) (by decide) ?_
      refine wp_goto (tgt := 44) d_12_74 (by decide) ?_
      first
        | (refine wp_to [some (vR (some w)), some (vI o), some (vI T), some (vI V), some (vI (sm (fun s => wi (hi h (w + 14 + 6) s)) s + 1)), some (vI ((s : Int) + 1))] ⟨rfl, rfl, rfl, rfl, rfl, rfl, trivial⟩ ?_
           refine cast ?_ (ih (s + 1) (by omega))
           have e9 : sm (fun s => wi (hi h (w + 14 + 6) s)) s + 1 = sm (fun s => wi (hi h (w + 14 + 6) s)) (s + 1) := by
             show _ = sm _ s + wi (hi h (w + 14 + 6) s)
             unfold wi
             rw [if_pos (by omega)]
           rw [← e9]
           rfl)
        | (refine wp_to [some (vR (some w)), some (vI o), some (vI T), some (vI V), some (vI (sm (fun s => wi (hi h (w + 14 + 6) s)) s)), some (vI ((s : Int) + 1))] ⟨rfl, rfl, rfl, rfl, rfl, rfl, trivial⟩ ?_
           refine cast ?_ (ih (s + 1) (by omega))
           have e9 : sm (fun s => wi (hi h (w + 14 + 6) s)) s = sm (fun s => wi (hi h (w + 14 + 6) s)) (s + 1) := by
             show _ = sm _ s + wi (hi h (w + 14 + 6) s)
             unfold wi
             rw [if_neg (by omega)]
             omega
           rw [← e9]
           rfl)
    · refine wp_iinc d_12_68 (by rfl) (by decide) ?_
      refine wp_iinc d_12_71 (by rfl) (by decide) ?_
      refine wp_goto (tgt := 44) d_12_74 (by decide) ?_
      first
        | (refine wp_to [some (vR (some w)), some (vI o), some (vI T), some (vI V), some (vI (sm (fun s => wi (hi h (w + 14 + 6) s)) s + 1)), some (vI ((s : Int) + 1))] ⟨rfl, rfl, rfl, rfl, rfl, rfl, trivial⟩ ?_
           refine cast ?_ (ih (s + 1) (by omega))
           have e9 : sm (fun s => wi (hi h (w + 14 + 6) s)) s + 1 = sm (fun s => wi (hi h (w + 14 + 6) s)) (s + 1) := by
             show _ = sm _ s + wi (hi h (w + 14 + 6) s)
             unfold wi
             rw [if_pos (by omega)]
           rw [← e9]
           rfl)
        | (refine wp_to [some (vR (some w)), some (vI o), some (vI T), some (vI V), some (vI (sm (fun s => wi (hi h (w + 14 + 6) s)) s)), some (vI ((s : Int) + 1))] ⟨rfl, rfl, rfl, rfl, rfl, rfl, trivial⟩ ?_
           refine cast ?_ (ih (s + 1) (by omega))
           have e9 : sm (fun s => wi (hi h (w + 14 + 6) s)) s = sm (fun s => wi (hi h (w + 14 + 6) s)) (s + 1) := by
             show _ = sm _ s + wi (hi h (w + 14 + 6) s)
             unfold wi
             rw [if_neg (by omega)]
             omega
           rw [← e9]
           rfl)
set_option maxRecDepth 100000 in
set_option maxHeartbeats 4000000 in
theorem s_reached {w X : Nat} {o T V : Int} {h0 : Hp} (hS0 : Sk h0 w) (hT0 : TT h0 w X) (ho : 0 ≤ o ∧ o < hi h0 (w + 1) 4) (hT : 0 ≤ T ∧ T ≤ 500000) (hV : 0 ≤ V ∧ V ≤ 2880) : wp 12 0 (entL [vR (some w), vI o, vI T, vI V] (mL 12)) [] h0 (fun v h' => ch (PO w) (PQ w) h0 h' ∧ ∃ e : Int → Int, v = some (vI (sm (fun s => wi (e s)) (hi h0 (w + 1) 4).toNat)) ∧ ∀ s, 0 ≤ s → s < hi h0 (w + 1) 4 → Ea h0 w o T V 6 s (e s)) noX := by
  have hS := hS0
  obtain ⟨⟨k1, k2, k3, k4, k5, k6, k7⟩, ⟨n1, ⟨n2, n3, n4, n5⟩, ⟨n6, n7⟩, ⟨n8, n9⟩, ⟨n10, n11⟩, n12, n13⟩, ⟨m1, ⟨m2, m3, m4⟩, ⟨m5, m6⟩, ⟨m7, m8⟩, m9, m10⟩, ⟨o1, ⟨o2, o3, o4⟩, ⟨o5, o6, o7⟩, ⟨o8, o9, o10⟩, o11, o12⟩, ⟨b1, ⟨b2, b3⟩, ⟨b4, b5, b6⟩, b7, b8, b9⟩, ⟨j1, ⟨j2, j3, j4, j5, j6, j7, j8⟩, ⟨j9, j10⟩, j11⟩⟩ := hS
  have hX := hT0.2.2.2.2.2.2
  have hn := hT0.1
  refine wp_aload_n d_12_0 (by rfl) ?_
  refine wp_iload_n d_12_1 (by rfl) ?_
  refine wp_callV d_12_2 c_12_77 rfl (by rfl) (by rfl) ⟨0, rfl, rfl, by decide⟩ (by assumption) (by exact Nat.le_of_ble_eq_true rfl) (by exact Nat.le_of_ble_eq_true rfl) (s_needStop hS0 ho (by omega)) (fun v_2 h_2 q_2 => ?_) (fun _ _ q => q.elim)
  obtain ⟨rfl, z_2⟩ := q_2
  replace z_2 := z_2.symm
  subst z_2
  refine wp_iload_n d_12_5 (by rfl) ?_
  refine wp_callS d_12_6 c_12_154 rfl (by rfl) (by rfl) (by exact Nat.le_of_ble_eq_true rfl) (by exact Nat.le_of_ble_eq_true rfl) (s_needTime hT) (fun v_6 h_6 q_6 => ?_) (fun _ _ q => q.elim)
  obtain ⟨rfl, z_6⟩ := q_6
  replace z_6 := z_6.symm
  subst z_6
  refine wp_iload_n d_12_9 (by rfl) ?_
  refine wp_iconst d_12_10 ?_
  refine wp_sipush d_12_11 (by decide) ?_
  refine wp_callS d_12_14 c_12_58 rfl (by rfl) (by rfl) (by exact Nat.le_of_ble_eq_true rfl) (by exact Nat.le_of_ble_eq_true rfl) (s_isW (by omega) (by omega) (by omega)) (fun v_14 h_14 q_14 => ?_) (fun _ _ q => q.elim)
  obtain ⟨z_14, rfl, y_14, u_14⟩ := q_14
  replace y_14 := y_14.symm
  subst y_14
  refine wp_callS d_12_17 c_12_62 rfl (by rfl) (by rfl) (by exact Nat.le_of_ble_eq_true rfl) (by exact Nat.le_of_ble_eq_true rfl) (s_needArgument (by omega)) (fun v_17 h_17 q_17 => ?_) (fun _ _ q => q.elim)
  obtain ⟨rfl, z_17⟩ := q_17
  replace z_17 := z_17.symm
  subst z_17
  refine wp_aload_n d_12_20 (by rfl) ?_
  refine wp_getR (3) d_12_21 fl_0_33 rfl rfl (by assumption) (by assumption) ?_
  refine wp_aload_n d_12_24 (by rfl) ?_
  refine wp_getR (0) d_12_25 fl_0_12 rfl rfl (by assumption) (by assumption) ?_
  refine wp_aload_n d_12_28 (by rfl) ?_
  refine wp_getR (1) d_12_29 fl_0_19 rfl rfl (by assumption) (by assumption) ?_
  refine wp_iload_n d_12_32 (by rfl) ?_
  refine wp_iload_n d_12_33 (by rfl) ?_
  refine wp_iload_n d_12_34 (by rfl) ?_
  refine wp_callV d_12_35 c_12_173 rfl (by rfl) (by rfl) ⟨9, rfl, rfl, by decide⟩ (by assumption) (by exact Nat.le_of_ble_eq_true rfl) (by exact Nat.le_of_ble_eq_true rfl) (s_seek hS0 hT0 ho hT hV) (fun v_35 h_35 q_35 => ?_) (fun _ _ q => q.elim)
  obtain ⟨rfl, E1, O1⟩ := q_35
  have hS2 : Sk h_35 w := hS0.kept E1.fm ((POoff (X := X)).pr hX.2) (by omega)
  have nn : hi h_35 (w + 1) 4 = hi h0 (w + 1) 4 := E1.2.2.2.2.2.2.2.1 _ _ (by unfold PO; omega)
  refine wp_iconst d_12_38 ?_
  refine wp_istore d_12_39 (by decide) ?_
  refine wp_iconst d_12_41 ?_
  refine wp_istore d_12_42 (by decide) ?_
  refine wp_to [some (vR (some w)), some (vI o), some (vI T), some (vI V), some (vI (sm (fun s => wi (hi h_35 (w + 14 + 6) s)) 0)), some (vI (((0 : Nat) : Int)))] ⟨rfl, rfl, rfl, rfl, rfl, rfl, trivial⟩ ?_
  refine wp_mono (fun v h' q => ?_) (fun _ _ q => q) (l_reached hS2 (by omega) (hi h0 (w + 1) 4).toNat 0 (by omega))
  obtain ⟨rfl, rfl⟩ := q
  exact ⟨E1, _, by rw [nn], fun s z0 z1 => O1.ea hT0 E1.fm POoff ho ⟨z0, z1⟩ (Nat.le_refl 6)⟩
