/-! ===== the search back: leaves, alight ===== -/
/-- rows of the latest departures: so far off that nothing wraps around -/
def Bb (n : Int) (f : Int → Int) : Prop := ∀ s, 0 ≤ s → s < n → -1000000000 ≤ f s ∧ f s ≤ 1000000
abbrev tgB (h : Hp) (w : Nat) : Int := hi h (w + 30) 2
abbrev dlB (h : Hp) (w : Nat) : Int := hi h (w + 30) 3
def PA (w K : Nat) : Nat → Prop := fun a => a = w + 40 + K
set_option maxRecDepth 100000 in
set_option maxHeartbeats 4000000 in
theorem s_latestAt {w K : Nat} {s : Int} {h : Hp} (hS : Sk h w) (hK : K < 7) (h0 : 0 ≤ s ∧ s < 16) : wp 43 0 (entL [vR (some (w + 30)), vI s, vI (K : Int)] (mL 43)) [] h (fun v h' => v = some (vI (lat (tgB h w) (dlB h w) (hi h (w + 32 + K)) s)) ∧ h' = h) noX := by
  obtain ⟨⟨k1, k2, k3, k4, k5, k6, k7⟩, ⟨n1, ⟨n2, n3, n4, n5⟩, ⟨n6, n7⟩, ⟨n8, n9⟩, ⟨n10, n11⟩, n12, n13⟩, ⟨m1, ⟨m2, m3, m4⟩, ⟨m5, m6⟩, ⟨m7, m8⟩, m9, m10⟩, ⟨o1, ⟨o2, o3, o4⟩, ⟨o5, o6, o7⟩, ⟨o8, o9, o10⟩, o11, o12⟩, ⟨b1, ⟨b2, b3⟩, ⟨b4, b5, b6⟩, b7, b8, b9⟩, ⟨j1, ⟨j2, j3, j4, j5, j6, j7, j8⟩, ⟨j9, j10⟩, j11⟩⟩ := hS
  obtain ⟨r1, r2, r3⟩ := b6 K hK
  obtain ⟨r4, r5, r6⟩ := b9 K hK
  have tt : tgB h w = hi h (w + 30) 2 := rfl
  refine wp_iload_n d_43_0 (by rfl) ?_
  refine wp_aload_n d_43_1 (by rfl) ?_
  refine wp_getI (2) d_43_2 fl_1_19 rfl rfl (by assumption) (fun x_2 e_2 r_2 => ?_)
  refine wp_icmp_ne (tgt := 15) d_43_5 (by decide) (by omega) (by omega) (fun c_5 => ?_) (fun c_5 => ?_)
  · refine wp_aload_n d_43_15 (by rfl) ?_
    refine wp_getR (0) d_43_16 fl_1_11 rfl rfl (by assumption) (by assumption) ?_
    refine wp_iload_n d_43_19 (by rfl) ?_
    refine wp_aald d_43_20 (by first | omega | (simp only [kd_setI, kd_cpI]; omega)) (by first | omega | (simp only [kd_setI, kd_cpI]; omega)) (by apply isRf_of; assumption; rfl) (by omega) (by omega) (by assumption) ?_
    refine wp_iload_n d_43_21 (by rfl) ?_
    refine wp_iald d_43_22 (Or.inl (by assumption)) (by omega) (by omega) (fun x_22 e_22 r_22 => ?_)
    refine wp_iret d_43_23 rfl ?_
    first
      | (refine ⟨?_, rfl⟩
         unfold lat
         rw [if_neg (by omega), e_22])
      | (refine ⟨?_, rfl⟩
         unfold lat
         rw [if_pos (by omega), e_9])
  · refine wp_aload_n d_43_8 (by rfl) ?_
    refine wp_getI (3) d_43_9 fl_1_23 rfl rfl (by assumption) (fun x_9 e_9 r_9 => ?_)
    refine wp_goto (tgt := 23) d_43_12 (by decide) ?_
    refine wp_iret d_43_23 rfl ?_
    first
      | (refine ⟨?_, rfl⟩
         unfold lat
         rw [if_neg (by omega), e_22])
      | (refine ⟨?_, rfl⟩
         unfold lat
         rw [if_pos (by omega), e_9])
set_option maxRecDepth 100000 in
set_option maxHeartbeats 4000000 in
theorem s_crossB {w K : Nat} {s s' m : Int} {h : Hp} (hS : Sk h w) (hK : K < 7) (h0 : 0 ≤ s ∧ s < 16) (h1 : 0 ≤ s' ∧ s' < 16) (hm : 0 ≤ m ∧ m ≤ 60) (hl : -1000000000 ≤ lat (tgB h w) (dlB h w) (hi h (w + 32 + K)) s' ∧ lat (tgB h w) (dlB h w) (hi h (w + 32 + K)) s' ≤ 1000000) : wp 42 0 (entL [vR (some (w + 30)), vI (K : Int), vI s, vI s', vI m] (mL 42)) [] h (fun v h' => v = none ∧ ch (PA w K) nP h h' ∧ hi h' (w + 40 + K) = crossB (tgB h w) (dlB h w) (hi h (w + 32 + K)) (hi h (w + 40 + K)) s s' m) noX := by
  have hS9 := hS
  obtain ⟨⟨k1, k2, k3, k4, k5, k6, k7⟩, ⟨n1, ⟨n2, n3, n4, n5⟩, ⟨n6, n7⟩, ⟨n8, n9⟩, ⟨n10, n11⟩, n12, n13⟩, ⟨m1, ⟨m2, m3, m4⟩, ⟨m5, m6⟩, ⟨m7, m8⟩, m9, m10⟩, ⟨o1, ⟨o2, o3, o4⟩, ⟨o5, o6, o7⟩, ⟨o8, o9, o10⟩, o11, o12⟩, ⟨b1, ⟨b2, b3⟩, ⟨b4, b5, b6⟩, b7, b8, b9⟩, ⟨j1, ⟨j2, j3, j4, j5, j6, j7, j8⟩, ⟨j9, j10⟩, j11⟩⟩ := hS
  obtain ⟨r1, r2, r3⟩ := b6 K hK
  obtain ⟨r4, r5, r6⟩ := b9 K hK
  refine wp_aload_n d_42_0 (by rfl) ?_
  refine wp_getR (1) d_42_1 fl_1_16 rfl rfl (by assumption) (by assumption) ?_
  refine wp_iload_n d_42_4 (by rfl) ?_
  refine wp_aald d_42_5 (by first | omega | (simp only [kd_setI, kd_cpI]; omega)) (by first | omega | (simp only [kd_setI, kd_cpI]; omega)) (by apply isRf_of; assumption; rfl) (by omega) (by omega) (by assumption) ?_
  refine wp_iload_n d_42_6 (by rfl) ?_
  refine wp_aload_n d_42_7 (by rfl) ?_
  refine wp_getR (1) d_42_8 fl_1_16 rfl rfl (by assumption) (by assumption) ?_
  refine wp_iload_n d_42_11 (by rfl) ?_
  refine wp_aald d_42_12 (by first | omega | (simp only [kd_setI, kd_cpI]; omega)) (by first | omega | (simp only [kd_setI, kd_cpI]; omega)) (by apply isRf_of; assumption; rfl) (by omega) (by omega) (by assumption) ?_
  refine wp_iload_n d_42_13 (by rfl) ?_
  refine wp_iald d_42_14 (Or.inl (by assumption)) (by omega) (by omega) (fun x_14 e_14 r_14 => ?_)
  refine wp_aload_n d_42_15 (by rfl) ?_
  refine wp_iload_n d_42_16 (by rfl) ?_
  refine wp_iload_n d_42_17 (by rfl) ?_
  refine wp_callV d_42_18 c_42_53 rfl (by rfl) (by rfl) ⟨1, rfl, rfl, by decide⟩ (by assumption) (by exact Nat.le_of_ble_eq_true rfl) (by exact Nat.le_of_ble_eq_true rfl) (s_latestAt hS9 hK h1) (fun v_18 h_18 q_18 => ?_) (fun _ _ q => q.elim)
  obtain ⟨rfl, z_18⟩ := q_18
  replace z_18 := z_18.symm
  subst z_18
  refine wp_iload d_42_21 (by rfl) ?_
  refine wp_isub d_42_23 ?_
  refine wp_callS d_42_24 c_42_74 rfl (by rfl) (by rfl) (by exact Nat.le_of_ble_eq_true rfl) (by exact Nat.le_of_ble_eq_true rfl) (s_max (by omega) (by omega)) (fun v_24 h_24 q_24 => ?_) (fun _ _ q => q.elim)
  obtain ⟨rfl, z_24⟩ := q_24
  replace z_24 := z_24.symm
  subst z_24
  refine wp_iast d_42_27 (by assumption) (by omega) (by omega) (by omega) ?_
  refine wp_vret d_42_28 rfl ?_
  refine ⟨rfl, ch_setI rfl, ?_⟩
  rw [hi_upF, e_14]
  rfl
set_option maxRecDepth 100000 in
set_option maxHeartbeats 4000000 in
theorem l_walkB {w X K : Nat} {h0 : Hp} (hS0 : Sk h0 w) (hT0 : TT h0 w X) (hK : K < 7) (hd : 0 ≤ tgB h0 w ∧ tgB h0 w < 16) (hD : -1000000000 ≤ dlB h0 w ∧ dlB h0 w ≤ 1000000) (hb : Bb (hi h0 (w + 1) 4) (hi h0 (w + 32 + K))) {Q : Option AV → Hp → Prop} : ∀ (m : Nat) (j : Int) (h : Hp), j + m = hi h0 (w + 1) 5 → 0 ≤ j → ch (PA w K) nP h0 h → AliI (hi h0 (w + 1) 4) (WyI h0 w) (hi h0 (w + 2)) (tgB h0 w) (dlB h0 w) (hi h0 (w + 32 + K)) (hi h (w + 40 + K)) j → (∀ h', ch (PA w K) nP h0 h' → AliI (hi h0 (w + 1) 4) (WyI h0 w) (hi h0 (w + 2)) (tgB h0 w) (dlB h0 w) (hi h0 (w + 32 + K)) (hi h' (w + 40 + K)) (hi h0 (w + 1) 5) → Q none h') → wp 41 56 [some (vR (some (w + 30))), some (vR (some (w + 1))), some (vI (K : Int)), some (vI (j)), none] [] h Q noX := by
  intro m
  have hn := hT0.1
  have hn5 := hT0.2.1
  have hX := hT0.2.2.2.2.2.2
  induction m with
  | zero =>
    intro j h e0 e1 E I kq
    have hS := hS0.ch E hT0
    have hS9 := hS
    have E8 := E.2.2.2.2.2.2.2.1
    have p1 : ¬ PA w K (w + 1) := fun z => by unfold PA at z; omega
    have p2 : ¬ PA w K (w + 2) := fun z => by unfold PA at z; omega
    have pb : ¬ PA w K (w + 32 + K) := fun z => by unfold PA at z; omega
    have pt : ¬ PA w K (w + 30) := fun z => by unfold PA at z; omega
    have ef : hi h (w + 32 + K) = hi h0 (w + 32 + K) := funext fun x => E8 _ x pb
    have et : hi h (w + 30) = hi h0 (w + 30) := funext fun x => E8 _ x pt
    have tb : tgB h w = tgB h0 w := congrFun et 2
    have db : dlB h w = dlB h0 w := congrFun et 3
    have tt : tgB h0 w = hi h0 (w + 30) 2 := rfl
    have dd : dlB h0 w = hi h0 (w + 30) 3 := rfl
    obtain ⟨⟨k1, k2, k3, k4, k5, k6, k7⟩, ⟨n1, ⟨n2, n3, n4, n5⟩, ⟨n6, n7⟩, ⟨n8, n9⟩, ⟨n10, n11⟩, n12, n13⟩, ⟨m1, ⟨m2, m3, m4⟩, ⟨m5, m6⟩, ⟨m7, m8⟩, m9, m10⟩, ⟨o1, ⟨o2, o3, o4⟩, ⟨o5, o6, o7⟩, ⟨o8, o9, o10⟩, o11, o12⟩, ⟨b1, ⟨b2, b3⟩, ⟨b4, b5, b6⟩, b7, b8, b9⟩, ⟨j1, ⟨j2, j3, j4, j5, j6, j7, j8⟩, ⟨j9, j10⟩, j11⟩⟩ := hS
    obtain ⟨r1, r2, r3⟩ := b6 K hK
    obtain ⟨r4, r5, r6⟩ := b9 K hK
    refine wp_iload_n d_41_56 (by rfl) ?_
    refine wp_aload_n d_41_57 (by rfl) ?_
    refine wp_getI (5) d_41_58 fl_1_56 rfl rfl (by assumption) (fun x_58 e_58 r_58 => ?_)
    (try rw [E8 _ _ p1] at e_58)
    (try rw [E8 _ _ p2] at e_58)
    (try rw [E8 _ _ pb] at e_58)
    (try rw [E8 _ _ pt] at e_58)
    refine wp_icmp_ge (tgt := 118) d_41_61 (by decide) (by omega) (by omega) (fun c_61 => ?_) (fun c_61 => ?_)
    rotate_left
    · exact absurd c_61 (by omega)
    refine wp_vret d_41_118 rfl ?_
    obtain rfl : j = hi h0 (w + 1) 5 := by omega
    exact kq h E I
  | succ m ih =>
    intro j h e0 e1 E I kq
    have hS := hS0.ch E hT0
    have hS9 := hS
    have E8 := E.2.2.2.2.2.2.2.1
    have p1 : ¬ PA w K (w + 1) := fun z => by unfold PA at z; omega
    have p2 : ¬ PA w K (w + 2) := fun z => by unfold PA at z; omega
    have pb : ¬ PA w K (w + 32 + K) := fun z => by unfold PA at z; omega
    have pt : ¬ PA w K (w + 30) := fun z => by unfold PA at z; omega
    have ef : hi h (w + 32 + K) = hi h0 (w + 32 + K) := funext fun x => E8 _ x pb
    have et : hi h (w + 30) = hi h0 (w + 30) := funext fun x => E8 _ x pt
    have tb : tgB h w = tgB h0 w := congrFun et 2
    have db : dlB h w = dlB h0 w := congrFun et 3
    have tt : tgB h0 w = hi h0 (w + 30) 2 := rfl
    have dd : dlB h0 w = hi h0 (w + 30) 3 := rfl
    obtain ⟨⟨k1, k2, k3, k4, k5, k6, k7⟩, ⟨n1, ⟨n2, n3, n4, n5⟩, ⟨n6, n7⟩, ⟨n8, n9⟩, ⟨n10, n11⟩, n12, n13⟩, ⟨m1, ⟨m2, m3, m4⟩, ⟨m5, m6⟩, ⟨m7, m8⟩, m9, m10⟩, ⟨o1, ⟨o2, o3, o4⟩, ⟨o5, o6, o7⟩, ⟨o8, o9, o10⟩, o11, o12⟩, ⟨b1, ⟨b2, b3⟩, ⟨b4, b5, b6⟩, b7, b8, b9⟩, ⟨j1, ⟨j2, j3, j4, j5, j6, j7, j8⟩, ⟨j9, j10⟩, j11⟩⟩ := hS
    obtain ⟨r1, r2, r3⟩ := b6 K hK
    obtain ⟨r4, r5, r6⟩ := b9 K hK
    obtain ⟨a, g1, g2, g3, g4, g5, g6, g7⟩ := hT0.2.2.2.2.1 j e1 (by omega)
    have f1 : hr h (w + 3) j = some a := (E.2.2.2.2.2.2.2.2 _ _ id).trans g1
    have ka : kd h a = 6 := (congrFun E.1 a).trans g4
    have ea : hi h a = hi h0 a := funext fun z => E8 a z (by unfold PA; omega)
    have la0 : -1000000000 ≤ lat (tgB h0 w) (dlB h0 w) (hi h0 (w + 32 + K)) (hi h0 a 0) ∧ lat (tgB h0 w) (dlB h0 w) (hi h0 (w + 32 + K)) (hi h0 a 0) ≤ 1000000 := by
      unfold lat
      split
      · exact hD
      · exact hb _ g5.1 g5.2
    have la1 : -1000000000 ≤ lat (tgB h0 w) (dlB h0 w) (hi h0 (w + 32 + K)) (hi h0 a 1) ∧ lat (tgB h0 w) (dlB h0 w) (hi h0 (w + 32 + K)) (hi h0 a 1) ≤ 1000000 := by
      unfold lat
      split
      · exact hD
      · exact hb _ g6.1 g6.2
    refine wp_iload_n d_41_56 (by rfl) ?_
    refine wp_aload_n d_41_57 (by rfl) ?_
    refine wp_getI (5) d_41_58 fl_1_56 rfl rfl (by first | assumption | exact hS1.2.2.2.2.1.1) (fun x_58 e_58 r_58 => ?_)
    (try rw [ea] at e_58)
    (try rw [E8 _ _ p1] at e_58)
    (try rw [ea1] at e_58)
    refine wp_icmp_ge (tgt := 118) d_41_61 (by decide) (by omega) (by omega) (fun c_61 => ?_) (fun c_61 => ?_)
    · exact absurd c_61 (by omega)
    refine wp_aload_n d_41_64 (by rfl) ?_
    refine wp_getR (1) d_41_65 fl_1_61 rfl rfl (by first | assumption | exact hS1.2.2.2.2.1.1) (by assumption) ?_
    refine wp_iload_n d_41_68 (by rfl) ?_
    refine wp_aald d_41_69 (by first | omega | (simp only [kd_setI, kd_cpI]; omega)) (by first | omega | (simp only [kd_setI, kd_cpI]; omega)) (by apply isRf_of; assumption; rfl) (by omega) (by omega) (by assumption) ?_
    refine wp_astore d_41_70 (by decide) ?_
    refine wp_aload_n d_41_72 (by rfl) ?_
    refine wp_iload_n d_41_73 (by rfl) ?_
    refine wp_aload d_41_74 (by rfl) ?_
    refine wp_getI (0) d_41_76 fl_1_112 rfl rfl (by first | assumption | exact hS1.2.2.2.2.1.1) (fun x_76 e_76 r_76 => ?_)
    (try rw [ea] at e_76)
    (try rw [E8 _ _ p1] at e_76)
    (try rw [ea1] at e_76)
    refine wp_aload d_41_79 (by rfl) ?_
    refine wp_getI (1) d_41_81 fl_1_115 rfl rfl (by first | assumption | exact hS1.2.2.2.2.1.1) (fun x_81 e_81 r_81 => ?_)
    (try rw [ea] at e_81)
    (try rw [E8 _ _ p1] at e_81)
    (try rw [ea1] at e_81)
    refine wp_aload d_41_84 (by rfl) ?_
    refine wp_getI (2) d_41_86 fl_1_71 rfl rfl (by first | assumption | exact hS1.2.2.2.2.1.1) (fun x_86 e_86 r_86 => ?_)
    (try rw [ea] at e_86)
    (try rw [E8 _ _ p1] at e_86)
    (try rw [ea1] at e_86)
    refine wp_callV d_41_89 c_41_118 rfl (by rfl) (by rfl) ⟨1, rfl, rfl, by decide⟩ (by first | assumption | exact hS1.2.2.2.2.1.1) (by exact Nat.le_of_ble_eq_true rfl) (by exact Nat.le_of_ble_eq_true rfl) (s_crossB hS9 hK (by omega) (by omega) (by omega) (by rw [tb, db, ef, e_81]; exact la1)) (fun v_89 h_89 q_89 => ?_) (fun _ _ q => q.elim)
    obtain ⟨rfl, E1, R1⟩ := q_89
    have EE := E.trans E1
    have hS1 : Sk h_89 w := hS0.ch EE hT0
    have ka1 : kd h_89 a = 6 := (congrFun EE.1 a).trans g4
    have ea1 : hi h_89 a = hi h0 a := funext fun z => EE.2.2.2.2.2.2.2.1 a z (by unfold PA; omega)
    have ef1 : hi h_89 (w + 32 + K) = hi h0 (w + 32 + K) := funext fun x => EE.2.2.2.2.2.2.2.1 _ x pb
    have et1 : hi h_89 (w + 30) = hi h0 (w + 30) := funext fun x => EE.2.2.2.2.2.2.2.1 _ x pt
    have tb1 : tgB h_89 w = tgB h0 w := congrFun et1 2
    have db1 : dlB h_89 w = dlB h0 w := congrFun et1 3
    refine wp_aload_n d_41_92 (by rfl) ?_
    refine wp_iload_n d_41_93 (by rfl) ?_
    refine wp_aload d_41_94 (by rfl) ?_
    refine wp_getI (1) d_41_96 fl_1_115 rfl rfl (by first | assumption | exact hS1.2.2.2.2.1.1) (fun x_96 e_96 r_96 => ?_)
    (try rw [ea] at e_96)
    (try rw [E8 _ _ p1] at e_96)
    (try rw [ea1] at e_96)
    refine wp_aload d_41_99 (by rfl) ?_
    refine wp_getI (0) d_41_101 fl_1_112 rfl rfl (by first | assumption | exact hS1.2.2.2.2.1.1) (fun x_101 e_101 r_101 => ?_)
    (try rw [ea] at e_101)
    (try rw [E8 _ _ p1] at e_101)
    (try rw [ea1] at e_101)
    refine wp_aload d_41_104 (by rfl) ?_
    refine wp_getI (2) d_41_106 fl_1_71 rfl rfl (by first | assumption | exact hS1.2.2.2.2.1.1) (fun x_106 e_106 r_106 => ?_)
    (try rw [ea] at e_106)
    (try rw [E8 _ _ p1] at e_106)
    (try rw [ea1] at e_106)
    refine wp_callV d_41_109 c_41_118 rfl (by rfl) (by rfl) ⟨1, rfl, rfl, by decide⟩ (by first | assumption | exact hS1.2.2.2.2.1.1) (by exact Nat.le_of_ble_eq_true rfl) (by exact Nat.le_of_ble_eq_true rfl) (s_crossB hS1 hK (by omega) (by omega) (by omega) (by rw [tb1, db1, ef1, e_101]; exact la0)) (fun v_109 h_109 q_109 => ?_) (fun _ _ q => q.elim)
    obtain ⟨rfl, E2, R2⟩ := q_109
    refine wp_iinc d_41_112 (by rfl) (by decide) ?_
    refine wp_goto (tgt := 56) d_41_115 (by decide) ?_
    refine wp_to [some (vR (some (w + 30))), some (vR (some (w + 1))), some (vI (K : Int)), some (vI (j + 1)), none] ⟨rfl, rfl, rfl, rfl, trivial⟩ ?_
    refine ih (j + 1) _ (by omega) (by omega) (EE.trans E2) ?_ kq
    rw [R2, R1, tb1, db1, tb, db, ef, ef1, e_76, e_81, e_86, e_96, e_101, e_106]
    exact I.step (fun s s' m' => ⟨fun ⟨_, a', z1, z2, z3⟩ => by cases z1.symm.trans g1; exact ⟨z2, z3⟩, fun ⟨z2, z3⟩ => ⟨e1, a, g1, z2, z3⟩⟩)
set_option maxRecDepth 100000 in
set_option maxHeartbeats 4000000 in
theorem l_alightB {w X K : Nat} {h0 : Hp} (hS0 : Sk h0 w) (hT0 : TT h0 w X) (hK : K < 7) (hd : 0 ≤ tgB h0 w ∧ tgB h0 w < 16) (hD : -1000000000 ≤ dlB h0 w ∧ dlB h0 w ≤ 1000000) (hb : Bb (hi h0 (w + 1) 4) (hi h0 (w + 32 + K))) {Q : Option AV → Hp → Prop} : ∀ (m : Nat) (j : Int) (h : Hp), j + m = hi h0 (w + 1) 4 → 0 ≤ j → ch (PA w K) nP h0 h → (∀ s, 0 ≤ s → s < j → hi h (w + 40 + K) s = bsA (hi h0 (w + 2)) (tgB h0 w) (dlB h0 w) (hi h0 (w + 32 + K)) s) → (∀ h', ch (PA w K) nP h0 h' → AliI (hi h0 (w + 1) 4) (WyI h0 w) (hi h0 (w + 2)) (tgB h0 w) (dlB h0 w) (hi h0 (w + 32 + K)) (hi h' (w + 40 + K)) (hi h0 (w + 1) 5) → Q none h') → wp 41 2 [some (vR (some (w + 30))), some (vR (some (w + 1))), some (vI (K : Int)), some (vI (j)), none] [] h Q noX := by
  intro m
  have hn := hT0.1
  have hn5 := hT0.2.1
  have hc := hT0.2.2.2.1
  induction m with
  | zero =>
    intro j h e0 e1 E I kq
    have hS := hS0.ch E hT0
    have hS9 := hS
    have E8 := E.2.2.2.2.2.2.2.1
    have p1 : ¬ PA w K (w + 1) := fun z => by unfold PA at z; omega
    have p2 : ¬ PA w K (w + 2) := fun z => by unfold PA at z; omega
    have pb : ¬ PA w K (w + 32 + K) := fun z => by unfold PA at z; omega
    have pt : ¬ PA w K (w + 30) := fun z => by unfold PA at z; omega
    have ef : hi h (w + 32 + K) = hi h0 (w + 32 + K) := funext fun x => E8 _ x pb
    have et : hi h (w + 30) = hi h0 (w + 30) := funext fun x => E8 _ x pt
    have tb : tgB h w = tgB h0 w := congrFun et 2
    have db : dlB h w = dlB h0 w := congrFun et 3
    have tt : tgB h0 w = hi h0 (w + 30) 2 := rfl
    have dd : dlB h0 w = hi h0 (w + 30) 3 := rfl
    obtain ⟨⟨k1, k2, k3, k4, k5, k6, k7⟩, ⟨n1, ⟨n2, n3, n4, n5⟩, ⟨n6, n7⟩, ⟨n8, n9⟩, ⟨n10, n11⟩, n12, n13⟩, ⟨m1, ⟨m2, m3, m4⟩, ⟨m5, m6⟩, ⟨m7, m8⟩, m9, m10⟩, ⟨o1, ⟨o2, o3, o4⟩, ⟨o5, o6, o7⟩, ⟨o8, o9, o10⟩, o11, o12⟩, ⟨b1, ⟨b2, b3⟩, ⟨b4, b5, b6⟩, b7, b8, b9⟩, ⟨j1, ⟨j2, j3, j4, j5, j6, j7, j8⟩, ⟨j9, j10⟩, j11⟩⟩ := hS
    obtain ⟨r1, r2, r3⟩ := b6 K hK
    obtain ⟨r4, r5, r6⟩ := b9 K hK
    refine wp_iload_n d_41_2 (by rfl) ?_
    refine wp_aload_n d_41_3 (by rfl) ?_
    refine wp_getI (4) d_41_4 fl_1_106 rfl rfl (by assumption) (fun x_4 e_4 r_4 => ?_)
    (try rw [E8 _ _ p1] at e_4)
    (try rw [E8 _ _ p2] at e_4)
    (try rw [E8 _ _ pb] at e_4)
    (try rw [E8 _ _ pt] at e_4)
    refine wp_icmp_ge (tgt := 54) d_41_7 (by decide) (by omega) (by omega) (fun c_7 => ?_) (fun c_7 => ?_)
    rotate_left
    · exact absurd c_7 (by omega)
    refine wp_iconst d_41_54 ?_
    refine wp_istore_n d_41_55 (by decide) ?_
    refine wp_to [some (vR (some (w + 30))), some (vR (some (w + 1))), some (vI (K : Int)), some (vI (0)), none] ⟨rfl, rfl, rfl, rfl, trivial⟩ ?_
    obtain rfl : j = hi h0 (w + 1) 4 := by omega
    exact l_walkB hS0 hT0 hK hd hD hb (hi h0 (w + 1) 5).toNat 0 h (by omega) (by omega) E (AliI.start (fun q s s' m z => z.1) I) kq
  | succ m ih =>
    intro j h e0 e1 E I kq
    have hS := hS0.ch E hT0
    have hS9 := hS
    have E8 := E.2.2.2.2.2.2.2.1
    have p1 : ¬ PA w K (w + 1) := fun z => by unfold PA at z; omega
    have p2 : ¬ PA w K (w + 2) := fun z => by unfold PA at z; omega
    have pb : ¬ PA w K (w + 32 + K) := fun z => by unfold PA at z; omega
    have pt : ¬ PA w K (w + 30) := fun z => by unfold PA at z; omega
    have ef : hi h (w + 32 + K) = hi h0 (w + 32 + K) := funext fun x => E8 _ x pb
    have et : hi h (w + 30) = hi h0 (w + 30) := funext fun x => E8 _ x pt
    have tb : tgB h w = tgB h0 w := congrFun et 2
    have db : dlB h w = dlB h0 w := congrFun et 3
    have tt : tgB h0 w = hi h0 (w + 30) 2 := rfl
    have dd : dlB h0 w = hi h0 (w + 30) 3 := rfl
    obtain ⟨⟨k1, k2, k3, k4, k5, k6, k7⟩, ⟨n1, ⟨n2, n3, n4, n5⟩, ⟨n6, n7⟩, ⟨n8, n9⟩, ⟨n10, n11⟩, n12, n13⟩, ⟨m1, ⟨m2, m3, m4⟩, ⟨m5, m6⟩, ⟨m7, m8⟩, m9, m10⟩, ⟨o1, ⟨o2, o3, o4⟩, ⟨o5, o6, o7⟩, ⟨o8, o9, o10⟩, o11, o12⟩, ⟨b1, ⟨b2, b3⟩, ⟨b4, b5, b6⟩, b7, b8, b9⟩, ⟨j1, ⟨j2, j3, j4, j5, j6, j7, j8⟩, ⟨j9, j10⟩, j11⟩⟩ := hS
    obtain ⟨r1, r2, r3⟩ := b6 K hK
    obtain ⟨r4, r5, r6⟩ := b9 K hK
    have bj := hb j e1 (by omega)
    have cj := hc j
    refine wp_iload_n d_41_2 (by rfl) ?_
    refine wp_aload_n d_41_3 (by rfl) ?_
    refine wp_getI (4) d_41_4 fl_1_106 rfl rfl (by assumption) (fun x_4 e_4 r_4 => ?_)
    (try rw [E8 _ _ p1] at e_4)
    (try rw [E8 _ _ p2] at e_4)
    (try rw [E8 _ _ pb] at e_4)
    (try rw [E8 _ _ pt] at e_4)
    refine wp_icmp_ge (tgt := 54) d_41_7 (by decide) (by omega) (by omega) (fun c_7 => ?_) (fun c_7 => ?_)
    · exact absurd c_7 (by omega)
    refine wp_aload_n d_41_10 (by rfl) ?_
    refine wp_getR (1) d_41_11 fl_1_16 rfl rfl (by assumption) (by assumption) ?_
    refine wp_iload_n d_41_14 (by rfl) ?_
    refine wp_aald d_41_15 (by first | omega | (simp only [kd_setI, kd_cpI]; omega)) (by first | omega | (simp only [kd_setI, kd_cpI]; omega)) (by apply isRf_of; assumption; rfl) (by omega) (by omega) (by assumption) ?_
    refine wp_iload_n d_41_16 (by rfl) ?_
    refine wp_iload_n d_41_17 (by rfl) ?_
    refine wp_aload_n d_41_18 (by rfl) ?_
    refine wp_getI (2) d_41_19 fl_1_19 rfl rfl (by assumption) (fun x_19 e_19 r_19 => ?_)
    (try rw [E8 _ _ p1] at e_19)
    (try rw [E8 _ _ p2] at e_19)
    (try rw [E8 _ _ pb] at e_19)
    (try rw [E8 _ _ pt] at e_19)
    refine wp_icmp_ne (tgt := 32) d_41_22 (by decide) (by omega) (by omega) (fun c_22 => ?_) (fun c_22 => ?_)
    · refine wp_aload_n d_41_32 (by rfl) ?_
      refine wp_getR (0) d_41_33 fl_1_11 rfl rfl (by assumption) (by assumption) ?_
      refine wp_iload_n d_41_36 (by rfl) ?_
      refine wp_aald d_41_37 (by first | omega | (simp only [kd_setI, kd_cpI]; omega)) (by first | omega | (simp only [kd_setI, kd_cpI]; omega)) (by apply isRf_of; assumption; rfl) (by omega) (by omega) (by assumption) ?_
      refine wp_iload_n d_41_38 (by rfl) ?_
      refine wp_iald d_41_39 (Or.inl (by assumption)) (by omega) (by omega) (fun x_39 e_39 r_39 => ?_)
      (try rw [E8 _ _ p1] at e_39)
      (try rw [E8 _ _ p2] at e_39)
      (try rw [E8 _ _ pb] at e_39)
      (try rw [E8 _ _ pt] at e_39)
      refine wp_aload_n d_41_40 (by rfl) ?_
      refine wp_getR (0) d_41_41 fl_1_109 rfl rfl (by assumption) (by assumption) ?_
      refine wp_iload_n d_41_44 (by rfl) ?_
      refine wp_iald d_41_45 (Or.inl (by assumption)) (by omega) (by omega) (fun x_45 e_45 r_45 => ?_)
      (try rw [E8 _ _ p1] at e_45)
      (try rw [E8 _ _ p2] at e_45)
      (try rw [E8 _ _ pb] at e_45)
      (try rw [E8 _ _ pt] at e_45)
      refine wp_isub d_41_46 ?_
      refine wp_iast d_41_47 (by assumption) (by omega) (by omega) (by omega) ?_
      refine wp_iinc d_41_48 (by rfl) (by decide) ?_
      refine wp_goto (tgt := 2) d_41_51 (by decide) ?_
      refine wp_to [some (vR (some (w + 30))), some (vR (some (w + 1))), some (vI (K : Int)), some (vI (j + 1)), none] ⟨rfl, rfl, rfl, rfl, trivial⟩ ?_
      refine ih (j + 1) _ (by omega) (by omega) (E.trans (ch_setI rfl)) (fun s s0 s1 => ?_) kq
      rw [hi_upF]
      by_cases hsj : s = j
      · subst hsj
        rw [upF_same]
        unfold bsA
        first
          | (rw [if_neg (by omega)]; omega)
          | (rw [if_pos (by omega)]; omega)
      · rw [upF_ne _ hsj]
        exact I s s0 (by omega)
    · refine wp_aload_n d_41_25 (by rfl) ?_
      refine wp_getI (3) d_41_26 fl_1_23 rfl rfl (by assumption) (fun x_26 e_26 r_26 => ?_)
      (try rw [E8 _ _ p1] at e_26)
      (try rw [E8 _ _ p2] at e_26)
      (try rw [E8 _ _ pb] at e_26)
      (try rw [E8 _ _ pt] at e_26)
      refine wp_goto (tgt := 47) d_41_29 (by decide) ?_
      refine wp_iast d_41_47 (by assumption) (by omega) (by omega) (by omega) ?_
      refine wp_iinc d_41_48 (by rfl) (by decide) ?_
      refine wp_goto (tgt := 2) d_41_51 (by decide) ?_
      refine wp_to [some (vR (some (w + 30))), some (vR (some (w + 1))), some (vI (K : Int)), some (vI (j + 1)), none] ⟨rfl, rfl, rfl, rfl, trivial⟩ ?_
      refine ih (j + 1) _ (by omega) (by omega) (E.trans (ch_setI rfl)) (fun s s0 s1 => ?_) kq
      rw [hi_upF]
      by_cases hsj : s = j
      · subst hsj
        rw [upF_same]
        unfold bsA
        first
          | (rw [if_neg (by omega)]; omega)
          | (rw [if_pos (by omega)]; omega)
      · rw [upF_ne _ hsj]
        exact I s s0 (by omega)
set_option maxRecDepth 100000 in
set_option maxHeartbeats 4000000 in
theorem s_alightB {w X K : Nat} {h0 : Hp} (hS0 : Sk h0 w) (hT0 : TT h0 w X) (hK : K < 7) (hd : 0 ≤ tgB h0 w ∧ tgB h0 w < 16) (hD : -1000000000 ≤ dlB h0 w ∧ dlB h0 w ≤ 1000000) (hb : Bb (hi h0 (w + 1) 4) (hi h0 (w + 32 + K))) : wp 41 0 (entL [vR (some (w + 30)), vR (some (w + 1)), vI (K : Int)] (mL 41)) [] h0 (fun v h' => v = none ∧ ch (PA w K) nP h0 h' ∧ AliR (hi h0 (w + 1) 4) (hi h0 (w + 2)) (Wy h0 w) (tgB h0 w) (dlB h0 w) (hi h0 (w + 32 + K)) (hi h' (w + 40 + K))) noX := by
  refine wp_iconst d_41_0 ?_
  refine wp_istore_n d_41_1 (by decide) ?_
  refine wp_to [some (vR (some (w + 30))), some (vR (some (w + 1))), some (vI (K : Int)), some (vI (0)), none] ⟨rfl, rfl, rfl, rfl, trivial⟩ ?_
  have hn := hT0.1
  exact l_alightB hS0 hT0 hK hd hD hb (hi h0 (w + 1) 4).toNat 0 h0 (by omega) (by omega) ch.rfl (fun s s0 s1 => by omega) (fun h' E I => ⟨rfl, E, I.done (fun s s' m => Wy_iff)⟩)
