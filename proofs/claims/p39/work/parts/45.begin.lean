/-! ===== how late one can begin ===== -/
def LbR (W : Int → Int → Int → Prop) (d D : Int) (b : Int → Int) (o z : Int) : Prop := lat d D b o ≤ z ∧ (∀ s' m, W o s' m → lat d D b s' - m ≤ z) ∧ (z = lat d D b o ∨ ∃ s' m, W o s' m ∧ z = lat d D b s' - m)
def LbI (C : Int → Int → Int → Int → Prop) (d D : Int) (b : Int → Int) (o z k : Int) : Prop := lat d D b o ≤ z ∧ (∀ q s' m, q < k → C q o s' m → lat d D b s' - m ≤ z) ∧ (z = lat d D b o ∨ ∃ q s' m, q < k ∧ C q o s' m ∧ z = lat d D b s' - m)
theorem LbI.done {C : Int → Int → Int → Int → Prop} {W : Int → Int → Int → Prop} {d D o z k : Int} {b : Int → Int} (q : LbI C d D b o z k) (hC : ∀ s s' m, W s s' m ↔ ∃ j, j < k ∧ C j s s' m) : LbR W d D b o z := by
  obtain ⟨q1, q2, q3⟩ := q
  refine ⟨q1, fun s' m hw => ?_, q3.imp id ?_⟩
  · obtain ⟨j, g0, g1⟩ := (hC _ _ _).mp hw
    exact q2 j s' m g0 g1
  · rintro ⟨j, s', m, g0, g1, g2⟩
    exact ⟨s', m, (hC _ _ _).mpr ⟨j, g0, g1⟩, g2⟩
theorem LbI.skip {C : Int → Int → Int → Int → Prop} {d D o z k : Int} {b : Int → Int} (q : LbI C d D b o z k) (hC : ∀ s' m, ¬ C k o s' m) : LbI C d D b o z (k + 1) := by
  obtain ⟨q1, q2, q3⟩ := q
  refine ⟨q1, fun j s' m h0 h1 => ?_, q3.imp id fun ⟨j, s', m, g0, g1⟩ => ⟨j, s', m, by omega, g1⟩⟩
  by_cases hj : j = k
  · subst hj; exact absurd h1 (hC s' m)
  · exact q2 j s' m (by omega) h1
theorem LbI.step {C : Int → Int → Int → Int → Prop} {d D o z k y x : Int} {b : Int → Int} (q : LbI C d D b o z k) (hC : ∀ s' m, C k o s' m ↔ s' = y ∧ m = x) : LbI C d D b o (max z (lat d D b y - x)) (k + 1) := by
  obtain ⟨q1, q2, q3⟩ := q
  refine ⟨by omega, fun j s' m h0 h1 => ?_, ?_⟩
  · by_cases hj : j = k
    · subst hj
      obtain ⟨rfl, rfl⟩ := (hC _ _).mp h1
      omega
    · have := q2 j s' m (by omega) h1
      omega
  · by_cases hm : z ≤ lat d D b y - x
    · exact Or.inr ⟨k, y, x, by omega, (hC _ _).mpr ⟨rfl, rfl⟩, by omega⟩
    · rw [show max z (lat d D b y - x) = z by omega]
      exact q3.imp id fun ⟨j, s', m, g0, g1⟩ => ⟨j, s', m, by omega, g1⟩
section LBS
variable {n : Int} {c : Int → Int} {W : Int → Int → Int → Prop} {R : Rn → Prop} {d D : Int}
theorem lat_iff (N : Net n c W R) {K : Nat} {b : Int → Int} (hb : BEx n c W R d D K b) {s t : Int} (h0 : 0 ≤ s) (h1 : s < n) (ht : -1000000 ≤ t) : t ≤ lat d D b s ↔ (s = d ∧ t ≤ D) ∨ OB c W R d D K s t := by
  unfold lat
  by_cases hs : s = d
  · rw [if_pos hs]
    exact ⟨fun h => Or.inl ⟨hs, h⟩, fun h => h.elim (fun z => z.2) (fun z => OB.le N z)⟩
  · rw [if_neg hs]
    exact ⟨fun h => Or.inr ((hb s h0 h1 t ht).mp h), fun h => h.elim (fun z => absurd z.1 hs) (fun z => (hb s h0 h1 t ht).mpr z)⟩
theorem LbR.os (N : Net n c W R) {o z : Int} (ho : 0 ≤ o ∧ o < n) {K : Nat} {b : Int → Int} (hb : BEx n c W R d D K b) (q : LbR W d D b o z) {t : Int} (ht : -900000 ≤ t) : t ≤ z ↔ OS c W R d D K o t := by
  obtain ⟨q1, q2, q3⟩ := q
  have L0 := lat_iff N hb ho.1 ho.2 (t := t) (by omega)
  constructor
  · intro h
    rcases q3 with e | ⟨s', m, hw, e⟩
    · rcases L0.mp (by omega) with g | g
      · exact Or.inl g
      · exact Or.inr (Or.inl (by rw [Int.add_zero]; exact g))
    · have b9 := N.2.1 _ _ _ hw
      exact Or.inr (Or.inr ⟨s', m, hw, (lat_iff N hb b9.2.1.1 b9.2.1.2 (t := t + m) (by omega)).mp (by omega)⟩)
  · intro h
    rcases h with g | g | ⟨s', m, hw, g⟩
    · have := L0.mpr (Or.inl g)
      omega
    · rw [Int.add_zero] at g
      have := L0.mpr (Or.inr g)
      omega
    · have b9 := N.2.1 _ _ _ hw
      have := (lat_iff N hb b9.2.1.1 b9.2.1.2 (t := t + m) (by omega)).mpr g
      have := q2 _ _ hw
      omega
end LBS
set_option maxRecDepth 100000 in
set_option maxHeartbeats 4000000 in
theorem l_latestBegin {w X K : Nat} {o : Int} {h : Hp} (hS : Sk h w) (hT : TT h w X) (hK : K < 7) (ho : 0 ≤ o ∧ o < hi h (w + 1) 4) (hD : -1000000000 ≤ dlB h w ∧ dlB h w ≤ 1000000) (hb : Bb (hi h (w + 1) 4) (hi h (w + 32 + K))) : ∀ (m : Nat) (z k : Int), k + m = hi h (w + 1) 5 → 0 ≤ k → LbI (WyI h w) (tgB h w) (dlB h w) (hi h (w + 32 + K)) o (z) (k) → wp 46 11 [some (vR (some (w + 30))), some (vR (some (w + 1))), some (vI o), some (vI (K : Int)), some (vI (z)), some (vI (k)), none, none] [] h (fun v h' => ∃ z, v = some (vI z) ∧ h' = h ∧ LbR (Wy h w) (tgB h w) (dlB h w) (hi h (w + 32 + K)) o z ∧ -1000000060 ≤ z ∧ z ≤ 1000000) noX := by
  intro m
  have hn := hT.1
  have hn5 := hT.2.1
  have lb : ∀ s, 0 ≤ s → s < hi h (w + 1) 4 → -1000000000 ≤ lat (tgB h w) (dlB h w) (hi h (w + 32 + K)) s ∧ lat (tgB h w) (dlB h w) (hi h (w + 32 + K)) s ≤ 1000000 := fun s z0 z1 => by
    unfold lat
    split
    · exact hD
    · exact hb s z0 z1
  induction m with
  | zero =>
    intro z k e0 e1 I
    have hS9 := hS
    obtain ⟨⟨k1, k2, k3, k4, k5, k6, k7⟩, ⟨n1, ⟨n2, n3, n4, n5⟩, ⟨n6, n7⟩, ⟨n8, n9⟩, ⟨n10, n11⟩, n12, n13⟩, ⟨m1, ⟨m2, m3, m4⟩, ⟨m5, m6⟩, ⟨m7, m8⟩, m9, m10⟩, ⟨o1, ⟨o2, o3, o4⟩, ⟨o5, o6, o7⟩, ⟨o8, o9, o10⟩, o11, o12⟩, ⟨b1, ⟨b2, b3⟩, ⟨b4, b5, b6⟩, b7, b8, b9⟩, ⟨j1, ⟨j2, j3, j4, j5, j6, j7, j8⟩, ⟨j9, j10⟩, j11⟩⟩ := hS
    have zb : -1000000060 ≤ z ∧ z ≤ 1000000 := by
      have l0 := lb o ho.1 ho.2
      rcases I.2.2 with e | ⟨q, s', m', g0, ⟨y0, a', y1, y2, y3⟩, e⟩
      · omega
      · obtain ⟨a, g1, g2, g3, g4, g5, g6, g7⟩ := hT.2.2.2.2.1 q y0 (by omega)
        cases y1.symm.trans g1
        have := lb s' (by omega) (by omega)
        omega
    refine wp_iload d_46_11 (by rfl) ?_
    refine wp_aload_n d_46_13 (by rfl) ?_
    refine wp_getI (5) d_46_14 fl_1_56 rfl rfl (by assumption) (fun x_14 e_14 r_14 => ?_)
    refine wp_icmp_ge (tgt := 69) d_46_17 (by decide) (by omega) (by omega) (fun c_17 => ?_) (fun c_17 => ?_)
    rotate_left
    · exact absurd c_17 (by omega)
    refine wp_iload d_46_69 (by rfl) ?_
    refine wp_iret d_46_71 rfl ?_
    obtain rfl : k = hi h (w + 1) 5 := by omega
    exact ⟨z, rfl, rfl, I.done (fun s s' m => Wy_iff), zb⟩
  | succ m ih =>
    intro z k e0 e1 I
    have hS9 := hS
    obtain ⟨⟨k1, k2, k3, k4, k5, k6, k7⟩, ⟨n1, ⟨n2, n3, n4, n5⟩, ⟨n6, n7⟩, ⟨n8, n9⟩, ⟨n10, n11⟩, n12, n13⟩, ⟨m1, ⟨m2, m3, m4⟩, ⟨m5, m6⟩, ⟨m7, m8⟩, m9, m10⟩, ⟨o1, ⟨o2, o3, o4⟩, ⟨o5, o6, o7⟩, ⟨o8, o9, o10⟩, o11, o12⟩, ⟨b1, ⟨b2, b3⟩, ⟨b4, b5, b6⟩, b7, b8, b9⟩, ⟨j1, ⟨j2, j3, j4, j5, j6, j7, j8⟩, ⟨j9, j10⟩, j11⟩⟩ := hS
    have zb : -1000000060 ≤ z ∧ z ≤ 1000000 := by
      have l0 := lb o ho.1 ho.2
      rcases I.2.2 with e | ⟨q, s', m', g0, ⟨y0, a', y1, y2, y3⟩, e⟩
      · omega
      · obtain ⟨a, g1, g2, g3, g4, g5, g6, g7⟩ := hT.2.2.2.2.1 q y0 (by omega)
        cases y1.symm.trans g1
        have := lb s' (by omega) (by omega)
        omega
    obtain ⟨a, g1, g2, g3, g4, g5, g6, g7⟩ := hT.2.2.2.2.1 k e1 (by omega)
    refine wp_iload d_46_11 (by rfl) ?_
    refine wp_aload_n d_46_13 (by rfl) ?_
    refine wp_getI (5) d_46_14 fl_1_56 rfl rfl (by assumption) (fun x_14 e_14 r_14 => ?_)
    refine wp_icmp_ge (tgt := 69) d_46_17 (by decide) (by omega) (by omega) (fun c_17 => ?_) (fun c_17 => ?_)
    · exact absurd c_17 (by omega)
    refine wp_aload_n d_46_20 (by rfl) ?_
    refine wp_getR (1) d_46_21 fl_1_61 rfl rfl (by assumption) (by assumption) ?_
    refine wp_iload d_46_24 (by rfl) ?_
    refine wp_aald d_46_26 (by first | omega | (simp only [kd_setI, kd_cpI]; omega)) (by first | omega | (simp only [kd_setI, kd_cpI]; omega)) (by apply isRf_of; assumption; rfl) (by omega) (by omega) (by assumption) ?_
    refine wp_astore d_46_27 (by decide) ?_
    refine wp_aload d_46_29 (by rfl) ?_
    refine wp_iload_n d_46_31 (by rfl) ?_
    refine wp_callV d_46_32 c_46_65 rfl (by rfl) (by rfl) ⟨5, rfl, rfl, by decide⟩ (by assumption) (by exact Nat.le_of_ble_eq_true rfl) (by exact Nat.le_of_ble_eq_true rfl) (s_across g4 (by omega)) (fun v_32 h_32 q_32 => ?_) (fun _ _ q => q.elim)
    obtain ⟨z_32, rfl, y_32, u_32⟩ := q_32
    replace y_32 := y_32.symm
    subst y_32
    refine wp_istore d_46_35 (by decide) ?_
    refine wp_iload d_46_37 (by rfl) ?_
    refine wp_iconst d_46_39 ?_
    refine wp_icmp_eq (tgt := 63) d_46_40 (by decide) (by omega) (by omega) (fun c_40 => ?_) (fun c_40 => ?_)
    · refine wp_iinc d_46_63 (by rfl) (by decide) ?_
      refine wp_goto (tgt := 11) d_46_66 (by decide) ?_
      first
        | (refine wp_to [some (vR (some (w + 30))), some (vR (some (w + 1))), some (vI o), some (vI (K : Int)), some (vI (max z (lat (tgB h w) (dlB h w) (hi h (w + 32 + K)) z_32 - x_54))), some (vI (k + 1)), none, none] ⟨rfl, rfl, rfl, rfl, rfl, rfl, trivial⟩ ?_
           refine ih _ (k + 1) (by omega) (by omega) (I.step (fun s' m' => ⟨fun ⟨_, a', y1, y2, y3⟩ => ?_, fun ⟨y2, y3⟩ => ⟨e1, a, g1, ?_, by omega⟩⟩))
           · cases y1.symm.trans g1
             omega
           · omega)
        | (refine wp_to [some (vR (some (w + 30))), some (vR (some (w + 1))), some (vI o), some (vI (K : Int)), some (vI (z)), some (vI (k + 1)), none, none] ⟨rfl, rfl, rfl, rfl, rfl, rfl, trivial⟩ ?_
           refine ih _ (k + 1) (by omega) (by omega) (I.skip (fun s' m' ⟨_, a', y1, y2, y3⟩ => ?_))
           cases y1.symm.trans g1
           omega)
    · refine wp_iload d_46_43 (by rfl) ?_
      refine wp_aload_n d_46_45 (by rfl) ?_
      refine wp_iload d_46_46 (by rfl) ?_
      refine wp_iload_n d_46_48 (by rfl) ?_
      refine wp_callV d_46_49 c_46_53 rfl (by rfl) (by rfl) ⟨1, rfl, rfl, by decide⟩ (by assumption) (by exact Nat.le_of_ble_eq_true rfl) (by exact Nat.le_of_ble_eq_true rfl) (s_latestAt hS9 hK (by omega)) (fun v_49 h_49 q_49 => ?_) (fun _ _ q => q.elim)
      have lz := lb z_32 (by omega) (by omega)
      obtain ⟨rfl, z_49⟩ := q_49
      replace z_49 := z_49.symm
      subst z_49
      refine wp_aload d_46_52 (by rfl) ?_
      refine wp_getI (2) d_46_54 fl_1_71 rfl rfl (by assumption) (fun x_54 e_54 r_54 => ?_)
      refine wp_isub d_46_57 ?_
      refine wp_callS d_46_58 c_46_74 rfl (by rfl) (by rfl) (by exact Nat.le_of_ble_eq_true rfl) (by exact Nat.le_of_ble_eq_true rfl) (s_max (by omega) (by omega)) (fun v_58 h_58 q_58 => ?_) (fun _ _ q => q.elim)
      obtain ⟨rfl, z_58⟩ := q_58
      replace z_58 := z_58.symm
      subst z_58
      refine wp_istore d_46_61 (by decide) ?_
      refine wp_iinc d_46_63 (by rfl) (by decide) ?_
      refine wp_goto (tgt := 11) d_46_66 (by decide) ?_
      first
        | (refine wp_to [some (vR (some (w + 30))), some (vR (some (w + 1))), some (vI o), some (vI (K : Int)), some (vI (max z (lat (tgB h w) (dlB h w) (hi h (w + 32 + K)) z_32 - x_54))), some (vI (k + 1)), none, none] ⟨rfl, rfl, rfl, rfl, rfl, rfl, trivial⟩ ?_
           refine ih _ (k + 1) (by omega) (by omega) (I.step (fun s' m' => ⟨fun ⟨_, a', y1, y2, y3⟩ => ?_, fun ⟨y2, y3⟩ => ⟨e1, a, g1, ?_, by omega⟩⟩))
           · cases y1.symm.trans g1
             omega
           · omega)
        | (refine wp_to [some (vR (some (w + 30))), some (vR (some (w + 1))), some (vI o), some (vI (K : Int)), some (vI (z)), some (vI (k + 1)), none, none] ⟨rfl, rfl, rfl, rfl, rfl, rfl, trivial⟩ ?_
           refine ih _ (k + 1) (by omega) (by omega) (I.skip (fun s' m' ⟨_, a', y1, y2, y3⟩ => ?_))
           cases y1.symm.trans g1
           omega)
set_option maxRecDepth 100000 in
set_option maxHeartbeats 4000000 in
theorem s_latestBegin {w X K : Nat} {o : Int} {h : Hp} (hS : Sk h w) (hT : TT h w X) (hK : K < 7) (ho : 0 ≤ o ∧ o < hi h (w + 1) 4) (hD : -1000000000 ≤ dlB h w ∧ dlB h w ≤ 1000000) (hb : Bb (hi h (w + 1) 4) (hi h (w + 32 + K))) : wp 46 0 (entL [vR (some (w + 30)), vR (some (w + 1)), vI o, vI (K : Int)] (mL 46)) [] h (fun v h' => ∃ z, v = some (vI z) ∧ h' = h ∧ LbR (Wy h w) (tgB h w) (dlB h w) (hi h (w + 32 + K)) o z ∧ -1000000060 ≤ z ∧ z ≤ 1000000) noX := by
  have hn := hT.1
  have hn5 := hT.2.1
  have hS9 := hS
  obtain ⟨⟨k1, k2, k3, k4, k5, k6, k7⟩, ⟨n1, ⟨n2, n3, n4, n5⟩, ⟨n6, n7⟩, ⟨n8, n9⟩, ⟨n10, n11⟩, n12, n13⟩, ⟨m1, ⟨m2, m3, m4⟩, ⟨m5, m6⟩, ⟨m7, m8⟩, m9, m10⟩, ⟨o1, ⟨o2, o3, o4⟩, ⟨o5, o6, o7⟩, ⟨o8, o9, o10⟩, o11, o12⟩, ⟨b1, ⟨b2, b3⟩, ⟨b4, b5, b6⟩, b7, b8, b9⟩, ⟨j1, ⟨j2, j3, j4, j5, j6, j7, j8⟩, ⟨j9, j10⟩, j11⟩⟩ := hS
  refine wp_aload_n d_46_0 (by rfl) ?_
  refine wp_iload_n d_46_1 (by rfl) ?_
  refine wp_iload_n d_46_2 (by rfl) ?_
  refine wp_callV d_46_3 c_46_53 rfl (by rfl) (by rfl) ⟨1, rfl, rfl, by decide⟩ (by assumption) (by exact Nat.le_of_ble_eq_true rfl) (by exact Nat.le_of_ble_eq_true rfl) (s_latestAt hS9 hK (by omega)) (fun v_3 h_3 q_3 => ?_) (fun _ _ q => q.elim)
  obtain ⟨rfl, z_3⟩ := q_3
  replace z_3 := z_3.symm
  subst z_3
  refine wp_istore d_46_6 (by decide) ?_
  refine wp_iconst d_46_8 ?_
  refine wp_istore d_46_9 (by decide) ?_
  refine wp_to [some (vR (some (w + 30))), some (vR (some (w + 1))), some (vI o), some (vI (K : Int)), some (vI (lat (tgB h w) (dlB h w) (hi h (w + 32 + K)) o)), some (vI (0)), none, none] ⟨rfl, rfl, rfl, rfl, rfl, rfl, trivial⟩ ?_
  exact l_latestBegin hS9 hT hK ho hD hb (hi h (w + 1) 5).toNat _ 0 (by omega) (by omega) ⟨Int.le_refl _, fun q s' m z0 z1 => by have := z1.1; omega, Or.inl rfl⟩
