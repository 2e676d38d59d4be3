/-! ===== the search onwards: its rows ===== -/
/-- rows of times, so far off that nothing wraps around -/
def Bd (n : Int) (f : Int → Int) : Prop := ∀ s, 0 ≤ s → s < n → 0 ≤ f s ∧ f s ≤ 1000000030
/-- the rows K of ended and ready -/
def PW (w K : Nat) : Nat → Prop := fun a => a = w + 14 + K ∨ a = w + 22 + K
/-- one footway -/
def WyI (h : Hp) (w : Nat) (i s s' m : Int) : Prop := 0 ≤ i ∧ ∃ a, hr h (w + 3) i = some a ∧ ((s = hi h a 0 ∧ s' = hi h a 1) ∨ (s = hi h a 1 ∧ s' = hi h a 0)) ∧ m = hi h a 2
theorem Wy_iff {h : Hp} {w : Nat} {s s' m : Int} : Wy h w s s' m ↔ ∃ i, i < hi h (w + 1) 5 ∧ WyI h w i s s' m := by
  constructor
  · rintro ⟨i, a, h0, h1, h2, h3⟩
    exact ⟨i, h1, h0, a, h2, h3⟩
  · rintro ⟨i, h1, h0, a, h2, h3⟩
    exact ⟨i, a, h0, h1, h2, h3⟩
theorem PRok_nP {w : Nat} : PRok w nP := fun a z => z.elim
theorem Sk.ch {P : Nat → Prop} {h h' : Hp} {w X : Nat} (q : Sk h w) (e : ch P nP h h') (hT : TT h w X) : Sk h' w := q.kept e.fm PRok_nP (by have := hT.2.2.2.2.2.2; omega)
set_option maxRecDepth 100000 in
set_option maxHeartbeats 4000000 in
theorem s_cross {w K : Nat} {s s' m : Int} {h : Hp} (hS : Sk h w) (hK : K < 7) (h0 : 0 ≤ s ∧ s < 16) (h1 : 0 ≤ s' ∧ s' < 16) (hm : 0 ≤ m ∧ m ≤ 60) (hf : 0 ≤ hi h (w + 29) s ∧ hi h (w + 29) s ≤ 1000000030) : wp 83 0 (entL [vR (some (w + 12)), vI (K : Int), vI s, vI s', vI m] (mL 83)) [] h (fun v h' => v = none ∧ ch (PW w K) nP h h' ∧ hi h' (w + 14 + K) = crossF (hi h (w + 12) 3) (hi h (w + 29)) (hi h (w + 14 + K)) s s' m ∧ hi h' (w + 22 + K) = crossF (hi h (w + 12) 3) (hi h (w + 29)) (hi h (w + 22 + K)) s s' m) noX := by
  obtain ⟨⟨k1, k2, k3, k4, k5, k6, k7⟩, ⟨n1, ⟨n2, n3, n4, n5⟩, ⟨n6, n7⟩, ⟨n8, n9⟩, ⟨n10, n11⟩, n12, n13⟩, ⟨m1, ⟨m2, m3, m4⟩, ⟨m5, m6⟩, ⟨m7, m8⟩, m9, m10⟩, ⟨o1, ⟨o2, o3, o4⟩, ⟨o5, o6, o7⟩, ⟨o8, o9, o10⟩, o11, o12⟩, ⟨b1, ⟨b2, b3⟩, ⟨b4, b5, b6⟩, b7, b8, b9⟩, ⟨j1, ⟨j2, j3, j4, j5, j6, j7, j8⟩, ⟨j9, j10⟩, j11⟩⟩ := hS
  obtain ⟨r1, r2, r3⟩ := o7 K hK
  obtain ⟨r4, r5, r6⟩ := o10 K hK
  refine wp_aload_n d_83_0 (by rfl) ?_
  refine wp_getR (2) d_83_1 fl_9_19 rfl rfl (by first | assumption | (simp only [kd_setI]; assumption)) (by first | assumption | (simp only [hr_setI]; assumption)) ?_
  refine wp_iload_n d_83_4 (by rfl) ?_
  refine wp_iald d_83_5 (Or.inl (by first | assumption | (simp only [kd_setI]; assumption))) (by first | omega | (simp only [ln_setI]; omega)) (by first | omega | (simp only [ln_setI]; omega)) (fun x_5 e_5 r_5 => ?_)
  refine wp_iload d_83_6 (by rfl) ?_
  refine wp_iadd d_83_8 ?_
  refine wp_istore d_83_9 (by decide) ?_
  refine wp_iload d_83_11 (by rfl) ?_
  refine wp_aload_n d_83_13 (by rfl) ?_
  refine wp_getI (3) d_83_14 fl_9_28 rfl rfl (by first | assumption | (simp only [kd_setI]; assumption)) (fun x_14 e_14 r_14 => ?_)
  refine wp_icmp_gt (tgt := 62) d_83_17 (by decide) (by first | omega | (simp only [ln_setI]; omega)) (by first | omega | (simp only [ln_setI]; omega)) (fun c_17 => ?_) (fun c_17 => ?_)
  · refine wp_vret d_83_62 rfl ?_
    first
      | (refine ⟨rfl, ch.rfl, ?_, ?_⟩ <;> (unfold crossF; rw [if_neg (by omega)]))
      | (refine ⟨rfl, (ch_setI (Or.inl rfl)).trans (ch_setI (Or.inr rfl)), ?_, ?_⟩
         · rw [hi_setI]
           unfold crossF
           rw [if_pos (by omega)]
           funext q
           unfold up2 upF
           rw [if_neg (fun z => absurd z.1 (by omega)), hi_setI]
           unfold up2
           by_cases hq : q = s'
           · rw [if_pos ⟨rfl, hq⟩, if_pos hq, e_34, e_5]
           · rw [if_neg (fun z => hq z.2), if_neg hq]
         · rw [hi_upF]
           unfold crossF
           rw [if_pos (by omega), e_55, e_5, hi_setI_ne (by omega)])
  · refine wp_aload_n d_83_20 (by rfl) ?_
    refine wp_getR (0) d_83_21 fl_9_11 rfl rfl (by first | assumption | (simp only [kd_setI]; assumption)) (by first | assumption | (simp only [hr_setI]; assumption)) ?_
    refine wp_iload_n d_83_24 (by rfl) ?_
    refine wp_aald d_83_25 (by first | omega | (simp only [kd_setI, kd_cpI]; omega)) (by first | omega | (simp only [kd_setI, kd_cpI]; omega)) (by apply isRf_of; assumption; rfl) (by first | omega | (simp only [ln_setI]; omega)) (by first | omega | (simp only [ln_setI]; omega)) (by first | assumption | (simp only [hr_setI]; assumption)) ?_
    refine wp_iload_n d_83_26 (by rfl) ?_
    refine wp_aload_n d_83_27 (by rfl) ?_
    refine wp_getR (0) d_83_28 fl_9_11 rfl rfl (by first | assumption | (simp only [kd_setI]; assumption)) (by first | assumption | (simp only [hr_setI]; assumption)) ?_
    refine wp_iload_n d_83_31 (by rfl) ?_
    refine wp_aald d_83_32 (by first | omega | (simp only [kd_setI, kd_cpI]; omega)) (by first | omega | (simp only [kd_setI, kd_cpI]; omega)) (by apply isRf_of; assumption; rfl) (by first | omega | (simp only [ln_setI]; omega)) (by first | omega | (simp only [ln_setI]; omega)) (by first | assumption | (simp only [hr_setI]; assumption)) ?_
    refine wp_iload_n d_83_33 (by rfl) ?_
    refine wp_iald d_83_34 (Or.inl (by first | assumption | (simp only [kd_setI]; assumption))) (by first | omega | (simp only [ln_setI]; omega)) (by first | omega | (simp only [ln_setI]; omega)) (fun x_34 e_34 r_34 => ?_)
    refine wp_iload d_83_35 (by rfl) ?_
    refine wp_callS d_83_37 c_83_96 rfl (by rfl) (by rfl) (by exact Nat.le_of_ble_eq_true rfl) (by exact Nat.le_of_ble_eq_true rfl) (s_min (by omega) (by omega)) (fun v_37 h_37 q_37 => ?_) (fun _ _ q => q.elim)
    obtain ⟨rfl, z_37⟩ := q_37
    replace z_37 := z_37.symm
    subst z_37
    refine wp_iast d_83_40 (by first | assumption | (simp only [kd_setI]; assumption)) (by first | omega | (simp only [ln_setI]; omega)) (by first | omega | (simp only [ln_setI]; omega)) (by first | omega | (simp only [ln_setI]; omega)) ?_
    refine wp_aload_n d_83_41 (by rfl) ?_
    refine wp_getR (1) d_83_42 fl_9_16 rfl rfl (by first | assumption | (simp only [kd_setI]; assumption)) (by first | assumption | (simp only [hr_setI]; assumption)) ?_
    refine wp_iload_n d_83_45 (by rfl) ?_
    refine wp_aald d_83_46 (by first | omega | (simp only [kd_setI, kd_cpI]; omega)) (by first | omega | (simp only [kd_setI, kd_cpI]; omega)) (by apply isRf_of; assumption; rfl) (by first | omega | (simp only [ln_setI]; omega)) (by first | omega | (simp only [ln_setI]; omega)) (by first | assumption | (simp only [hr_setI]; assumption)) ?_
    refine wp_iload_n d_83_47 (by rfl) ?_
    refine wp_aload_n d_83_48 (by rfl) ?_
    refine wp_getR (1) d_83_49 fl_9_16 rfl rfl (by first | assumption | (simp only [kd_setI]; assumption)) (by first | assumption | (simp only [hr_setI]; assumption)) ?_
    refine wp_iload_n d_83_52 (by rfl) ?_
    refine wp_aald d_83_53 (by first | omega | (simp only [kd_setI, kd_cpI]; omega)) (by first | omega | (simp only [kd_setI, kd_cpI]; omega)) (by apply isRf_of; assumption; rfl) (by first | omega | (simp only [ln_setI]; omega)) (by first | omega | (simp only [ln_setI]; omega)) (by first | assumption | (simp only [hr_setI]; assumption)) ?_
    refine wp_iload_n d_83_54 (by rfl) ?_
    refine wp_iald d_83_55 (Or.inl (by first | assumption | (simp only [kd_setI]; assumption))) (by first | omega | (simp only [ln_setI]; omega)) (by first | omega | (simp only [ln_setI]; omega)) (fun x_55 e_55 r_55 => ?_)
    rw [hi_setI, up2_ne _ _ (by omega)] at e_55
    refine wp_iload d_83_56 (by rfl) ?_
    refine wp_callS d_83_58 c_83_96 rfl (by rfl) (by rfl) (by exact Nat.le_of_ble_eq_true rfl) (by exact Nat.le_of_ble_eq_true rfl) (s_min (by omega) (by omega)) (fun v_58 h_58 q_58 => ?_) (fun _ _ q => q.elim)
    obtain ⟨rfl, z_58⟩ := q_58
    replace z_58 := z_58.symm
    subst z_58
    refine wp_iast d_83_61 (by first | assumption | (simp only [kd_setI]; assumption)) (by first | omega | (simp only [ln_setI]; omega)) (by first | omega | (simp only [ln_setI]; omega)) (by first | omega | (simp only [ln_setI]; omega)) ?_
    refine wp_vret d_83_62 rfl ?_
    first
      | (refine ⟨rfl, ch.rfl, ?_, ?_⟩ <;> (unfold crossF; rw [if_neg (by omega)]))
      | (refine ⟨rfl, (ch_setI (Or.inl rfl)).trans (ch_setI (Or.inr rfl)), ?_, ?_⟩
         · rw [hi_setI]
           unfold crossF
           rw [if_pos (by omega)]
           funext q
           unfold up2 upF
           rw [if_neg (fun z => absurd z.1 (by omega)), hi_setI]
           unfold up2
           by_cases hq : q = s'
           · rw [if_pos ⟨rfl, hq⟩, if_pos hq, e_34, e_5]
           · rw [if_neg (fun z => hq z.2), if_neg hq]
         · rw [hi_upF]
           unfold crossF
           rw [if_pos (by omega), e_55, e_5, hi_setI_ne (by omega)])
set_option maxRecDepth 100000 in
set_option maxHeartbeats 4000000 in
theorem l_walk {w X K : Nat} {h0 : Hp} (hS0 : Sk h0 w) (hT0 : TT h0 w X) (hK : K < 7) (hf : Bd (hi h0 (w + 1) 4) (hi h0 (w + 29))) {Q : Option AV → Hp → Prop} : ∀ (m : Nat) (i : Int) (h : Hp), i + m = hi h0 (w + 1) 5 → 0 ≤ i → ch (PW w K) nP h0 h → WlkI (hi h0 (w + 1) 4) (WyI h0 w) (hi h0 (w + 12) 3) (hi h0 (w + 29)) (hi h0 (w + 14 + K)) (hi h (w + 14 + K)) i → WlkI (hi h0 (w + 1) 4) (WyI h0 w) (hi h0 (w + 12) 3) (hi h0 (w + 29)) (hi h0 (w + 22 + K)) (hi h (w + 22 + K)) i → (∀ h', ch (PW w K) nP h0 h' → WlkI (hi h0 (w + 1) 4) (WyI h0 w) (hi h0 (w + 12) 3) (hi h0 (w + 29)) (hi h0 (w + 14 + K)) (hi h' (w + 14 + K)) (hi h0 (w + 1) 5) → WlkI (hi h0 (w + 1) 4) (WyI h0 w) (hi h0 (w + 12) 3) (hi h0 (w + 29)) (hi h0 (w + 22 + K)) (hi h' (w + 22 + K)) (hi h0 (w + 1) 5) → Q none h') → wp 82 2 [some (vR (some (w + 12))), some (vR (some (w + 1))), some (vI (K : Int)), some (vI i), none] [] h Q noX := by
  intro m
  have hn := hT0.1
  have hn5 := hT0.2.1
  have hT5 := hT0.2.2.2.2.1
  induction m with
  | zero =>
    intro i h e0 e1 E I1 I2 k
    obtain rfl : i = hi h0 (w + 1) 5 := by omega
    have hS := hS0.ch E hT0
    have E8 := E.2.2.2.2.2.2.2.1
    have pw : ¬ PW w K (w + 1) := fun z => by unfold PW at z; omega
    obtain ⟨⟨k1, k2, k3, k4, k5, k6, k7⟩, ⟨n1, ⟨n2, n3, n4, n5⟩, ⟨n6, n7⟩, ⟨n8, n9⟩, ⟨n10, n11⟩, n12, n13⟩, ⟨m1, ⟨m2, m3, m4⟩, ⟨m5, m6⟩, ⟨m7, m8⟩, m9, m10⟩, ⟨o1, ⟨o2, o3, o4⟩, ⟨o5, o6, o7⟩, ⟨o8, o9, o10⟩, o11, o12⟩, ⟨b1, ⟨b2, b3⟩, ⟨b4, b5, b6⟩, b7, b8, b9⟩, ⟨j1, ⟨j2, j3, j4, j5, j6, j7, j8⟩, ⟨j9, j10⟩, j11⟩⟩ := hS
    refine wp_iload_n d_82_2 (by rfl) ?_
    refine wp_aload_n d_82_3 (by rfl) ?_
    refine wp_getI (5) d_82_4 fl_9_105 rfl rfl (by assumption) (fun x_4 e_4 r_4 => ?_)
    rw [E8 _ _ pw] at e_4
    refine wp_icmp_ge (tgt := 64) d_82_7 (by decide) (by omega) (by omega) (fun c_7 => ?_) (fun c_7 => ?_)
    rotate_left
    · exact absurd c_7 (by omega)
    refine wp_vret d_82_64 rfl ?_
    exact k h E I1 I2
  | succ m ih =>
    intro i h e0 e1 E I1 I2 k
    have hS := hS0.ch E hT0
    have E8 := E.2.2.2.2.2.2.2.1
    have pw : ¬ PW w K (w + 1) := fun z => by unfold PW at z; omega
    have hS9 := hS
    obtain ⟨⟨k1, k2, k3, k4, k5, k6, k7⟩, ⟨n1, ⟨n2, n3, n4, n5⟩, ⟨n6, n7⟩, ⟨n8, n9⟩, ⟨n10, n11⟩, n12, n13⟩, ⟨m1, ⟨m2, m3, m4⟩, ⟨m5, m6⟩, ⟨m7, m8⟩, m9, m10⟩, ⟨o1, ⟨o2, o3, o4⟩, ⟨o5, o6, o7⟩, ⟨o8, o9, o10⟩, o11, o12⟩, ⟨b1, ⟨b2, b3⟩, ⟨b4, b5, b6⟩, b7, b8, b9⟩, ⟨j1, ⟨j2, j3, j4, j5, j6, j7, j8⟩, ⟨j9, j10⟩, j11⟩⟩ := hS
    obtain ⟨a, g1, g2, g3, g4, g5, g6, g7⟩ := hT5 i e1 (by omega)
    have pa : ¬ PW w K a := fun z => by unfold PW at z; omega
    have pf : ¬ PW w K (w + 29) := fun z => by unfold PW at z; omega
    have pl : ¬ PW w K (w + 12) := fun z => by unfold PW at z; omega
    have f1 : hr h (w + 3) i = some a := (E.2.2.2.2.2.2.2.2 _ _ id).trans g1
    have ka : kd h a = 6 := (congrFun E.1 a).trans g4
    have ef : hi h (w + 29) = hi h0 (w + 29) := funext fun q => E8 _ q pf
    have el : hi h (w + 12) 3 = hi h0 (w + 12) 3 := E8 _ _ pl
    have bf0 := hf (hi h0 a 0) (by omega) (by omega)
    have bf1 := hf (hi h0 a 1) (by omega) (by omega)
    refine wp_iload_n d_82_2 (by rfl) ?_
    refine wp_aload_n d_82_3 (by rfl) ?_
    refine wp_getI (5) d_82_4 fl_9_105 rfl rfl (by first | assumption) (fun x_4 e_4 r_4 => ?_)
    (try rw [E8 _ _ pa] at e_4)
    (try rw [E8b _ _ pa] at e_4)
    rw [E8 _ _ pw] at e_4
    refine wp_icmp_ge (tgt := 64) d_82_7 (by decide) (by omega) (by omega) (fun c_7 => ?_) (fun c_7 => ?_)
    · exact absurd c_7 (by omega)
    refine wp_aload_n d_82_10 (by rfl) ?_
    refine wp_getR (1) d_82_11 fl_9_108 rfl rfl (by first | assumption) (by assumption) ?_
    refine wp_iload_n d_82_14 (by rfl) ?_
    refine wp_aald d_82_15 (by first | omega | (simp only [kd_setI, kd_cpI]; omega)) (by first | omega | (simp only [kd_setI, kd_cpI]; omega)) (by apply isRf_of; assumption; rfl) (by omega) (by omega) (by assumption) ?_
    refine wp_astore d_82_16 (by decide) ?_
    refine wp_aload_n d_82_18 (by rfl) ?_
    refine wp_iload_n d_82_19 (by rfl) ?_
    refine wp_aload d_82_20 (by rfl) ?_
    refine wp_getI (0) d_82_22 fl_9_112 rfl rfl (by first | assumption) (fun x_22 e_22 r_22 => ?_)
    (try rw [E8 _ _ pa] at e_22)
    (try rw [E8b _ _ pa] at e_22)
    refine wp_aload d_82_25 (by rfl) ?_
    refine wp_getI (1) d_82_27 fl_9_117 rfl rfl (by first | assumption) (fun x_27 e_27 r_27 => ?_)
    (try rw [E8 _ _ pa] at e_27)
    (try rw [E8b _ _ pa] at e_27)
    refine wp_aload d_82_30 (by rfl) ?_
    refine wp_getI (2) d_82_32 fl_9_120 rfl rfl (by first | assumption) (fun x_32 e_32 r_32 => ?_)
    (try rw [E8 _ _ pa] at e_32)
    (try rw [E8b _ _ pa] at e_32)
    refine wp_callV d_82_35 c_82_123 rfl (by rfl) (by rfl) ⟨9, rfl, rfl, by decide⟩ (by first | assumption) (by exact Nat.le_of_ble_eq_true rfl) (by exact Nat.le_of_ble_eq_true rfl) (s_cross hS9 hK (by omega) (by omega) (by omega) (by rw [ef, e_22]; exact bf0)) (fun v_35 h_35 q_35 => ?_) (fun _ _ q => q.elim)
    obtain ⟨rfl, E1, R1, R2⟩ := q_35
    have E8b := (E.trans E1).2.2.2.2.2.2.2.1
    have hS1 := hS0.ch (E.trans E1) hT0
    have ka1 : kd h_35 a = 6 := (congrFun (E.trans E1).1 a).trans g4
    have ko1 : kd h_35 (w + 12) = 10 := hS1.2.2.2.1.1
    have ef1 : hi h_35 (w + 29) = hi h0 (w + 29) := funext fun q => E8b _ q pf
    have el1 : hi h_35 (w + 12) 3 = hi h0 (w + 12) 3 := E8b _ _ pl
    refine wp_aload_n d_82_38 (by rfl) ?_
    refine wp_iload_n d_82_39 (by rfl) ?_
    refine wp_aload d_82_40 (by rfl) ?_
    refine wp_getI (1) d_82_42 fl_9_117 rfl rfl (by first | assumption) (fun x_42 e_42 r_42 => ?_)
    (try rw [E8 _ _ pa] at e_42)
    (try rw [E8b _ _ pa] at e_42)
    refine wp_aload d_82_45 (by rfl) ?_
    refine wp_getI (0) d_82_47 fl_9_112 rfl rfl (by first | assumption) (fun x_47 e_47 r_47 => ?_)
    (try rw [E8 _ _ pa] at e_47)
    (try rw [E8b _ _ pa] at e_47)
    refine wp_aload d_82_50 (by rfl) ?_
    refine wp_getI (2) d_82_52 fl_9_120 rfl rfl (by first | assumption) (fun x_52 e_52 r_52 => ?_)
    (try rw [E8 _ _ pa] at e_52)
    (try rw [E8b _ _ pa] at e_52)
    refine wp_callV d_82_55 c_82_123 rfl (by rfl) (by rfl) ⟨9, rfl, rfl, by decide⟩ (by first | assumption) (by exact Nat.le_of_ble_eq_true rfl) (by exact Nat.le_of_ble_eq_true rfl) (s_cross hS1 hK (by omega) (by omega) (by omega) (by rw [ef1, e_42]; exact bf1)) (fun v_55 h_55 q_55 => ?_) (fun _ _ q => q.elim)
    obtain ⟨rfl, E2, R3, R4⟩ := q_55
    refine wp_iinc d_82_58 (by rfl) (by decide) ?_
    refine wp_goto (tgt := 2) d_82_61 (by decide) ?_
    refine wp_to [some (vR (some (w + 12))), some (vR (some (w + 1))), some (vI (K : Int)), some (vI (i + 1)), none] ⟨rfl, rfl, rfl, rfl, trivial⟩ ?_
    refine ih (i + 1) _ (by omega) (by omega) ((E.trans E1).trans E2) ?_ ?_ k
    · rw [R3, R1, ef, el, ef1, el1, e_22, e_27, e_32, e_42, e_47, e_52]
      exact I1.step (fun s s' m' => ⟨fun ⟨_, a', z1, z2, z3⟩ => by cases z1.symm.trans g1; exact ⟨z2, z3⟩, fun ⟨z2, z3⟩ => ⟨e1, a, g1, z2, z3⟩⟩)
    · rw [R4, R2, ef, el, ef1, el1, e_22, e_27, e_32, e_42, e_47, e_52]
      exact I2.step (fun s s' m' => ⟨fun ⟨_, a', z1, z2, z3⟩ => by cases z1.symm.trans g1; exact ⟨z2, z3⟩, fun ⟨z2, z3⟩ => ⟨e1, a, g1, z2, z3⟩⟩)
set_option maxRecDepth 100000 in
set_option maxHeartbeats 4000000 in
theorem s_walk {w X K : Nat} {h0 : Hp} (hS0 : Sk h0 w) (hT0 : TT h0 w X) (hK : K < 7) (hf : Bd (hi h0 (w + 1) 4) (hi h0 (w + 29))) : wp 82 0 (entL [vR (some (w + 12)), vR (some (w + 1)), vI (K : Int)] (mL 82)) [] h0 (fun v h' => v = none ∧ ch (PW w K) nP h0 h' ∧ WalkR (hi h0 (w + 1) 4) (Wy h0 w) (hi h0 (w + 12) 3) (hi h0 (w + 29)) (hi h0 (w + 14 + K)) (hi h' (w + 14 + K)) ∧ WalkR (hi h0 (w + 1) 4) (Wy h0 w) (hi h0 (w + 12) 3) (hi h0 (w + 29)) (hi h0 (w + 22 + K)) (hi h' (w + 22 + K))) noX := by
  refine wp_iconst d_82_0 ?_
  refine wp_istore_n d_82_1 (by decide) ?_
  refine wp_to [some (vR (some (w + 12))), some (vR (some (w + 1))), some (vI (K : Int)), some (vI 0), none] ⟨rfl, rfl, rfl, rfl, trivial⟩ ?_
  have hn5 := hT0.2.1
  exact l_walk hS0 hT0 hK hf (hi h0 (w + 1) 5).toNat 0 h0 (by omega) (by omega) ch.rfl (WlkI.start fun q s s' m z => z.1) (WlkI.start fun q s s' m z => z.1) (fun h' E I1 I2 => ⟨rfl, E, I1.done (fun s s' m => Wy_iff), I2.done (fun s s' m => Wy_iff)⟩)
