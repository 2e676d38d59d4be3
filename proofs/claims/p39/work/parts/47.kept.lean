/-! ===== the kept journey ===== -/
abbrev szJ (h : Hp) (w : Nat) : Int := hi h (w + 146) 4
/-- the stop, the time ahead of the leg k; is the leg ahead of it a ride? -/
def spJ (h : Hp) (w : Nat) (k : Int) : Int := if k = 0 then hi h (w + 146) 1 else hi h (w + 151) (k - 1)
def tmJ (h : Hp) (w : Nat) (k : Int) : Int := if k = 0 then hi h (w + 146) 3 else hi h (w + 153) (k - 1)
abbrev afJ (h : Hp) (w : Nat) (k : Int) : Prop := 0 < k ∧ hr h (w + 147) (k - 1) ≠ none
def snJ (h : Hp) (w : Nat) (k : Int) : Int := tmJ h w k + if afJ h w k then hi h (w + 2) (spJ h w k) else 0
/-- what adding legs changes -/
def PJ (w : Nat) : Nat → Prop := fun a => a = w + 146 ∨ (w + 148 ≤ a ∧ a ≤ w + 153)
def PJR (w : Nat) : Nat → Prop := fun a => a = w + 147
theorem PJoff {w X : Nat} : Off w X (PJ w) (PJR w) := ⟨fun a z => by unfold PJ at z; omega, fun a z => by unfold PJR at z; omega⟩
/-- a leg more -/
def App (h h' : Hp) (w : Nat) (r : Option Nat) (dd i j tg bg en tt ff : Int) : Prop := ch (PJ w) (PJR w) h h' ∧ (∀ k, hr h' (w + 147) k = if k = szJ h w then r else hr h (w + 147) k) ∧
  (hi h' (w + 148) = upF (hi h (w + 148)) (szJ h w) dd ∧ hi h' (w + 149) = upF (hi h (w + 149)) (szJ h w) i ∧ hi h' (w + 150) = upF (hi h (w + 150)) (szJ h w) j) ∧
  (hi h' (w + 151) = upF (hi h (w + 151)) (szJ h w) tg ∧ hi h' (w + 152) = upF (hi h (w + 152)) (szJ h w) bg ∧ hi h' (w + 153) = upF (hi h (w + 153)) (szJ h w) en) ∧
  (hi h' (w + 146) 1 = hi h (w + 146) 1 ∧ hi h' (w + 146) 2 = hi h (w + 146) 2 ∧ hi h' (w + 146) 3 = hi h (w + 146) 3) ∧ hi h' (w + 146) 4 = szJ h w + 1 ∧ hi h' (w + 146) 12 = tt ∧ hi h' (w + 146) 13 = ff
theorem upF_self (f : Int → Int) (s : Int) : upF f s (f s) = f := funext fun j => by
  unfold upF
  by_cases c : j = s
  · rw [if_pos c, c]
  · rw [if_neg c]
set_option maxRecDepth 100000 in
set_option maxHeartbeats 4000000 in
theorem s_stopNow {w : Nat} {h : Hp} (hS : Sk h w) (hz : 0 ≤ szJ h w ∧ szJ h w ≤ 13) : wp 61 0 (entL [vR (some (w + 146))] (mL 61)) [] h (fun v h' => v = some (vI (spJ h w (szJ h w))) ∧ h' = h) noX := by
  obtain ⟨⟨k1, k2, k3, k4, k5, k6, k7⟩, ⟨n1, ⟨n2, n3, n4, n5⟩, ⟨n6, n7⟩, ⟨n8, n9⟩, ⟨n10, n11⟩, n12, n13⟩, ⟨m1, ⟨m2, m3, m4⟩, ⟨m5, m6⟩, ⟨m7, m8⟩, m9, m10⟩, ⟨o1, ⟨o2, o3, o4⟩, ⟨o5, o6, o7⟩, ⟨o8, o9, o10⟩, o11, o12⟩, ⟨b1, ⟨b2, b3⟩, ⟨b4, b5, b6⟩, b7, b8, b9⟩, ⟨j1, ⟨j2, j3, j4, j5, j6, j7, j8⟩, ⟨j9, j10⟩, j11⟩⟩ := hS
  obtain ⟨x1, x2⟩ := j11 0 (by decide)
  obtain ⟨y1, y2⟩ := j11 1 (by decide)
  obtain ⟨z1, z2⟩ := j11 2 (by decide)
  obtain ⟨p1, p2⟩ := j11 3 (by decide)
  obtain ⟨q1, q2⟩ := j11 4 (by decide)
  obtain ⟨s1, s2⟩ := j11 5 (by decide)
  rw [Nat.add_zero] at x1 x2
  have y1 : kd h (w + 149) = 100 := y1
  have y2 : ln h (w + 149) = 13 := y2
  have z1 : kd h (w + 150) = 100 := z1
  have z2 : ln h (w + 150) = 13 := z2
  have p1 : kd h (w + 151) = 100 := p1
  have p2 : ln h (w + 151) = 13 := p2
  have q1 : kd h (w + 152) = 100 := q1
  have q2 : ln h (w + 152) = 13 := q2
  have s1 : kd h (w + 153) = 100 := s1
  have s2 : ln h (w + 153) = 13 := s2
  have sz0 : szJ h w = hi h (w + 146) 4 := rfl
  have hz1 : 0 ≤ hi h (w + 146) 4 ∧ hi h (w + 146) 4 ≤ 13 := hz
  refine wp_aload_n d_61_0 (by rfl) ?_
  refine wp_getI (4) d_61_1 fl_6_50 rfl rfl (by assumption) (fun x_1 e_1 r_1 => ?_)
  subst e_1
  refine wp_if_le (tgt := 21) d_61_4 (by decide) (by omega) (fun c_4 => ?_) (fun c_4 => ?_)
  · refine wp_aload_n d_61_21 (by rfl) ?_
    refine wp_getI (1) d_61_22 fl_6_40 rfl rfl (by assumption) (fun x_22 e_22 r_22 => ?_)
    subst e_22
    refine wp_iret d_61_25 rfl ?_
    refine ⟨?_, rfl⟩
    unfold spJ
    first
      | rw [if_pos (by omega)]
      | rw [if_neg (by omega)]
  · refine wp_aload_n d_61_7 (by rfl) ?_
    refine wp_getR (9) d_61_8 fl_6_27 rfl rfl (by assumption) (by assumption) ?_
    refine wp_aload_n d_61_11 (by rfl) ?_
    refine wp_getI (4) d_61_12 fl_6_50 rfl rfl (by assumption) (fun x_12 e_12 r_12 => ?_)
    subst e_12
    refine wp_iconst d_61_15 ?_
    refine wp_isub d_61_16 ?_
    refine wp_iald d_61_17 (Or.inl (by assumption)) (by omega) (by omega) (fun x_17 e_17 r_17 => ?_)
    subst e_17
    refine wp_goto (tgt := 25) d_61_18 (by decide) ?_
    refine wp_iret d_61_25 rfl ?_
    refine ⟨?_, rfl⟩
    unfold spJ
    first
      | rw [if_pos (by omega)]
      | rw [if_neg (by omega)]
set_option maxRecDepth 100000 in
set_option maxHeartbeats 4000000 in
theorem s_timeNow {w : Nat} {h : Hp} (hS : Sk h w) (hz : 0 ≤ szJ h w ∧ szJ h w ≤ 13) : wp 63 0 (entL [vR (some (w + 146))] (mL 63)) [] h (fun v h' => v = some (vI (tmJ h w (szJ h w))) ∧ h' = h) noX := by
  obtain ⟨⟨k1, k2, k3, k4, k5, k6, k7⟩, ⟨n1, ⟨n2, n3, n4, n5⟩, ⟨n6, n7⟩, ⟨n8, n9⟩, ⟨n10, n11⟩, n12, n13⟩, ⟨m1, ⟨m2, m3, m4⟩, ⟨m5, m6⟩, ⟨m7, m8⟩, m9, m10⟩, ⟨o1, ⟨o2, o3, o4⟩, ⟨o5, o6, o7⟩, ⟨o8, o9, o10⟩, o11, o12⟩, ⟨b1, ⟨b2, b3⟩, ⟨b4, b5, b6⟩, b7, b8, b9⟩, ⟨j1, ⟨j2, j3, j4, j5, j6, j7, j8⟩, ⟨j9, j10⟩, j11⟩⟩ := hS
  obtain ⟨x1, x2⟩ := j11 0 (by decide)
  obtain ⟨y1, y2⟩ := j11 1 (by decide)
  obtain ⟨z1, z2⟩ := j11 2 (by decide)
  obtain ⟨p1, p2⟩ := j11 3 (by decide)
  obtain ⟨q1, q2⟩ := j11 4 (by decide)
  obtain ⟨s1, s2⟩ := j11 5 (by decide)
  rw [Nat.add_zero] at x1 x2
  have y1 : kd h (w + 149) = 100 := y1
  have y2 : ln h (w + 149) = 13 := y2
  have z1 : kd h (w + 150) = 100 := z1
  have z2 : ln h (w + 150) = 13 := z2
  have p1 : kd h (w + 151) = 100 := p1
  have p2 : ln h (w + 151) = 13 := p2
  have q1 : kd h (w + 152) = 100 := q1
  have q2 : ln h (w + 152) = 13 := q2
  have s1 : kd h (w + 153) = 100 := s1
  have s2 : ln h (w + 153) = 13 := s2
  have sz0 : szJ h w = hi h (w + 146) 4 := rfl
  have hz1 : 0 ≤ hi h (w + 146) 4 ∧ hi h (w + 146) 4 ≤ 13 := hz
  refine wp_aload_n d_63_0 (by rfl) ?_
  refine wp_getI (4) d_63_1 fl_6_50 rfl rfl (by assumption) (fun x_1 e_1 r_1 => ?_)
  subst e_1
  refine wp_if_le (tgt := 21) d_63_4 (by decide) (by omega) (fun c_4 => ?_) (fun c_4 => ?_)
  · refine wp_aload_n d_63_21 (by rfl) ?_
    refine wp_getI (3) d_63_22 fl_6_47 rfl rfl (by assumption) (fun x_22 e_22 r_22 => ?_)
    subst e_22
    refine wp_iret d_63_25 rfl ?_
    refine ⟨?_, rfl⟩
    unfold tmJ
    first
      | rw [if_pos (by omega)]
      | rw [if_neg (by omega)]
  · refine wp_aload_n d_63_7 (by rfl) ?_
    refine wp_getR (11) d_63_8 fl_6_33 rfl rfl (by assumption) (by assumption) ?_
    refine wp_aload_n d_63_11 (by rfl) ?_
    refine wp_getI (4) d_63_12 fl_6_50 rfl rfl (by assumption) (fun x_12 e_12 r_12 => ?_)
    subst e_12
    refine wp_iconst d_63_15 ?_
    refine wp_isub d_63_16 ?_
    refine wp_iald d_63_17 (Or.inl (by assumption)) (by omega) (by omega) (fun x_17 e_17 r_17 => ?_)
    subst e_17
    refine wp_goto (tgt := 25) d_63_18 (by decide) ?_
    refine wp_iret d_63_25 rfl ?_
    refine ⟨?_, rfl⟩
    unfold tmJ
    first
      | rw [if_pos (by omega)]
      | rw [if_neg (by omega)]
set_option maxRecDepth 100000 in
set_option maxHeartbeats 4000000 in
theorem s_isAfterRide {w : Nat} {h : Hp} (hS : Sk h w) (hz : 0 ≤ szJ h w ∧ szJ h w ≤ 13) : wp 64 0 (entL [vR (some (w + 146))] (mL 64)) [] h (fun v h' => ∃ z, v = some (vI z) ∧ h' = h ∧ ((z = 1 ∧ afJ h w (szJ h w)) ∨ (z = 0 ∧ ¬ afJ h w (szJ h w)))) noX := by
  obtain ⟨⟨k1, k2, k3, k4, k5, k6, k7⟩, ⟨n1, ⟨n2, n3, n4, n5⟩, ⟨n6, n7⟩, ⟨n8, n9⟩, ⟨n10, n11⟩, n12, n13⟩, ⟨m1, ⟨m2, m3, m4⟩, ⟨m5, m6⟩, ⟨m7, m8⟩, m9, m10⟩, ⟨o1, ⟨o2, o3, o4⟩, ⟨o5, o6, o7⟩, ⟨o8, o9, o10⟩, o11, o12⟩, ⟨b1, ⟨b2, b3⟩, ⟨b4, b5, b6⟩, b7, b8, b9⟩, ⟨j1, ⟨j2, j3, j4, j5, j6, j7, j8⟩, ⟨j9, j10⟩, j11⟩⟩ := hS
  obtain ⟨x1, x2⟩ := j11 0 (by decide)
  obtain ⟨y1, y2⟩ := j11 1 (by decide)
  obtain ⟨z1, z2⟩ := j11 2 (by decide)
  obtain ⟨p1, p2⟩ := j11 3 (by decide)
  obtain ⟨q1, q2⟩ := j11 4 (by decide)
  obtain ⟨s1, s2⟩ := j11 5 (by decide)
  rw [Nat.add_zero] at x1 x2
  have y1 : kd h (w + 149) = 100 := y1
  have y2 : ln h (w + 149) = 13 := y2
  have z1 : kd h (w + 150) = 100 := z1
  have z2 : ln h (w + 150) = 13 := z2
  have p1 : kd h (w + 151) = 100 := p1
  have p2 : ln h (w + 151) = 13 := p2
  have q1 : kd h (w + 152) = 100 := q1
  have q2 : ln h (w + 152) = 13 := q2
  have s1 : kd h (w + 153) = 100 := s1
  have s2 : ln h (w + 153) = 13 := s2
  have sz0 : szJ h w = hi h (w + 146) 4 := rfl
  have hz1 : 0 ≤ hi h (w + 146) 4 ∧ hi h (w + 146) 4 ≤ 13 := hz
  refine wp_aload_n d_64_0 (by rfl) ?_
  refine wp_getI (4) d_64_1 fl_6_50 rfl rfl (by assumption) (fun x_1 e_1 r_1 => ?_)
  subst e_1
  refine wp_if_le (tgt := 25) d_64_4 (by decide) (by omega) (fun c_4 => ?_) (fun c_4 => ?_)
  · refine wp_iconst d_64_25 ?_
    refine wp_zret d_64_26 rfl (by omega) ?_
    first
      | (exact ⟨_, rfl, rfl, Or.inr ⟨rfl, fun z => absurd z.1 (by omega)⟩⟩)
      | (exact ⟨_, rfl, rfl, Or.inr ⟨rfl, fun z => z.2 c_18⟩⟩)
      | (exact ⟨_, rfl, rfl, Or.inl ⟨rfl, by omega, fun z => by rw [c_18] at z; cases z⟩⟩)
  · refine wp_aload_n d_64_7 (by rfl) ?_
    refine wp_getR (5) d_64_8 fl_6_11 rfl rfl (by assumption) (by first | assumption | rfl) ?_
    refine wp_aload_n d_64_11 (by rfl) ?_
    refine wp_getI (4) d_64_12 fl_6_50 rfl rfl (by assumption) (fun x_12 e_12 r_12 => ?_)
    subst e_12
    refine wp_iconst d_64_15 ?_
    refine wp_isub d_64_16 ?_
    refine wp_aald d_64_17 (by first | omega | (simp only [kd_setI, kd_cpI]; omega)) (by first | omega | (simp only [kd_setI, kd_cpI]; omega)) (by apply isRf_of; assumption; rfl) (by omega) (by omega) (by first | assumption | rfl) ?_
    refine wp_ifnull (tgt := 25) d_64_18 (by decide) (fun c_18 => ?_) (fun a_18 c_18 => ?_)
    · refine wp_iconst d_64_25 ?_
      refine wp_zret d_64_26 rfl (by omega) ?_
      first
        | (exact ⟨_, rfl, rfl, Or.inr ⟨rfl, fun z => absurd z.1 (by omega)⟩⟩)
        | (exact ⟨_, rfl, rfl, Or.inr ⟨rfl, fun z => z.2 c_18⟩⟩)
        | (exact ⟨_, rfl, rfl, Or.inl ⟨rfl, by omega, fun z => by rw [c_18] at z; cases z⟩⟩)
    · refine wp_iconst d_64_21 ?_
      refine wp_goto (tgt := 26) d_64_22 (by decide) ?_
      refine wp_zret d_64_26 rfl (by omega) ?_
      first
        | (exact ⟨_, rfl, rfl, Or.inr ⟨rfl, fun z => absurd z.1 (by omega)⟩⟩)
        | (exact ⟨_, rfl, rfl, Or.inr ⟨rfl, fun z => z.2 c_18⟩⟩)
        | (exact ⟨_, rfl, rfl, Or.inl ⟨rfl, by omega, fun z => by rw [c_18] at z; cases z⟩⟩)
set_option maxRecDepth 100000 in
set_option maxHeartbeats 4000000 in
theorem s_ask {w : Nat} {o d T : Int} {h : Hp} (hS : Sk h w) (ho : inR o) (hd : inR d) (hT : inR T) : wp 59 0 (entL [vR (some (w + 146)), vI o, vI d, vI T] (mL 59)) [] h (fun v h' => v = none ∧ ch (· = w + 146) nP h h' ∧ hi h' (w + 146) 0 = 0 ∧ hi h' (w + 146) 1 = o ∧ hi h' (w + 146) 2 = d ∧ hi h' (w + 146) 3 = T ∧ hi h' (w + 146) 4 = 0 ∧ hi h' (w + 146) 12 = -1 ∧ hi h' (w + 146) 13 = 0) noX := by
  obtain ⟨⟨k1, k2, k3, k4, k5, k6, k7⟩, ⟨n1, ⟨n2, n3, n4, n5⟩, ⟨n6, n7⟩, ⟨n8, n9⟩, ⟨n10, n11⟩, n12, n13⟩, ⟨m1, ⟨m2, m3, m4⟩, ⟨m5, m6⟩, ⟨m7, m8⟩, m9, m10⟩, ⟨o1, ⟨o2, o3, o4⟩, ⟨o5, o6, o7⟩, ⟨o8, o9, o10⟩, o11, o12⟩, ⟨b1, ⟨b2, b3⟩, ⟨b4, b5, b6⟩, b7, b8, b9⟩, ⟨j1, ⟨j2, j3, j4, j5, j6, j7, j8⟩, ⟨j9, j10⟩, j11⟩⟩ := hS
  refine wp_aload_n d_59_0 (by rfl) ?_
  refine wp_iconst d_59_1 ?_
  refine wp_putI (0) d_59_2 fl_6_36 rfl rfl (Or.inl (by rfl)) (by first | assumption | (simp only [kd_setI, kd_setR]; assumption)) (by omega) (fun _ => by omega) ?_
  refine wp_aload_n d_59_5 (by rfl) ?_
  refine wp_iload_n d_59_6 (by rfl) ?_
  refine wp_putI (1) d_59_7 fl_6_40 rfl rfl (Or.inl (by rfl)) (by first | assumption | (simp only [kd_setI, kd_setR]; assumption)) (by omega) (fun q => nomatch q) ?_
  refine wp_aload_n d_59_10 (by rfl) ?_
  refine wp_iload_n d_59_11 (by rfl) ?_
  refine wp_putI (2) d_59_12 fl_6_44 rfl rfl (Or.inl (by rfl)) (by first | assumption | (simp only [kd_setI, kd_setR]; assumption)) (by omega) (fun q => nomatch q) ?_
  refine wp_aload_n d_59_15 (by rfl) ?_
  refine wp_iload_n d_59_16 (by rfl) ?_
  refine wp_putI (3) d_59_17 fl_6_47 rfl rfl (Or.inl (by rfl)) (by first | assumption | (simp only [kd_setI, kd_setR]; assumption)) (by omega) (fun q => nomatch q) ?_
  refine wp_aload_n d_59_20 (by rfl) ?_
  refine wp_iconst d_59_21 ?_
  refine wp_putI (4) d_59_22 fl_6_50 rfl rfl (Or.inl (by rfl)) (by first | assumption | (simp only [kd_setI, kd_setR]; assumption)) (by omega) (fun q => nomatch q) ?_
  refine wp_aload_n d_59_25 (by rfl) ?_
  refine wp_iconst d_59_26 ?_
  refine wp_putI (12) d_59_27 fl_6_53 rfl rfl (Or.inl (by rfl)) (by first | assumption | (simp only [kd_setI, kd_setR]; assumption)) (by omega) (fun q => nomatch q) ?_
  refine wp_aload_n d_59_30 (by rfl) ?_
  refine wp_iconst d_59_31 ?_
  refine wp_putI (13) d_59_32 fl_6_56 rfl rfl (Or.inl (by rfl)) (by first | assumption | (simp only [kd_setI, kd_setR]; assumption)) (by omega) (fun q => nomatch q) ?_
  refine wp_vret d_59_35 rfl ?_
  refine ⟨rfl, ?_, ?_, ?_, ?_, ?_, ?_, ?_, ?_⟩
  · repeat first | exact ch_setI rfl | refine ch.trans ?_ (ch_setI rfl)
  all_goals (repeat first | rw [hi_upF] | rw [upF_same] | rw [upF_ne _ (by decide)])
theorem SkG {h h' : Hp} {w : Nat} (hS : Sk h w) (hw : w + 154 ≤ nx h) (e : ch (PJ w) (PJR w) h h') : Sk h' w := hS.kept e.fm (fun a z => by unfold PJR at z; omega) hw
def addL (h : Hp) (w : Nat) (tg bg en : Int) : Hp := setI (setI (setI (setI h (w + 151) (szJ h w) tg) (w + 152) (szJ h w) bg) (w + 153) (szJ h w) en) (w + 146) 4 (szJ h w + 1)
set_option maxRecDepth 100000 in
set_option maxHeartbeats 4000000 in
theorem s_addLeg {w : Nat} {tg bg en : Int} {h : Hp} (hS : Sk h w) (hz : 0 ≤ szJ h w ∧ szJ h w < 13) (ht : inR tg) (hb : inR bg) (he : inR en) : wp 67 0 (entL [vR (some (w + 146)), vI tg, vI bg, vI en] (mL 67)) [] h (fun v h' => v = none ∧ h' = addL h w tg bg en) noX := by
  obtain ⟨⟨k1, k2, k3, k4, k5, k6, k7⟩, ⟨n1, ⟨n2, n3, n4, n5⟩, ⟨n6, n7⟩, ⟨n8, n9⟩, ⟨n10, n11⟩, n12, n13⟩, ⟨m1, ⟨m2, m3, m4⟩, ⟨m5, m6⟩, ⟨m7, m8⟩, m9, m10⟩, ⟨o1, ⟨o2, o3, o4⟩, ⟨o5, o6, o7⟩, ⟨o8, o9, o10⟩, o11, o12⟩, ⟨b1, ⟨b2, b3⟩, ⟨b4, b5, b6⟩, b7, b8, b9⟩, ⟨j1, ⟨j2, j3, j4, j5, j6, j7, j8⟩, ⟨j9, j10⟩, j11⟩⟩ := hS
  obtain ⟨x1, x2⟩ := j11 0 (by decide)
  obtain ⟨y1, y2⟩ := j11 1 (by decide)
  obtain ⟨z1, z2⟩ := j11 2 (by decide)
  obtain ⟨p1, p2⟩ := j11 3 (by decide)
  obtain ⟨q1, q2⟩ := j11 4 (by decide)
  obtain ⟨s1, s2⟩ := j11 5 (by decide)
  rw [Nat.add_zero] at x1 x2
  have y1 : kd h (w + 149) = 100 := y1
  have y2 : ln h (w + 149) = 13 := y2
  have z1 : kd h (w + 150) = 100 := z1
  have z2 : ln h (w + 150) = 13 := z2
  have p1 : kd h (w + 151) = 100 := p1
  have p2 : ln h (w + 151) = 13 := p2
  have q1 : kd h (w + 152) = 100 := q1
  have q2 : ln h (w + 152) = 13 := q2
  have s1 : kd h (w + 153) = 100 := s1
  have s2 : ln h (w + 153) = 13 := s2
  have hz1 : 0 ≤ hi h (w + 146) 4 ∧ hi h (w + 146) 4 < 13 := hz
  refine wp_aload_n d_67_0 (by rfl) ?_
  refine wp_getR (9) d_67_1 fl_6_27 rfl rfl (by first | assumption | (simp only [kd_setI, kd_setR]; assumption)) (by first | assumption | (simp only [hr_setI]; assumption) | (first | exact rb _ _ _ _ j2 | exact rb _ _ _ _ j3 | exact rb _ _ _ _ j4 | exact rb _ _ _ _ j5 | exact rb _ _ _ _ j6 | exact rb _ _ _ _ j7 | exact rb _ _ _ _ j8 | exact rc _ _ _ _ u1 | exact rc _ _ _ _ u2 | exact rc _ _ _ _ u3) | (simp only [hr_setI]; first | exact rb _ _ _ _ j2 | exact rb _ _ _ _ j3 | exact rb _ _ _ _ j4 | exact rb _ _ _ _ j5 | exact rb _ _ _ _ j6 | exact rb _ _ _ _ j7 | exact rb _ _ _ _ j8 | exact rc _ _ _ _ u1 | exact rc _ _ _ _ u2 | exact rc _ _ _ _ u3)) ?_
  refine wp_aload_n d_67_4 (by rfl) ?_
  refine wp_getI (4) d_67_5 fl_6_50 rfl rfl (by first | assumption | (simp only [kd_setI, kd_setR]; assumption)) (fun x_5 e_5 r_5 => ?_)
  (try rw [hi_setI_ne (by omega)] at e_5)
  (try rw [hi_setI_ne (by omega)] at e_5)
  (try rw [hi_setI_ne (by omega)] at e_5)
  subst e_5
  refine wp_iload_n d_67_8 (by rfl) ?_
  refine wp_iast d_67_9 (by first | assumption | (simp only [kd_setI, kd_setR]; assumption)) (by first | omega | (simp only [ln_setI, ln_setR]; omega)) (by first | omega | (simp only [ln_setI, ln_setR]; omega)) (by first | omega | (simp only [ln_setI, ln_setR]; omega)) ?_
  refine wp_aload_n d_67_10 (by rfl) ?_
  refine wp_getR (10) d_67_11 fl_6_30 rfl rfl (by first | assumption | (simp only [kd_setI, kd_setR]; assumption)) (by first | assumption | (simp only [hr_setI]; assumption) | (first | exact rb _ _ _ _ j2 | exact rb _ _ _ _ j3 | exact rb _ _ _ _ j4 | exact rb _ _ _ _ j5 | exact rb _ _ _ _ j6 | exact rb _ _ _ _ j7 | exact rb _ _ _ _ j8 | exact rc _ _ _ _ u1 | exact rc _ _ _ _ u2 | exact rc _ _ _ _ u3) | (simp only [hr_setI]; first | exact rb _ _ _ _ j2 | exact rb _ _ _ _ j3 | exact rb _ _ _ _ j4 | exact rb _ _ _ _ j5 | exact rb _ _ _ _ j6 | exact rb _ _ _ _ j7 | exact rb _ _ _ _ j8 | exact rc _ _ _ _ u1 | exact rc _ _ _ _ u2 | exact rc _ _ _ _ u3)) ?_
  refine wp_aload_n d_67_14 (by rfl) ?_
  refine wp_getI (4) d_67_15 fl_6_50 rfl rfl (by first | assumption | (simp only [kd_setI, kd_setR]; assumption)) (fun x_15 e_15 r_15 => ?_)
  (try rw [hi_setI_ne (by omega)] at e_15)
  (try rw [hi_setI_ne (by omega)] at e_15)
  (try rw [hi_setI_ne (by omega)] at e_15)
  subst e_15
  refine wp_iload_n d_67_18 (by rfl) ?_
  refine wp_iast d_67_19 (by first | assumption | (simp only [kd_setI, kd_setR]; assumption)) (by first | omega | (simp only [ln_setI, ln_setR]; omega)) (by first | omega | (simp only [ln_setI, ln_setR]; omega)) (by first | omega | (simp only [ln_setI, ln_setR]; omega)) ?_
  refine wp_aload_n d_67_20 (by rfl) ?_
  refine wp_getR (11) d_67_21 fl_6_33 rfl rfl (by first | assumption | (simp only [kd_setI, kd_setR]; assumption)) (by first | assumption | (simp only [hr_setI]; assumption) | (first | exact rb _ _ _ _ j2 | exact rb _ _ _ _ j3 | exact rb _ _ _ _ j4 | exact rb _ _ _ _ j5 | exact rb _ _ _ _ j6 | exact rb _ _ _ _ j7 | exact rb _ _ _ _ j8 | exact rc _ _ _ _ u1 | exact rc _ _ _ _ u2 | exact rc _ _ _ _ u3) | (simp only [hr_setI]; first | exact rb _ _ _ _ j2 | exact rb _ _ _ _ j3 | exact rb _ _ _ _ j4 | exact rb _ _ _ _ j5 | exact rb _ _ _ _ j6 | exact rb _ _ _ _ j7 | exact rb _ _ _ _ j8 | exact rc _ _ _ _ u1 | exact rc _ _ _ _ u2 | exact rc _ _ _ _ u3)) ?_
  refine wp_aload_n d_67_24 (by rfl) ?_
  refine wp_getI (4) d_67_25 fl_6_50 rfl rfl (by first | assumption | (simp only [kd_setI, kd_setR]; assumption)) (fun x_25 e_25 r_25 => ?_)
  (try rw [hi_setI_ne (by omega)] at e_25)
  (try rw [hi_setI_ne (by omega)] at e_25)
  (try rw [hi_setI_ne (by omega)] at e_25)
  subst e_25
  refine wp_iload_n d_67_28 (by rfl) ?_
  refine wp_iast d_67_29 (by first | assumption | (simp only [kd_setI, kd_setR]; assumption)) (by first | omega | (simp only [ln_setI, ln_setR]; omega)) (by first | omega | (simp only [ln_setI, ln_setR]; omega)) (by first | omega | (simp only [ln_setI, ln_setR]; omega)) ?_
  refine wp_aload_n d_67_30 (by rfl) ?_
  refine wp_dup d_67_31 (by rfl) ?_
  refine wp_getI (4) d_67_32 fl_6_50 rfl rfl (by first | assumption | (simp only [kd_setI, kd_setR]; assumption)) (fun x_32 e_32 r_32 => ?_)
  (try rw [hi_setI_ne (by omega)] at e_32)
  (try rw [hi_setI_ne (by omega)] at e_32)
  (try rw [hi_setI_ne (by omega)] at e_32)
  subst e_32
  refine wp_iconst d_67_35 ?_
  refine wp_iadd d_67_36 ?_
  refine wp_putI (4) d_67_37 fl_6_50 rfl rfl (Or.inl (by rfl)) (by first | assumption | (simp only [kd_setI, kd_setR]; assumption)) (by first | omega | (simp only [ln_setI, ln_setR]; omega)) (fun q => nomatch q) ?_
  refine wp_vret d_67_40 rfl ?_
  exact ⟨rfl, rfl⟩
set_option maxRecDepth 100000 in
set_option maxHeartbeats 4000000 in
theorem l_addRide2 {w a : Nat} {n d i j b0 bg : Int} {h : Hp} (hS : Sk h w) (hT : TripOk h n a) (hn : n ≤ 16) (ha : w + 154 ≤ a) (han : a + 5 ≤ nx h) (hw : w + 154 ≤ nx h) (hd : 0 ≤ d ∧ d ≤ 365) (hz : 0 ≤ szJ h w ∧ szJ h w < 13) (hi_ : 0 ≤ i ∧ i < hi h a 7) (hj : 0 ≤ j ∧ j < hi h a 7) (hb : b0 = baseOf h a d) (hg : bg = b0 + hi h (a + 3) i) : wp 66 80 [some (vR (some (w + 146))), some (vR (some a)), some (vI d), some (vI i), some (vI j), none, some (vI b0), some (vI bg)] [] h (fun v h' => v = none ∧ h' = addL (setI (setI (setI h (w + 148) (szJ h w) d) (w + 149) (szJ h w) i) (w + 150) (szJ h w) j) w (hi h (a + 1) j) bg (b0 + hi h (a + 2) j)) noX := by
  have hT0 := hT
  have hS9 := hS
  obtain ⟨⟨k1, k2, k3, k4, k5, k6, k7⟩, ⟨n1, ⟨n2, n3, n4, n5⟩, ⟨n6, n7⟩, ⟨n8, n9⟩, ⟨n10, n11⟩, n12, n13⟩, ⟨m1, ⟨m2, m3, m4⟩, ⟨m5, m6⟩, ⟨m7, m8⟩, m9, m10⟩, ⟨o1, ⟨o2, o3, o4⟩, ⟨o5, o6, o7⟩, ⟨o8, o9, o10⟩, o11, o12⟩, ⟨b1, ⟨b2, b3⟩, ⟨b4, b5, b6⟩, b7, b8, b9⟩, ⟨j1, ⟨j2, j3, j4, j5, j6, j7, j8⟩, ⟨j9, j10⟩, j11⟩⟩ := hS
  obtain ⟨x1, x2⟩ := j11 0 (by decide)
  obtain ⟨y1, y2⟩ := j11 1 (by decide)
  obtain ⟨z1, z2⟩ := j11 2 (by decide)
  obtain ⟨p1, p2⟩ := j11 3 (by decide)
  obtain ⟨q1, q2⟩ := j11 4 (by decide)
  obtain ⟨s1, s2⟩ := j11 5 (by decide)
  rw [Nat.add_zero] at x1 x2
  have y1 : kd h (w + 149) = 100 := y1
  have y2 : ln h (w + 149) = 13 := y2
  have z1 : kd h (w + 150) = 100 := z1
  have z2 : ln h (w + 150) = 13 := z2
  have p1 : kd h (w + 151) = 100 := p1
  have p2 : ln h (w + 151) = 13 := p2
  have q1 : kd h (w + 152) = 100 := q1
  have q2 : ln h (w + 152) = 13 := q2
  have s1 : kd h (w + 153) = 100 := s1
  have s2 : ln h (w + 153) = 13 := s2
  obtain ⟨t1, ⟨u1, u2, u3, u4⟩, ⟨⟨v1, v2⟩, ⟨v3, v4⟩, ⟨v5, v6⟩, v7, v8⟩, t4, t5, t6, t7, t8⟩ := hT
  have hz1 : 0 ≤ hi h (w + 146) 4 ∧ hi h (w + 146) 4 < 13 := hz
  have ti := t5 i hi_.1 hi_.2
  have tj := t5 j hj.1 hj.2
  have td := t7 d hd.1 hd.2
  have bb : -1 ≤ baseOf h a d ∧ baseOf h a d ≤ 600000 := by unfold baseOf; omega
  have sz0 : szJ h w = hi h (w + 146) 4 := rfl
  refine wp_aload_n d_66_80 (by rfl) ?_
  refine wp_getR (6) d_66_81 fl_6_17 rfl rfl (by first | assumption | (simp only [kd_setI, kd_setR]; assumption)) (by first | assumption | (simp only [hr_setI]; assumption)) ?_
  refine wp_aload_n d_66_84 (by rfl) ?_
  refine wp_getI (4) d_66_85 fl_6_50 rfl rfl (by first | assumption | (simp only [kd_setI, kd_setR]; assumption)) (fun x_85 e_85 r_85 => ?_)
  (repeat first | rw [hi_setI_ne (by omega)] at e_85 | rw [hi_setR] at e_85 | rw [hi_upF, upF_ne _ (by decide)] at e_85)
  subst e_85
  refine wp_iload_n d_66_88 (by rfl) ?_
  refine wp_iast d_66_89 (by first | assumption | (simp only [kd_setI, kd_setR]; assumption)) (by first | omega | (simp only [ln_setI, ln_setR]; omega)) (by first | omega | (simp only [ln_setI, ln_setR]; omega)) (by first | omega | (simp only [ln_setI, ln_setR]; omega)) ?_
  refine wp_aload_n d_66_90 (by rfl) ?_
  refine wp_getR (7) d_66_91 fl_6_21 rfl rfl (by first | assumption | (simp only [kd_setI, kd_setR]; assumption)) (by first | assumption | (simp only [hr_setI]; assumption)) ?_
  refine wp_aload_n d_66_94 (by rfl) ?_
  refine wp_getI (4) d_66_95 fl_6_50 rfl rfl (by first | assumption | (simp only [kd_setI, kd_setR]; assumption)) (fun x_95 e_95 r_95 => ?_)
  (repeat first | rw [hi_setI_ne (by omega)] at e_95 | rw [hi_setR] at e_95 | rw [hi_upF, upF_ne _ (by decide)] at e_95)
  subst e_95
  refine wp_iload_n d_66_98 (by rfl) ?_
  refine wp_iast d_66_99 (by first | assumption | (simp only [kd_setI, kd_setR]; assumption)) (by first | omega | (simp only [ln_setI, ln_setR]; omega)) (by first | omega | (simp only [ln_setI, ln_setR]; omega)) (by first | omega | (simp only [ln_setI, ln_setR]; omega)) ?_
  refine wp_aload_n d_66_100 (by rfl) ?_
  refine wp_getR (8) d_66_101 fl_6_24 rfl rfl (by first | assumption | (simp only [kd_setI, kd_setR]; assumption)) (by first | assumption | (simp only [hr_setI]; assumption)) ?_
  refine wp_aload_n d_66_104 (by rfl) ?_
  refine wp_getI (4) d_66_105 fl_6_50 rfl rfl (by first | assumption | (simp only [kd_setI, kd_setR]; assumption)) (fun x_105 e_105 r_105 => ?_)
  (repeat first | rw [hi_setI_ne (by omega)] at e_105 | rw [hi_setR] at e_105 | rw [hi_upF, upF_ne _ (by decide)] at e_105)
  subst e_105
  refine wp_iload d_66_108 (by rfl) ?_
  refine wp_iast d_66_110 (by first | assumption | (simp only [kd_setI, kd_setR]; assumption)) (by first | omega | (simp only [ln_setI, ln_setR]; omega)) (by first | omega | (simp only [ln_setI, ln_setR]; omega)) (by first | omega | (simp only [ln_setI, ln_setR]; omega)) ?_
  refine wp_aload_n d_66_111 (by rfl) ?_
  refine wp_aload_n d_66_112 (by rfl) ?_
  refine wp_getR (3) d_66_113 fl_6_91 rfl rfl (by first | assumption | (simp only [kd_setI, kd_setR]; assumption)) (by first | assumption | (simp only [hr_setI]; assumption)) ?_
  refine wp_iload d_66_116 (by rfl) ?_
  refine wp_iald d_66_118 (Or.inl (by first | assumption | (simp only [kd_setI, kd_setR]; assumption))) (by first | omega | (simp only [ln_setI, ln_setR]; omega)) (by first | omega | (simp only [ln_setI, ln_setR]; omega)) (fun x_118 e_118 r_118 => ?_)
  (repeat first | rw [hi_setI_ne (by omega)] at e_118 | rw [hi_setR] at e_118 | rw [hi_upF, upF_ne _ (by decide)] at e_118)
  subst e_118
  refine wp_iload d_66_119 (by rfl) ?_
  refine wp_iload d_66_121 (by rfl) ?_
  refine wp_aload_n d_66_123 (by rfl) ?_
  refine wp_getR (4) d_66_124 fl_6_112 rfl rfl (by first | assumption | (simp only [kd_setI, kd_setR]; assumption)) (by first | assumption | (simp only [hr_setI]; assumption)) ?_
  refine wp_iload d_66_127 (by rfl) ?_
  refine wp_iald d_66_129 (Or.inl (by first | assumption | (simp only [kd_setI, kd_setR]; assumption))) (by first | omega | (simp only [ln_setI, ln_setR]; omega)) (by first | omega | (simp only [ln_setI, ln_setR]; omega)) (fun x_129 e_129 r_129 => ?_)
  (repeat first | rw [hi_setI_ne (by omega)] at e_129 | rw [hi_setR] at e_129 | rw [hi_upF, upF_ne _ (by decide)] at e_129)
  subst e_129
  refine wp_iadd d_66_130 ?_
  refine wp_callV d_66_131 c_66_126 rfl (by rfl) (by rfl) ⟨6, rfl, rfl, by decide⟩ (by first | assumption | (simp only [kd_setI, kd_setR]; assumption)) (by exact Nat.le_of_ble_eq_true rfl) (by exact Nat.le_of_ble_eq_true rfl) (s_addLeg (SkG hS9 hw (by repeat (first | exact ch_setI (by unfold PJ; omega) | exact ch_setR (by unfold PJR; rfl) | refine ch.trans ?_ (ch_setI (by unfold PJ; omega)) | refine ch.trans ?_ (ch_setR (by unfold PJR; rfl))))) (by show 0 ≤ hi _ (w + 146) 4 ∧ hi _ (w + 146) 4 < 13; (repeat first | rw [hi_setI_ne (by omega)] | rw [hi_setR] | rw [hi_upF, upF_ne _ (by decide)]); exact hz1) (by omega) (by omega) (by omega)) (fun v_131 h_131 q_131 => ?_) (fun _ _ q => q.elim)
  obtain ⟨rfl, z_131⟩ := q_131
  replace z_131 := z_131.symm
  subst z_131
  refine wp_vret d_66_134 rfl ?_
  exact ⟨rfl, rfl⟩
theorem TripOk.ch {h h' : Hp} {w a : Nat} {n : Int} (hT : TripOk h n a) (e : ch (PJ w) (PJR w) h h') (ha : w + 154 ≤ a) (han : a + 5 ≤ nx h) : TripOk h' n a := hT.kept e.fm (fun b b0 b1 z => by unfold PJ at z; omega) (fun z => by unfold PJR at z; omega) han
set_option maxRecDepth 100000 in
set_option maxHeartbeats 4000000 in
theorem l_addRide1 {w a : Nat} {n d i j b0 bg : Int} {h : Hp} (hS : Sk h w) (hT : TripOk h n a) (hn : n ≤ 16) (ha : w + 154 ≤ a) (han : a + 5 ≤ nx h) (hw : w + 154 ≤ nx h) (hd : 0 ≤ d ∧ d ≤ 365) (hz : 0 ≤ szJ h w ∧ szJ h w < 13) (hi_ : 0 ≤ i ∧ i < hi h a 7) (hj : 0 ≤ j ∧ j < hi h a 7) (hb : b0 = baseOf h a d) (hg : bg = b0 + hi h (a + 3) i) (hff : 0 ≤ hi h (w + 146) 13 ∧ hi h (w + 146) 13 ≤ 1000000) : wp 66 57 [some (vR (some (w + 146))), some (vR (some a)), some (vI d), some (vI i), some (vI j), none, some (vI b0), some (vI bg)] [] h (fun v h' => v = none ∧ App h h' w (some a) d i j (hi h (a + 1) j) bg (b0 + hi h (a + 2) j) (hi h (w + 146) 12) (hi h (w + 146) 13 + hi h a 2)) noX := by
  have hT0 := hT
  have hS9 := hS
  obtain ⟨⟨k1, k2, k3, k4, k5, k6, k7⟩, ⟨n1, ⟨n2, n3, n4, n5⟩, ⟨n6, n7⟩, ⟨n8, n9⟩, ⟨n10, n11⟩, n12, n13⟩, ⟨m1, ⟨m2, m3, m4⟩, ⟨m5, m6⟩, ⟨m7, m8⟩, m9, m10⟩, ⟨o1, ⟨o2, o3, o4⟩, ⟨o5, o6, o7⟩, ⟨o8, o9, o10⟩, o11, o12⟩, ⟨b1, ⟨b2, b3⟩, ⟨b4, b5, b6⟩, b7, b8, b9⟩, ⟨j1, ⟨j2, j3, j4, j5, j6, j7, j8⟩, ⟨j9, j10⟩, j11⟩⟩ := hS
  obtain ⟨x1, x2⟩ := j11 0 (by decide)
  obtain ⟨y1, y2⟩ := j11 1 (by decide)
  obtain ⟨z1, z2⟩ := j11 2 (by decide)
  obtain ⟨p1, p2⟩ := j11 3 (by decide)
  obtain ⟨q1, q2⟩ := j11 4 (by decide)
  obtain ⟨s1, s2⟩ := j11 5 (by decide)
  rw [Nat.add_zero] at x1 x2
  have y1 : kd h (w + 149) = 100 := y1
  have y2 : ln h (w + 149) = 13 := y2
  have z1 : kd h (w + 150) = 100 := z1
  have z2 : ln h (w + 150) = 13 := z2
  have p1 : kd h (w + 151) = 100 := p1
  have p2 : ln h (w + 151) = 13 := p2
  have q1 : kd h (w + 152) = 100 := q1
  have q2 : ln h (w + 152) = 13 := q2
  have s1 : kd h (w + 153) = 100 := s1
  have s2 : ln h (w + 153) = 13 := s2
  obtain ⟨t1, ⟨u1, u2, u3, u4⟩, ⟨⟨v1, v2⟩, ⟨v3, v4⟩, ⟨v5, v6⟩, v7, v8⟩, t4, t5, t6, t7, t8⟩ := hT
  have hz1 : 0 ≤ hi h (w + 146) 4 ∧ hi h (w + 146) 4 < 13 := hz
  have ti := t5 i hi_.1 hi_.2
  have tj := t5 j hj.1 hj.2
  have td := t7 d hd.1 hd.2
  have bb : -1 ≤ baseOf h a d ∧ baseOf h a d ≤ 600000 := by unfold baseOf; omega
  have sz0 : szJ h w = hi h (w + 146) 4 := rfl
  refine wp_aload_n d_66_57 (by rfl) ?_
  refine wp_dup d_66_58 (by rfl) ?_
  refine wp_getI (13) d_66_59 fl_6_56 rfl rfl (by first | assumption | (simp only [kd_setI, kd_setR]; assumption)) (fun x_59 e_59 r_59 => ?_)
  (repeat first | rw [hi_setI_ne (by omega)] at e_59 | rw [hi_setR] at e_59 | rw [hi_upF, upF_ne _ (by decide)] at e_59)
  subst e_59
  refine wp_aload_n d_66_62 (by rfl) ?_
  refine wp_getI (2) d_66_63 fl_6_125 rfl rfl (by first | assumption | (simp only [kd_setI, kd_setR]; assumption)) (fun x_63 e_63 r_63 => ?_)
  (repeat first | rw [hi_setI_ne (by omega)] at e_63 | rw [hi_setR] at e_63 | rw [hi_upF, upF_ne _ (by decide)] at e_63)
  subst e_63
  refine wp_iadd d_66_66 ?_
  refine wp_putI (13) d_66_67 fl_6_56 rfl rfl (Or.inl (by rfl)) (by first | assumption | (simp only [kd_setI, kd_setR]; assumption)) (by first | omega | (simp only [ln_setI, ln_setR]; omega)) (fun q => nomatch q) ?_
  refine wp_aload_n d_66_70 (by rfl) ?_
  refine wp_getR (5) d_66_71 fl_6_11 rfl rfl (by first | assumption | (simp only [kd_setI, kd_setR]; assumption)) (by first | assumption | (simp only [hr_setI]; assumption)) ?_
  refine wp_aload_n d_66_74 (by rfl) ?_
  refine wp_getI (4) d_66_75 fl_6_50 rfl rfl (by first | assumption | (simp only [kd_setI, kd_setR]; assumption)) (fun x_75 e_75 r_75 => ?_)
  (repeat first | rw [hi_setI_ne (by omega)] at e_75 | rw [hi_setR] at e_75 | rw [hi_upF, upF_ne _ (by decide)] at e_75)
  subst e_75
  refine wp_aload_n d_66_78 (by rfl) ?_
  refine wp_aastO (cb := 11) d_66_79 (by simp only [kd_setI]; omega) (by simp only [kd_setI]; omega) (by simp only [kd_setI]; exact t1) (by decide) (by simp only [kd_setI]; rw [j9]; rfl) (by omega) (by simp only [ln_setI]; omega) ?_
  have E9 : ch (PJ w) (PJR w) h (setR (setI h (w + 146) 13 (hi h (w + 146) 13 + hi h a 2)) (w + 147) (hi h (w + 146) 4) (some a)) := (ch_setI (by unfold PJ; omega)).trans (ch_setR (by unfold PJR; rfl))
  have za : ∀ b, a ≤ b → hi (setR (setI h (w + 146) 13 (hi h (w + 146) 13 + hi h a 2)) (w + 147) (hi h (w + 146) 4) (some a)) b = hi h b := fun b z => by rw [hi_setR, hi_setI_ne (by omega)]
  refine wp_mono (fun v h' q => ?_) (fun _ _ q => q) (wp_to [some (vR (some (w + 146))), some (vR (some a)), some (vI d), some (vI i), some (vI j), none, some (vI b0), some (vI bg)] ⟨rfl, rfl, rfl, rfl, rfl, rfl, rfl, trivial⟩ (l_addRide2 (SkG hS9 hw E9) (hT0.ch E9 ha han) hn ha (by rw [E9.2.2.2.1]; exact han) (by rw [E9.2.2.2.1]; exact hw) hd (by show 0 ≤ hi _ (w + 146) 4 ∧ hi _ (w + 146) 4 < 13; (repeat first | rw [hi_setI_ne (by omega)] | rw [hi_setR] | rw [hi_upF, upF_ne _ (by decide)]); exact hz1) (by rw [za a (by omega)]; exact hi_) (by rw [za a (by omega)]; exact hj) (by rw [hb]; unfold baseOf; rw [za (a + 4) (by omega)]) (by rw [za (a + 3) (by omega)]; exact hg)))
  obtain ⟨rfl, rfl⟩ := q
  refine ⟨rfl, ?_, fun k => ?_, ⟨?_, ?_, ?_⟩, ⟨?_, ?_, ?_⟩, ⟨?_, ?_, ?_⟩, ?_, ?_, ?_⟩
  · unfold addL
    repeat (first | exact ch_setI (by unfold PJ; omega) | exact ch_setR (by unfold PJR; rfl) | refine ch.trans ?_ (ch_setI (by unfold PJ; omega)) | refine ch.trans ?_ (ch_setR (by unfold PJR; rfl)))
  · simp only [addL, hr_setI, hr_setR]
    unfold up2
    by_cases hk : k = hi h (w + 146) 4
    · rw [if_pos ⟨rfl, hk⟩, if_pos hk]
    · rw [if_neg (fun z => hk z.2), if_neg hk]
  all_goals unfold addL szJ
  all_goals (repeat first | rw [hi_setI_ne (by omega)] | rw [hi_setR] | rw [hi_upF, upF_ne _ (by decide)] | rw [hi_upF, upF_same] | rw [hi_upF])
theorem App.pre {h h' : Hp} {w : Nat} {r : Option Nat} {v dd i j tg bg en tt ff : Int} (q : App (setI h (w + 146) 12 v) h' w r dd i j tg bg en tt ff) : App h h' w r dd i j tg bg en tt ff := by
  obtain ⟨q1, q2, q3, q4, q5, q6, q7, q8⟩ := q
  have sz : szJ (setI h (w + 146) 12 v) w = szJ h w := by show hi _ (w + 146) 4 = _; rw [hi_upF, upF_ne _ (by decide)]
  rw [sz] at q2 q3 q4 q6
  rw [hi_setI_ne (by omega), hi_setI_ne (by omega), hi_setI_ne (by omega)] at q3 q4
  rw [hi_upF, upF_ne _ (by decide), upF_ne _ (by decide), upF_ne _ (by decide)] at q5
  exact ⟨(ch_setI (by unfold PJ; omega)).trans q1, q2, q3, q4, q5, q6, q7, q8⟩
set_option maxRecDepth 100000 in
set_option maxHeartbeats 4000000 in
theorem s_addRide {w a : Nat} {n d i j sn : Int} {h : Hp} (hS : Sk h w) (hT : TripOk h n a) (hn : n ≤ 16) (ha : w + 154 ≤ a) (han : a + 5 ≤ nx h) (hw : w + 154 ≤ nx h) (hd : 0 ≤ d ∧ d ≤ 365) (hz : 0 ≤ szJ h w ∧ szJ h w < 13) (hi_ : 0 ≤ i ∧ i < hi h a 7) (hj : 0 ≤ j ∧ j < hi h a 7) (htt : -1 ≤ hi h (w + 146) 12) (hff : 0 ≤ hi h (w + 146) 13 ∧ hi h (w + 146) 13 ≤ 1000000) (hsn : 0 ≤ sn ∧ sn ≤ baseOf h a d + hi h (a + 3) i) : wp 66 0 (entL [vR (some (w + 146)), vR (some a), vI d, vI i, vI j, vI sn] (mL 66)) [] h (fun v h' => v = none ∧ ∃ tt, -1 ≤ tt ∧ App h h' w (some a) d i j (hi h (a + 1) j) (baseOf h a d + hi h (a + 3) i) (baseOf h a d + hi h (a + 2) j) tt (hi h (w + 146) 13 + hi h a 2)) noX := by
  have hT0 := hT
  have hS9 := hS
  obtain ⟨⟨k1, k2, k3, k4, k5, k6, k7⟩, ⟨n1, ⟨n2, n3, n4, n5⟩, ⟨n6, n7⟩, ⟨n8, n9⟩, ⟨n10, n11⟩, n12, n13⟩, ⟨m1, ⟨m2, m3, m4⟩, ⟨m5, m6⟩, ⟨m7, m8⟩, m9, m10⟩, ⟨o1, ⟨o2, o3, o4⟩, ⟨o5, o6, o7⟩, ⟨o8, o9, o10⟩, o11, o12⟩, ⟨b1, ⟨b2, b3⟩, ⟨b4, b5, b6⟩, b7, b8, b9⟩, ⟨j1, ⟨j2, j3, j4, j5, j6, j7, j8⟩, ⟨j9, j10⟩, j11⟩⟩ := hS
  obtain ⟨x1, x2⟩ := j11 0 (by decide)
  obtain ⟨y1, y2⟩ := j11 1 (by decide)
  obtain ⟨z1, z2⟩ := j11 2 (by decide)
  obtain ⟨p1, p2⟩ := j11 3 (by decide)
  obtain ⟨q1, q2⟩ := j11 4 (by decide)
  obtain ⟨s1, s2⟩ := j11 5 (by decide)
  rw [Nat.add_zero] at x1 x2
  have y1 : kd h (w + 149) = 100 := y1
  have y2 : ln h (w + 149) = 13 := y2
  have z1 : kd h (w + 150) = 100 := z1
  have z2 : ln h (w + 150) = 13 := z2
  have p1 : kd h (w + 151) = 100 := p1
  have p2 : ln h (w + 151) = 13 := p2
  have q1 : kd h (w + 152) = 100 := q1
  have q2 : ln h (w + 152) = 13 := q2
  have s1 : kd h (w + 153) = 100 := s1
  have s2 : ln h (w + 153) = 13 := s2
  obtain ⟨t1, ⟨u1, u2, u3, u4⟩, ⟨⟨v1, v2⟩, ⟨v3, v4⟩, ⟨v5, v6⟩, v7, v8⟩, t4, t5, t6, t7, t8⟩ := hT
  have hz1 : 0 ≤ hi h (w + 146) 4 ∧ hi h (w + 146) 4 < 13 := hz
  have ti := t5 i hi_.1 hi_.2
  have tj := t5 j hj.1 hj.2
  have td := t7 d hd.1 hd.2
  have bb : -1 ≤ baseOf h a d ∧ baseOf h a d ≤ 600000 := by unfold baseOf; omega
  have sz0 : szJ h w = hi h (w + 146) 4 := rfl
  refine wp_aload_n d_66_0 (by rfl) ?_
  refine wp_iload_n d_66_1 (by rfl) ?_
  refine wp_callV d_66_2 c_66_115 rfl (by rfl) (by rfl) ⟨11, rfl, rfl, by decide⟩ (by first | assumption | (simp only [kd_setI, kd_setR]; assumption)) (by exact Nat.le_of_ble_eq_true rfl) (by exact Nat.le_of_ble_eq_true rfl) (s_baseOf hT0 hd) (fun v_2 h_2 q_2 => ?_) (fun _ _ q => q.elim)
  obtain ⟨rfl, z_2⟩ := q_2
  replace z_2 := z_2.symm
  subst z_2
  refine wp_istore d_66_5 (by decide) ?_
  refine wp_iload d_66_7 (by rfl) ?_
  refine wp_aload_n d_66_9 (by rfl) ?_
  refine wp_getR (5) d_66_10 fl_6_94 rfl rfl (by first | assumption | (simp only [kd_setI, kd_setR]; assumption)) (by first | assumption | (simp only [hr_setI]; assumption)) ?_
  refine wp_iload_n d_66_13 (by rfl) ?_
  refine wp_iald d_66_14 (Or.inl (by first | assumption | (simp only [kd_setI, kd_setR]; assumption))) (by first | omega | (simp only [ln_setI, ln_setR]; omega)) (by first | omega | (simp only [ln_setI, ln_setR]; omega)) (fun x_14 e_14 r_14 => ?_)
  subst e_14
  refine wp_iadd d_66_15 ?_
  refine wp_istore d_66_16 (by decide) ?_
  refine wp_aload_n d_66_18 (by rfl) ?_
  refine wp_getI (4) d_66_19 fl_6_50 rfl rfl (by first | assumption | (simp only [kd_setI, kd_setR]; assumption)) (fun x_19 e_19 r_19 => ?_)
  subst e_19
  refine wp_if_le (tgt := 57) d_66_22 (by decide) (by first | omega | (simp only [ln_setI, ln_setR]; omega)) (fun c_22 => ?_) (fun c_22 => ?_)
  · first
      | (refine wp_mono (fun v h' q => ?_) (fun _ _ q => q) (wp_to [some (vR (some (w + 146))), some (vR (some a)), some (vI d), some (vI i), some (vI j), none, some (vI (baseOf h a d)), some (vI (baseOf h a d + hi h (a + 3) i))] ⟨rfl, rfl, rfl, rfl, rfl, rfl, rfl, trivial⟩ (l_addRide1 hS9 hT0 hn ha han hw hd hz hi_ hj rfl rfl hff))
         exact ⟨q.1, _, htt, q.2⟩)
      | (refine wp_mono (fun v h' q => ?_) (fun _ _ q => q) (wp_to [some (vR (some (w + 146))), some (vR (some a)), some (vI d), some (vI i), some (vI j), none, some (vI (baseOf h a d)), some (vI (baseOf h a d + hi h (a + 3) i))] ⟨rfl, rfl, rfl, rfl, rfl, rfl, rfl, trivial⟩ (l_addRide1 (n := n) (SkG hS9 hw (ch_setI (by unfold PJ; omega))) (hT0.ch (w := w) (ch_setI (by unfold PJ; omega)) ha han) hn ha han hw hd (by show 0 ≤ hi _ (w + 146) 4 ∧ hi _ (w + 146) 4 < 13; (repeat first | rw [hi_setI_ne (by omega)] | rw [hi_setR] | rw [hi_upF, upF_ne _ (by decide)]); exact hz1) (by rw [hi_setI_ne (by omega)]; exact hi_) (by rw [hi_setI_ne (by omega)]; exact hj) (by unfold baseOf; rw [hi_setI_ne (by omega)]) (by rw [hi_setI_ne (by omega)]) (by rw [hi_upF, upF_ne _ (by decide)]; exact hff)))
         obtain ⟨q1, q2⟩ := q
         rw [hi_setI_ne (b := a + 1) (by omega), hi_setI_ne (b := a + 2) (by omega), hi_setI_ne (b := a) (by omega), hi_upF, upF_same, upF_ne _ (by decide)] at q2
         exact ⟨q1, _, by omega, q2.pre⟩)
  · refine wp_aload_n d_66_25 (by rfl) ?_
    refine wp_aload_n d_66_26 (by rfl) ?_
    refine wp_getI (12) d_66_27 fl_6_53 rfl rfl (by first | assumption | (simp only [kd_setI, kd_setR]; assumption)) (fun x_27 e_27 r_27 => ?_)
    subst e_27
    refine wp_iconst d_66_30 ?_
    refine wp_icmp_ne (tgt := 42) d_66_31 (by decide) (by first | omega | (simp only [ln_setI, ln_setR]; omega)) (by first | omega | (simp only [ln_setI, ln_setR]; omega)) (fun c_31 => ?_) (fun c_31 => ?_)
    · refine wp_aload_n d_66_42 (by rfl) ?_
      refine wp_getI (12) d_66_43 fl_6_53 rfl rfl (by first | assumption | (simp only [kd_setI, kd_setR]; assumption)) (fun x_43 e_43 r_43 => ?_)
      subst e_43
      refine wp_iload d_66_46 (by rfl) ?_
      refine wp_iload d_66_48 (by rfl) ?_
      refine wp_isub d_66_50 ?_
      refine wp_callS d_66_51 c_66_119 rfl (by rfl) (by rfl) (by exact Nat.le_of_ble_eq_true rfl) (by exact Nat.le_of_ble_eq_true rfl) (s_min (by omega) (by omega)) (fun v_51 h_51 q_51 => ?_) (fun _ _ q => q.elim)
      obtain ⟨rfl, z_51⟩ := q_51
      replace z_51 := z_51.symm
      subst z_51
      refine wp_putI (12) d_66_54 fl_6_53 rfl rfl (Or.inl (by rfl)) (by first | assumption | (simp only [kd_setI, kd_setR]; assumption)) (by first | omega | (simp only [ln_setI, ln_setR]; omega)) (fun q => nomatch q) ?_
      first
        | (refine wp_mono (fun v h' q => ?_) (fun _ _ q => q) (wp_to [some (vR (some (w + 146))), some (vR (some a)), some (vI d), some (vI i), some (vI j), none, some (vI (baseOf h a d)), some (vI (baseOf h a d + hi h (a + 3) i))] ⟨rfl, rfl, rfl, rfl, rfl, rfl, rfl, trivial⟩ (l_addRide1 hS9 hT0 hn ha han hw hd hz hi_ hj rfl rfl hff))
           exact ⟨q.1, _, htt, q.2⟩)
        | (refine wp_mono (fun v h' q => ?_) (fun _ _ q => q) (wp_to [some (vR (some (w + 146))), some (vR (some a)), some (vI d), some (vI i), some (vI j), none, some (vI (baseOf h a d)), some (vI (baseOf h a d + hi h (a + 3) i))] ⟨rfl, rfl, rfl, rfl, rfl, rfl, rfl, trivial⟩ (l_addRide1 (n := n) (SkG hS9 hw (ch_setI (by unfold PJ; omega))) (hT0.ch (w := w) (ch_setI (by unfold PJ; omega)) ha han) hn ha han hw hd (by show 0 ≤ hi _ (w + 146) 4 ∧ hi _ (w + 146) 4 < 13; (repeat first | rw [hi_setI_ne (by omega)] | rw [hi_setR] | rw [hi_upF, upF_ne _ (by decide)]); exact hz1) (by rw [hi_setI_ne (by omega)]; exact hi_) (by rw [hi_setI_ne (by omega)]; exact hj) (by unfold baseOf; rw [hi_setI_ne (by omega)]) (by rw [hi_setI_ne (by omega)]) (by rw [hi_upF, upF_ne _ (by decide)]; exact hff)))
           obtain ⟨q1, q2⟩ := q
           rw [hi_setI_ne (b := a + 1) (by omega), hi_setI_ne (b := a + 2) (by omega), hi_setI_ne (b := a) (by omega), hi_upF, upF_same, upF_ne _ (by decide)] at q2
           exact ⟨q1, _, by omega, q2.pre⟩)
    · refine wp_iload d_66_34 (by rfl) ?_
      refine wp_iload d_66_36 (by rfl) ?_
      refine wp_isub d_66_38 ?_
      refine wp_goto (tgt := 54) d_66_39 (by decide) ?_
      refine wp_putI (12) d_66_54 fl_6_53 rfl rfl (Or.inl (by rfl)) (by first | assumption | (simp only [kd_setI, kd_setR]; assumption)) (by first | omega | (simp only [ln_setI, ln_setR]; omega)) (fun q => nomatch q) ?_
      first
        | (refine wp_mono (fun v h' q => ?_) (fun _ _ q => q) (wp_to [some (vR (some (w + 146))), some (vR (some a)), some (vI d), some (vI i), some (vI j), none, some (vI (baseOf h a d)), some (vI (baseOf h a d + hi h (a + 3) i))] ⟨rfl, rfl, rfl, rfl, rfl, rfl, rfl, trivial⟩ (l_addRide1 hS9 hT0 hn ha han hw hd hz hi_ hj rfl rfl hff))
           exact ⟨q.1, _, htt, q.2⟩)
        | (refine wp_mono (fun v h' q => ?_) (fun _ _ q => q) (wp_to [some (vR (some (w + 146))), some (vR (some a)), some (vI d), some (vI i), some (vI j), none, some (vI (baseOf h a d)), some (vI (baseOf h a d + hi h (a + 3) i))] ⟨rfl, rfl, rfl, rfl, rfl, rfl, rfl, trivial⟩ (l_addRide1 (n := n) (SkG hS9 hw (ch_setI (by unfold PJ; omega))) (hT0.ch (w := w) (ch_setI (by unfold PJ; omega)) ha han) hn ha han hw hd (by show 0 ≤ hi _ (w + 146) 4 ∧ hi _ (w + 146) 4 < 13; (repeat first | rw [hi_setI_ne (by omega)] | rw [hi_setR] | rw [hi_upF, upF_ne _ (by decide)]); exact hz1) (by rw [hi_setI_ne (by omega)]; exact hi_) (by rw [hi_setI_ne (by omega)]; exact hj) (by unfold baseOf; rw [hi_setI_ne (by omega)]) (by rw [hi_setI_ne (by omega)]) (by rw [hi_upF, upF_ne _ (by decide)]; exact hff)))
           obtain ⟨q1, q2⟩ := q
           rw [hi_setI_ne (b := a + 1) (by omega), hi_setI_ne (b := a + 2) (by omega), hi_setI_ne (b := a) (by omega), hi_upF, upF_same, upF_ne _ (by decide)] at q2
           exact ⟨q1, _, by omega, q2.pre⟩)
