/-! ===== the reference on a fresh object ===== -/
def Mz (h : Hp) (m : Nat) : Prop := kd h m = 2 ∧ hi h m 1 = 0 ∧ hi h m 7 = 0 ∧ hi h m 12 = 0 ∧ hi h m 23 = -1
theorem Mz.set {h : Hp} {m : Nat} {v : Int} (q : Mz h m) : Mz (setI h m 0 v) m := by
  obtain ⟨q1, q2, q3, q4, q5⟩ := q
  refine ⟨q1, ?_, ?_, ?_, ?_⟩ <;> (rw [hi_setI, up2_ne _ _ (by omega)]; assumption)
theorem MF.z {h : Hp} {m : Nat} (q : MF h m) : Mz h m := ⟨q.1, q.2.1⟩
set_option maxRecDepth 100000 in
set_option maxHeartbeats 4000000 in
theorem m_isIn {x a b z : Int} {h : Hp} (hx : inR x) (ha : inR a) (hb : inR b) (hz : (a ≤ x ∧ x ≤ b ∧ z = 1) ∨ (¬ (a ≤ x ∧ x ≤ b) ∧ z = 0)) : wp 52 0 (entL [vI x, vI a, vI b] (mL 52)) [] h (fun v h' => v = some (vI z) ∧ h' = h) noX := by
  refine wp_iload_n d_52_0 (by rfl) ?_
  refine wp_iload_n d_52_1 (by rfl) ?_
  refine wp_icmp_lt (tgt := 14) d_52_2 (by decide) (by omega) (by omega) (fun c_2 => ?_) (fun c_2 => ?_)
  · refine wp_iconst d_52_14 ?_
    refine wp_zret d_52_15 rfl (by omega) ?_
    exact ⟨congrArg (fun q => some (vI q)) (by omega), rfl⟩
  · refine wp_iload_n d_52_5 (by rfl) ?_
    refine wp_iload_n d_52_6 (by rfl) ?_
    refine wp_icmp_gt (tgt := 14) d_52_7 (by decide) (by omega) (by omega) (fun c_7 => ?_) (fun c_7 => ?_)
    · refine wp_iconst d_52_14 ?_
      refine wp_zret d_52_15 rfl (by omega) ?_
      exact ⟨congrArg (fun q => some (vI q)) (by omega), rfl⟩
    · refine wp_iconst d_52_10 ?_
      refine wp_goto (tgt := 15) d_52_11 (by decide) ?_
      refine wp_zret d_52_15 rfl (by omega) ?_
      exact ⟨congrArg (fun q => some (vI q)) (by omega), rfl⟩
set_option maxRecDepth 100000 in
set_option maxHeartbeats 4000000 in
theorem m_isStop {m : Nat} {x : Int} {h : Hp} (hM : Mz h m) (hx : inR x) : wp 55 0 (entL [vR (some m), vI x] (mL 55)) [] h (fun v h' => v = some (vI 0) ∧ h' = h) noX := by
  have hM0 := hM
  obtain ⟨z0, z1, z7, z12, z23⟩ := hM
  refine wp_iload_n d_55_0 (by rfl) ?_
  refine wp_iconst d_55_1 ?_
  refine wp_aload_n d_55_2 (by rfl) ?_
  refine wp_getI (1) d_55_3 fl_1_91 rfl rfl (by assumption) (fun x_3 e_3 r_3 => ?_)
  refine wp_iconst d_55_6 ?_
  refine wp_isub d_55_7 ?_
  refine wp_callS d_55_8 c_55_94 rfl (by rfl) (by rfl) (by exact Nat.le_of_ble_eq_true rfl) (by exact Nat.le_of_ble_eq_true rfl) (m_isIn (z := 0) (by omega) (by omega) (by omega) (Or.inr ⟨by omega, rfl⟩)) (fun v_8 h_8 q_8 => ?_) (fun _ _ q => q.elim)
  obtain ⟨rfl, z_8⟩ := q_8
  replace z_8 := z_8.symm
  subst z_8
  refine wp_zret d_55_11 rfl (by omega) ?_
  exact ⟨rfl, rfl⟩
set_option maxRecDepth 100000 in
set_option maxHeartbeats 4000000 in
theorem m_isTrip {m : Nat} {x : Int} {h : Hp} (hM : Mz h m) (hx : inR x) : wp 64 0 (entL [vR (some m), vI x] (mL 64)) [] h (fun v h' => v = some (vI 0) ∧ h' = h) noX := by
  have hM0 := hM
  obtain ⟨z0, z1, z7, z12, z23⟩ := hM
  refine wp_iload_n d_64_0 (by rfl) ?_
  refine wp_iconst d_64_1 ?_
  refine wp_aload_n d_64_2 (by rfl) ?_
  refine wp_getI (12) d_64_3 fl_1_98 rfl rfl (by assumption) (fun x_3 e_3 r_3 => ?_)
  refine wp_iconst d_64_6 ?_
  refine wp_isub d_64_7 ?_
  refine wp_callS d_64_8 c_64_94 rfl (by rfl) (by rfl) (by exact Nat.le_of_ble_eq_true rfl) (by exact Nat.le_of_ble_eq_true rfl) (m_isIn (z := 0) (by omega) (by omega) (by omega) (Or.inr ⟨by omega, rfl⟩)) (fun v_8 h_8 q_8 => ?_) (fun _ _ q => q.elim)
  obtain ⟨rfl, z_8⟩ := q_8
  replace z_8 := z_8.symm
  subst z_8
  refine wp_zret d_64_11 rfl (by omega) ?_
  exact ⟨rfl, rfl⟩
set_option maxRecDepth 100000 in
set_option maxHeartbeats 4000000 in
theorem m_no {m : Nat} {k : Int} {h : Hp} (hk : kd h m = 2) (hr : inR k) : wp 53 0 (entL [vR (some m), vI k] (mL 53)) [] h (fun v h' => v = some (vI 0) ∧ h' = setI h m 0 k) noX := by
  refine wp_aload_n d_53_0 (by rfl) ?_
  refine wp_iload_n d_53_1 (by rfl) ?_
  refine wp_putI (0) d_53_2 fl_1_88 rfl rfl (Or.inl (by rfl)) (by assumption) (by omega) (fun q => nomatch q) ?_
  refine wp_iconst d_53_5 ?_
  refine wp_iret d_53_6 rfl ?_
  exact ⟨rfl, rfl⟩
set_option maxRecDepth 100000 in
set_option maxHeartbeats 4000000 in
theorem m_isNot {m : Nat} {k : Int} {h : Hp} (hk : kd h m = 2) (hr : inR k) : wp 59 0 (entL [vR (some m), vI k] (mL 59)) [] h (fun v h' => v = some (vI 0) ∧ h' = setI h m 0 k) noX := by
  refine wp_aload_n d_59_0 (by rfl) ?_
  refine wp_iload_n d_59_1 (by rfl) ?_
  refine wp_putI (0) d_59_2 fl_1_88 rfl rfl (Or.inl (by rfl)) (by assumption) (by omega) (fun q => nomatch q) ?_
  refine wp_iconst d_59_5 ?_
  refine wp_zret d_59_6 rfl (by omega) ?_
  exact ⟨rfl, rfl⟩
set_option maxRecDepth 100000 in
set_option maxHeartbeats 4000000 in
theorem m_ok {m : Nat} {k : Int} {h : Hp} (hk : kd h m = 2) (hr : inR k) : wp 66 0 (entL [vR (some m), vI k] (mL 66)) [] h (fun v h' => v = some (vI k) ∧ h' = setI h m 0 0) noX := by
  refine wp_aload_n d_66_0 (by rfl) ?_
  refine wp_iconst d_66_1 ?_
  refine wp_putI (0) d_66_2 fl_1_88 rfl rfl (Or.inl (by rfl)) (by assumption) (by omega) (fun q => nomatch q) ?_
  refine wp_iload_n d_66_5 (by rfl) ?_
  refine wp_iret d_66_6 rfl ?_
  exact ⟨rfl, rfl⟩
set_option maxRecDepth 100000 in
set_option maxHeartbeats 4000000 in
theorem m_thrown {m : Nat} {k : Int} {h : Hp} (hk : kd h m = 2) (ht : hi h m 0 = k) : wp 50 0 (entL [vR (some m)] (mL 50)) [] h (fun v h' => v = some (vI k) ∧ h' = h) noX := by
  refine wp_aload_n d_50_0 (by rfl) ?_
  refine wp_getI (0) d_50_1 fl_1_88 rfl rfl (by assumption) (fun x_1 e_1 r_1 => ?_)
  refine wp_iret d_50_4 rfl ?_
  exact ⟨congrArg (fun q => some (vI q)) (by omega), rfl⟩
set_option maxRecDepth 100000 in
set_option maxHeartbeats 4000000 in
theorem m_question {m : Nat} {f t a : Int} {h : Hp} (hM : Mz h m) (i_f : inR f) (i_t : inR t) (i_a : inR a) : wp 81 0 (entL [vR (some m), vI f, vI t, vI a] (mL 81)) [] h (fun v h' => v = some (vI 1) ∧ h' = h) noX := by
  have hM0 := hM
  obtain ⟨z0, z1, z7, z12, z23⟩ := hM
  refine wp_aload_n d_81_0 (by rfl) ?_
  refine wp_iload_n d_81_1 (by rfl) ?_
  refine wp_callV d_81_2 c_81_105 rfl (by rfl) (by rfl) ⟨1, rfl, rfl, by decide⟩ (by assumption) (by exact Nat.le_of_ble_eq_true rfl) (by exact Nat.le_of_ble_eq_true rfl) (m_isStop (by first | exact hM0 | exact hM0.set | exact hM0.set.set) (by assumption)) (fun v_2 h_2 q_2 => ?_) (fun _ _ q => q.elim)
  obtain ⟨rfl, z_2⟩ := q_2
  replace z_2 := z_2.symm
  subst z_2
  refine wp_if_eq (tgt := 16) d_81_5 (by decide) (by omega) (fun c_5 => ?_) (fun c_5 => ?_)
  rotate_left
  · exact absurd c_5 (by omega)
  refine wp_iconst d_81_16 ?_
  refine wp_goto (tgt := 35) d_81_17 (by decide) ?_
  refine wp_iret d_81_35 rfl ?_
  exact ⟨rfl, rfl⟩
set_option maxRecDepth 100000 in
set_option maxHeartbeats 4000000 in
theorem m_ofLeg {m : Nat} {k : Int} {r : Option Nat} {h : Hp} (hM : Mz h m) : wp 106 0 (entL [vR (some m), vI k, vR r] (mL 106)) [] h (fun v h' => v = some (vI 0) ∧ RM m 1 h h') noX := by
  have hM0 := hM
  obtain ⟨z0, z1, z7, z12, z23⟩ := hM
  refine wp_aload_n d_106_0 (by rfl) ?_
  refine wp_aload_n d_106_1 (by rfl) ?_
  refine wp_getI (23) d_106_2 fl_1_61 rfl rfl (by assumption) (fun x_2 e_2 r_2 => ?_)
  (try rw [hi_setI, up2_same] at e_2)
  refine wp_iconst d_106_5 ?_
  refine wp_icmp_ne (tgt := 13) d_106_6 (by decide) (by omega) (by omega) (fun c_6 => ?_) (fun c_6 => ?_)
  · exact absurd c_6 (by omega)
  refine wp_iconst d_106_9 ?_
  refine wp_goto (tgt := 32) d_106_10 (by decide) ?_
  refine wp_putI (0) d_106_32 fl_1_88 rfl rfl (Or.inl (by rfl)) (by assumption) (by omega) (fun q => nomatch q) ?_
  refine wp_aload_n d_106_35 (by rfl) ?_
  refine wp_getI (0) d_106_36 fl_1_88 rfl rfl (by assumption) (fun x_36 e_36 r_36 => ?_)
  (try rw [hi_setI, up2_same] at e_36)
  refine wp_if_ne (tgt := 48) d_106_39 (by decide) (by omega) (fun c_39 => ?_) (fun c_39 => ?_)
  rotate_left
  · exact absurd c_39 (by omega)
  refine wp_iconst d_106_48 ?_
  refine wp_iret d_106_49 rfl ?_
  exact ⟨rfl, rfl, rfl, rfl, by rw [hi_setI, up2_same]⟩
set_option maxRecDepth 100000 in
set_option maxHeartbeats 4000000 in
theorem m_setChange {m : Nat} {p0 p1 : Int} {h : Hp} (hM : Mz h m) (i_p0 : inR p0) (i_p1 : inR p1) : wp 54 0 (entL [vR (some m), vI p0, vI p1] (mL 54)) [] h (fun v h' => v = some (vI 0) ∧ RM m 1 h h') noX := by
  have hM0 := hM
  obtain ⟨z0, z1, z7, z12, z23⟩ := hM
  refine wp_aload_n d_54_0 (by rfl) ?_
  refine wp_iconst d_54_1 ?_
  refine wp_putI (0) d_54_2 fl_1_88 rfl rfl (Or.inl (by rfl)) (by assumption) (by omega) (fun q => nomatch q) ?_
  refine wp_aload_n d_54_5 (by rfl) ?_
  refine wp_iload_n d_54_6 (by rfl) ?_
  refine wp_callV d_54_7 c_54_105 rfl (by rfl) (by rfl) ⟨1, rfl, rfl, by decide⟩ (by assumption) (by exact Nat.le_of_ble_eq_true rfl) (by exact Nat.le_of_ble_eq_true rfl) (m_isStop (by first | exact hM0 | exact hM0.set | exact hM0.set.set) (by assumption)) (fun v_7 h_7 q_7 => ?_) (fun _ _ q => q.elim)
  obtain ⟨rfl, z_7⟩ := q_7
  replace z_7 := z_7.symm
  subst z_7
  refine wp_if_ne (tgt := 19) d_54_10 (by decide) (by omega) (fun c_10 => ?_) (fun c_10 => ?_)
  · exact absurd c_10 (by omega)
  refine wp_aload_n d_54_13 (by rfl) ?_
  refine wp_iconst d_54_14 ?_
  refine wp_callV d_54_15 c_54_101 rfl (by rfl) (by rfl) ⟨1, rfl, rfl, by decide⟩ (by assumption) (by exact Nat.le_of_ble_eq_true rfl) (by exact Nat.le_of_ble_eq_true rfl) (m_no z0 (by decide)) (fun v_15 h_15 q_15 => ?_) (fun _ _ q => q.elim)
  obtain ⟨rfl, z_15⟩ := q_15
  replace z_15 := z_15.symm
  subst z_15
  refine wp_iret d_54_18 rfl ?_
  exact ⟨rfl, rfl, rfl, rfl, by rw [hi_setI, up2_same]⟩
set_option maxRecDepth 100000 in
set_option maxHeartbeats 4000000 in
theorem m_addFootway {m : Nat} {p0 p1 p2 : Int} {h : Hp} (hM : Mz h m) (i_p0 : inR p0) (i_p1 : inR p1) (i_p2 : inR p2) : wp 56 0 (entL [vR (some m), vI p0, vI p1, vI p2] (mL 56)) [] h (fun v h' => v = some (vI 0) ∧ RM m 1 h h') noX := by
  have hM0 := hM
  obtain ⟨z0, z1, z7, z12, z23⟩ := hM
  refine wp_aload_n d_56_0 (by rfl) ?_
  refine wp_iconst d_56_1 ?_
  refine wp_putI (0) d_56_2 fl_1_88 rfl rfl (Or.inl (by rfl)) (by assumption) (by omega) (fun q => nomatch q) ?_
  refine wp_aload_n d_56_5 (by rfl) ?_
  refine wp_iload_n d_56_6 (by rfl) ?_
  refine wp_callV d_56_7 c_56_105 rfl (by rfl) (by rfl) ⟨1, rfl, rfl, by decide⟩ (by assumption) (by exact Nat.le_of_ble_eq_true rfl) (by exact Nat.le_of_ble_eq_true rfl) (m_isStop (by first | exact hM0 | exact hM0.set | exact hM0.set.set) (by assumption)) (fun v_7 h_7 q_7 => ?_) (fun _ _ q => q.elim)
  obtain ⟨rfl, z_7⟩ := q_7
  replace z_7 := z_7.symm
  subst z_7
  refine wp_if_eq (tgt := 21) d_56_10 (by decide) (by omega) (fun c_10 => ?_) (fun c_10 => ?_)
  rotate_left
  · exact absurd c_10 (by omega)
  refine wp_aload_n d_56_21 (by rfl) ?_
  refine wp_iconst d_56_22 ?_
  refine wp_callV d_56_23 c_56_101 rfl (by rfl) (by rfl) ⟨1, rfl, rfl, by decide⟩ (by assumption) (by exact Nat.le_of_ble_eq_true rfl) (by exact Nat.le_of_ble_eq_true rfl) (m_no z0 (by decide)) (fun v_23 h_23 q_23 => ?_) (fun _ _ q => q.elim)
  obtain ⟨rfl, z_23⟩ := q_23
  replace z_23 := z_23.symm
  subst z_23
  refine wp_iret d_56_26 rfl ?_
  exact ⟨rfl, rfl, rfl, rfl, by rw [hi_setI, up2_same]⟩
set_option maxRecDepth 100000 in
set_option maxHeartbeats 4000000 in
theorem m_except {m : Nat} {p0 p1 p2 : Int} {h : Hp} (hM : Mz h m) (i_p0 : inR p0) (i_p1 : inR p1) (i_p2 : inR p2) : wp 58 0 (entL [vR (some m), vI p0, vI p1, vI p2] (mL 58)) [] h (fun v h' => v = some (vI 0) ∧ RM m 1 h h') noX := by
  have hM0 := hM
  obtain ⟨z0, z1, z7, z12, z23⟩ := hM
  refine wp_aload_n d_58_0 (by rfl) ?_
  refine wp_iconst d_58_1 ?_
  refine wp_putI (0) d_58_2 fl_1_88 rfl rfl (Or.inl (by rfl)) (by assumption) (by omega) (fun q => nomatch q) ?_
  refine wp_iload_n d_58_5 (by rfl) ?_
  refine wp_iconst d_58_6 ?_
  refine wp_aload_n d_58_7 (by rfl) ?_
  refine wp_getI (7) d_58_8 fl_1_112 rfl rfl (by assumption) (fun x_8 e_8 r_8 => ?_)
  (try rw [hi_setI, up2_same] at e_8)
  (try rw [hi_setI, up2_ne _ _ (by omega)] at e_8)
  refine wp_iconst d_58_11 ?_
  refine wp_isub d_58_12 ?_
  refine wp_callS d_58_13 c_58_94 rfl (by rfl) (by rfl) (by exact Nat.le_of_ble_eq_true rfl) (by exact Nat.le_of_ble_eq_true rfl) (m_isIn (z := 0) (by omega) (by omega) (by omega) (Or.inr ⟨by omega, rfl⟩)) (fun v_13 h_13 q_13 => ?_) (fun _ _ q => q.elim)
  obtain ⟨rfl, z_13⟩ := q_13
  replace z_13 := z_13.symm
  subst z_13
  refine wp_if_ne (tgt := 25) d_58_16 (by decide) (by omega) (fun c_16 => ?_) (fun c_16 => ?_)
  · exact absurd c_16 (by omega)
  refine wp_aload_n d_58_19 (by rfl) ?_
  refine wp_iconst d_58_20 ?_
  refine wp_callV d_58_21 c_58_115 rfl (by rfl) (by rfl) ⟨1, rfl, rfl, by decide⟩ (by assumption) (by exact Nat.le_of_ble_eq_true rfl) (by exact Nat.le_of_ble_eq_true rfl) (m_isNot z0 (by decide)) (fun v_21 h_21 q_21 => ?_) (fun _ _ q => q.elim)
  obtain ⟨rfl, z_21⟩ := q_21
  replace z_21 := z_21.symm
  subst z_21
  refine wp_zret d_58_24 rfl (by omega) ?_
  exact ⟨rfl, rfl, rfl, rfl, by rw [hi_setI, up2_same]⟩
set_option maxRecDepth 100000 in
set_option maxHeartbeats 4000000 in
theorem m_runsOn {m : Nat} {p0 p1 : Int} {h : Hp} (hM : Mz h m) (i_p0 : inR p0) (i_p1 : inR p1) : wp 61 0 (entL [vR (some m), vI p0, vI p1] (mL 61)) [] h (fun v h' => v = some (vI 0) ∧ RM m 1 h h') noX := by
  have hM0 := hM
  obtain ⟨z0, z1, z7, z12, z23⟩ := hM
  refine wp_aload_n d_61_0 (by rfl) ?_
  refine wp_iconst d_61_1 ?_
  refine wp_putI (0) d_61_2 fl_1_88 rfl rfl (Or.inl (by rfl)) (by assumption) (by omega) (fun q => nomatch q) ?_
  refine wp_iload_n d_61_5 (by rfl) ?_
  refine wp_iconst d_61_6 ?_
  refine wp_aload_n d_61_7 (by rfl) ?_
  refine wp_getI (7) d_61_8 fl_1_112 rfl rfl (by assumption) (fun x_8 e_8 r_8 => ?_)
  (try rw [hi_setI, up2_same] at e_8)
  (try rw [hi_setI, up2_ne _ _ (by omega)] at e_8)
  refine wp_iconst d_61_11 ?_
  refine wp_isub d_61_12 ?_
  refine wp_callS d_61_13 c_61_94 rfl (by rfl) (by rfl) (by exact Nat.le_of_ble_eq_true rfl) (by exact Nat.le_of_ble_eq_true rfl) (m_isIn (z := 0) (by omega) (by omega) (by omega) (Or.inr ⟨by omega, rfl⟩)) (fun v_13 h_13 q_13 => ?_) (fun _ _ q => q.elim)
  obtain ⟨rfl, z_13⟩ := q_13
  replace z_13 := z_13.symm
  subst z_13
  refine wp_if_eq (tgt := 28) d_61_16 (by decide) (by omega) (fun c_16 => ?_) (fun c_16 => ?_)
  rotate_left
  · exact absurd c_16 (by omega)
  refine wp_aload_n d_61_28 (by rfl) ?_
  refine wp_iconst d_61_29 ?_
  refine wp_callV d_61_30 c_61_115 rfl (by rfl) (by rfl) ⟨1, rfl, rfl, by decide⟩ (by assumption) (by exact Nat.le_of_ble_eq_true rfl) (by exact Nat.le_of_ble_eq_true rfl) (m_isNot z0 (by decide)) (fun v_30 h_30 q_30 => ?_) (fun _ _ q => q.elim)
  obtain ⟨rfl, z_30⟩ := q_30
  replace z_30 := z_30.symm
  subst z_30
  refine wp_zret d_61_33 rfl (by omega) ?_
  exact ⟨rfl, rfl, rfl, rfl, by rw [hi_setI, up2_same]⟩
set_option maxRecDepth 100000 in
set_option maxHeartbeats 4000000 in
theorem m_addTrip {m : Nat} {p0 p1 p2 p3 : Int} {h : Hp} (hM : Mz h m) (i_p0 : inR p0) (i_p1 : inR p1) (i_p2 : inR p2) (i_p3 : inR p3) : wp 62 0 (entL [vR (some m), vI p0, vI p1, vI p2, vI p3] (mL 62)) [] h (fun v h' => v = some (vI 0) ∧ RM m 1 h h') noX := by
  have hM0 := hM
  obtain ⟨z0, z1, z7, z12, z23⟩ := hM
  refine wp_aload_n d_62_0 (by rfl) ?_
  refine wp_iconst d_62_1 ?_
  refine wp_putI (0) d_62_2 fl_1_88 rfl rfl (Or.inl (by rfl)) (by assumption) (by omega) (fun q => nomatch q) ?_
  refine wp_iload_n d_62_5 (by rfl) ?_
  refine wp_iconst d_62_6 ?_
  refine wp_aload_n d_62_7 (by rfl) ?_
  refine wp_getI (7) d_62_8 fl_1_112 rfl rfl (by assumption) (fun x_8 e_8 r_8 => ?_)
  (try rw [hi_setI, up2_same] at e_8)
  (try rw [hi_setI, up2_ne _ _ (by omega)] at e_8)
  refine wp_iconst d_62_11 ?_
  refine wp_isub d_62_12 ?_
  refine wp_callS d_62_13 c_62_94 rfl (by rfl) (by rfl) (by exact Nat.le_of_ble_eq_true rfl) (by exact Nat.le_of_ble_eq_true rfl) (m_isIn (z := 0) (by omega) (by omega) (by omega) (Or.inr ⟨by omega, rfl⟩)) (fun v_13 h_13 q_13 => ?_) (fun _ _ q => q.elim)
  obtain ⟨rfl, z_13⟩ := q_13
  replace z_13 := z_13.symm
  subst z_13
  refine wp_if_eq (tgt := 27) d_62_16 (by decide) (by omega) (fun c_16 => ?_) (fun c_16 => ?_)
  rotate_left
  · exact absurd c_16 (by omega)
  refine wp_aload_n d_62_27 (by rfl) ?_
  refine wp_iconst d_62_28 ?_
  refine wp_callV d_62_29 c_62_101 rfl (by rfl) (by rfl) ⟨1, rfl, rfl, by decide⟩ (by assumption) (by exact Nat.le_of_ble_eq_true rfl) (by exact Nat.le_of_ble_eq_true rfl) (m_no z0 (by decide)) (fun v_29 h_29 q_29 => ?_) (fun _ _ q => q.elim)
  obtain ⟨rfl, z_29⟩ := q_29
  replace z_29 := z_29.symm
  subst z_29
  refine wp_iret d_62_32 rfl ?_
  exact ⟨rfl, rfl, rfl, rfl, by rw [hi_setI, up2_same]⟩
set_option maxRecDepth 100000 in
set_option maxHeartbeats 4000000 in
theorem m_addCall {m : Nat} {p0 p1 p2 p3 : Int} {h : Hp} (hM : Mz h m) (i_p0 : inR p0) (i_p1 : inR p1) (i_p2 : inR p2) (i_p3 : inR p3) : wp 63 0 (entL [vR (some m), vI p0, vI p1, vI p2, vI p3] (mL 63)) [] h (fun v h' => v = some (vI 0) ∧ RM m 1 h h') noX := by
  have hM0 := hM
  obtain ⟨z0, z1, z7, z12, z23⟩ := hM
  refine wp_aload_n d_63_0 (by rfl) ?_
  refine wp_iconst d_63_1 ?_
  refine wp_putI (0) d_63_2 fl_1_88 rfl rfl (Or.inl (by rfl)) (by assumption) (by omega) (fun q => nomatch q) ?_
  refine wp_aload_n d_63_5 (by rfl) ?_
  refine wp_iload_n d_63_6 (by rfl) ?_
  refine wp_callV d_63_7 c_63_122 rfl (by rfl) (by rfl) ⟨1, rfl, rfl, by decide⟩ (by assumption) (by exact Nat.le_of_ble_eq_true rfl) (by exact Nat.le_of_ble_eq_true rfl) (m_isTrip (by first | exact hM0 | exact hM0.set | exact hM0.set.set) (by assumption)) (fun v_7 h_7 q_7 => ?_) (fun _ _ q => q.elim)
  obtain ⟨rfl, z_7⟩ := q_7
  replace z_7 := z_7.symm
  subst z_7
  refine wp_if_eq (tgt := 21) d_63_10 (by decide) (by omega) (fun c_10 => ?_) (fun c_10 => ?_)
  rotate_left
  · exact absurd c_10 (by omega)
  refine wp_aload_n d_63_21 (by rfl) ?_
  refine wp_iconst d_63_22 ?_
  refine wp_callV d_63_23 c_63_101 rfl (by rfl) (by rfl) ⟨1, rfl, rfl, by decide⟩ (by assumption) (by exact Nat.le_of_ble_eq_true rfl) (by exact Nat.le_of_ble_eq_true rfl) (m_no z0 (by decide)) (fun v_23 h_23 q_23 => ?_) (fun _ _ q => q.elim)
  obtain ⟨rfl, z_23⟩ := q_23
  replace z_23 := z_23.symm
  subst z_23
  refine wp_iret d_63_26 rfl ?_
  exact ⟨rfl, rfl, rfl, rfl, by rw [hi_setI, up2_same]⟩
set_option maxRecDepth 100000 in
set_option maxHeartbeats 4000000 in
theorem m_calls {m : Nat} {p0 : Int} {h : Hp} (hM : Mz h m) (i_p0 : inR p0) : wp 68 0 (entL [vR (some m), vI p0] (mL 68)) [] h (fun v h' => v = some (vI 0) ∧ RM m 1 h h') noX := by
  have hM0 := hM
  obtain ⟨z0, z1, z7, z12, z23⟩ := hM
  refine wp_aload_n d_68_0 (by rfl) ?_
  refine wp_iconst d_68_1 ?_
  refine wp_putI (0) d_68_2 fl_1_88 rfl rfl (Or.inl (by rfl)) (by assumption) (by omega) (fun q => nomatch q) ?_
  refine wp_aload_n d_68_5 (by rfl) ?_
  refine wp_iload_n d_68_6 (by rfl) ?_
  refine wp_callV d_68_7 c_68_122 rfl (by rfl) (by rfl) ⟨1, rfl, rfl, by decide⟩ (by assumption) (by exact Nat.le_of_ble_eq_true rfl) (by exact Nat.le_of_ble_eq_true rfl) (m_isTrip (by first | exact hM0 | exact hM0.set | exact hM0.set.set) (by assumption)) (fun v_7 h_7 q_7 => ?_) (fun _ _ q => q.elim)
  obtain ⟨rfl, z_7⟩ := q_7
  replace z_7 := z_7.symm
  subst z_7
  refine wp_if_eq (tgt := 22) d_68_10 (by decide) (by omega) (fun c_10 => ?_) (fun c_10 => ?_)
  rotate_left
  · exact absurd c_10 (by omega)
  refine wp_aload_n d_68_22 (by rfl) ?_
  refine wp_iconst d_68_23 ?_
  refine wp_callV d_68_24 c_68_101 rfl (by rfl) (by rfl) ⟨1, rfl, rfl, by decide⟩ (by assumption) (by exact Nat.le_of_ble_eq_true rfl) (by exact Nat.le_of_ble_eq_true rfl) (m_no z0 (by decide)) (fun v_24 h_24 q_24 => ?_) (fun _ _ q => q.elim)
  obtain ⟨rfl, z_24⟩ := q_24
  replace z_24 := z_24.symm
  subst z_24
  refine wp_iret d_68_27 rfl ?_
  exact ⟨rfl, rfl, rfl, rfl, by rw [hi_setI, up2_same]⟩
set_option maxRecDepth 100000 in
set_option maxHeartbeats 4000000 in
theorem m_stopOf {m : Nat} {p0 p1 : Int} {h : Hp} (hM : Mz h m) (i_p0 : inR p0) (i_p1 : inR p1) : wp 69 0 (entL [vR (some m), vI p0, vI p1] (mL 69)) [] h (fun v h' => v = some (vI 0) ∧ RM m 1 h h') noX := by
  have hM0 := hM
  obtain ⟨z0, z1, z7, z12, z23⟩ := hM
  refine wp_aload_n d_69_0 (by rfl) ?_
  refine wp_iconst d_69_1 ?_
  refine wp_putI (0) d_69_2 fl_1_88 rfl rfl (Or.inl (by rfl)) (by assumption) (by omega) (fun q => nomatch q) ?_
  refine wp_aload_n d_69_5 (by rfl) ?_
  refine wp_iload_n d_69_6 (by rfl) ?_
  refine wp_callV d_69_7 c_69_122 rfl (by rfl) (by rfl) ⟨1, rfl, rfl, by decide⟩ (by assumption) (by exact Nat.le_of_ble_eq_true rfl) (by exact Nat.le_of_ble_eq_true rfl) (m_isTrip (by first | exact hM0 | exact hM0.set | exact hM0.set.set) (by assumption)) (fun v_7 h_7 q_7 => ?_) (fun _ _ q => q.elim)
  obtain ⟨rfl, z_7⟩ := q_7
  replace z_7 := z_7.symm
  subst z_7
  refine wp_if_eq (tgt := 40) d_69_10 (by decide) (by omega) (fun c_10 => ?_) (fun c_10 => ?_)
  rotate_left
  · exact absurd c_10 (by omega)
  refine wp_aload_n d_69_40 (by rfl) ?_
  refine wp_iconst d_69_41 ?_
  refine wp_callV d_69_42 c_69_101 rfl (by rfl) (by rfl) ⟨1, rfl, rfl, by decide⟩ (by assumption) (by exact Nat.le_of_ble_eq_true rfl) (by exact Nat.le_of_ble_eq_true rfl) (m_no z0 (by decide)) (fun v_42 h_42 q_42 => ?_) (fun _ _ q => q.elim)
  obtain ⟨rfl, z_42⟩ := q_42
  replace z_42 := z_42.symm
  subst z_42
  refine wp_iret d_69_45 rfl ?_
  exact ⟨rfl, rfl, rfl, rfl, by rw [hi_setI, up2_same]⟩
set_option maxRecDepth 100000 in
set_option maxHeartbeats 4000000 in
theorem m_late {m : Nat} {p0 p1 p2 : Int} {h : Hp} (hM : Mz h m) (i_p0 : inR p0) (i_p1 : inR p1) (i_p2 : inR p2) : wp 70 0 (entL [vR (some m), vI p0, vI p1, vI p2] (mL 70)) [] h (fun v h' => v = some (vI 0) ∧ RM m 1 h h') noX := by
  have hM0 := hM
  obtain ⟨z0, z1, z7, z12, z23⟩ := hM
  refine wp_aload_n d_70_0 (by rfl) ?_
  refine wp_iconst d_70_1 ?_
  refine wp_putI (0) d_70_2 fl_1_88 rfl rfl (Or.inl (by rfl)) (by assumption) (by omega) (fun q => nomatch q) ?_
  refine wp_aload_n d_70_5 (by rfl) ?_
  refine wp_iload_n d_70_6 (by rfl) ?_
  refine wp_callV d_70_7 c_70_122 rfl (by rfl) (by rfl) ⟨1, rfl, rfl, by decide⟩ (by assumption) (by exact Nat.le_of_ble_eq_true rfl) (by exact Nat.le_of_ble_eq_true rfl) (m_isTrip (by first | exact hM0 | exact hM0.set | exact hM0.set.set) (by assumption)) (fun v_7 h_7 q_7 => ?_) (fun _ _ q => q.elim)
  obtain ⟨rfl, z_7⟩ := q_7
  replace z_7 := z_7.symm
  subst z_7
  refine wp_if_ne (tgt := 19) d_70_10 (by decide) (by omega) (fun c_10 => ?_) (fun c_10 => ?_)
  · exact absurd c_10 (by omega)
  refine wp_aload_n d_70_13 (by rfl) ?_
  refine wp_iconst d_70_14 ?_
  refine wp_callV d_70_15 c_70_101 rfl (by rfl) (by rfl) ⟨1, rfl, rfl, by decide⟩ (by assumption) (by exact Nat.le_of_ble_eq_true rfl) (by exact Nat.le_of_ble_eq_true rfl) (m_no z0 (by decide)) (fun v_15 h_15 q_15 => ?_) (fun _ _ q => q.elim)
  obtain ⟨rfl, z_15⟩ := q_15
  replace z_15 := z_15.symm
  subst z_15
  refine wp_iret d_70_18 rfl ?_
  exact ⟨rfl, rfl, rfl, rfl, by rw [hi_setI, up2_same]⟩
set_option maxRecDepth 100000 in
set_option maxHeartbeats 4000000 in
theorem m_cancel {m : Nat} {p0 p1 : Int} {h : Hp} (hM : Mz h m) (i_p0 : inR p0) (i_p1 : inR p1) : wp 71 0 (entL [vR (some m), vI p0, vI p1] (mL 71)) [] h (fun v h' => v = some (vI 0) ∧ RM m 1 h h') noX := by
  have hM0 := hM
  obtain ⟨z0, z1, z7, z12, z23⟩ := hM
  refine wp_aload_n d_71_0 (by rfl) ?_
  refine wp_iconst d_71_1 ?_
  refine wp_putI (0) d_71_2 fl_1_88 rfl rfl (Or.inl (by rfl)) (by assumption) (by omega) (fun q => nomatch q) ?_
  refine wp_aload_n d_71_5 (by rfl) ?_
  refine wp_iload_n d_71_6 (by rfl) ?_
  refine wp_callV d_71_7 c_71_122 rfl (by rfl) (by rfl) ⟨1, rfl, rfl, by decide⟩ (by assumption) (by exact Nat.le_of_ble_eq_true rfl) (by exact Nat.le_of_ble_eq_true rfl) (m_isTrip (by first | exact hM0 | exact hM0.set | exact hM0.set.set) (by assumption)) (fun v_7 h_7 q_7 => ?_) (fun _ _ q => q.elim)
  obtain ⟨rfl, z_7⟩ := q_7
  replace z_7 := z_7.symm
  subst z_7
  refine wp_if_ne (tgt := 19) d_71_10 (by decide) (by omega) (fun c_10 => ?_) (fun c_10 => ?_)
  · exact absurd c_10 (by omega)
  refine wp_aload_n d_71_13 (by rfl) ?_
  refine wp_iconst d_71_14 ?_
  refine wp_callV d_71_15 c_71_115 rfl (by rfl) (by rfl) ⟨1, rfl, rfl, by decide⟩ (by assumption) (by exact Nat.le_of_ble_eq_true rfl) (by exact Nat.le_of_ble_eq_true rfl) (m_isNot z0 (by decide)) (fun v_15 h_15 q_15 => ?_) (fun _ _ q => q.elim)
  obtain ⟨rfl, z_15⟩ := q_15
  replace z_15 := z_15.symm
  subst z_15
  refine wp_zret d_71_18 rfl (by omega) ?_
  exact ⟨rfl, rfl, rfl, rfl, by rw [hi_setI, up2_same]⟩
set_option maxRecDepth 100000 in
set_option maxHeartbeats 4000000 in
theorem m_lateOf {m : Nat} {p0 p1 : Int} {h : Hp} (hM : Mz h m) (i_p0 : inR p0) (i_p1 : inR p1) : wp 73 0 (entL [vR (some m), vI p0, vI p1] (mL 73)) [] h (fun v h' => v = some (vI 0) ∧ RM m 1 h h') noX := by
  have hM0 := hM
  obtain ⟨z0, z1, z7, z12, z23⟩ := hM
  refine wp_aload_n d_73_0 (by rfl) ?_
  refine wp_iconst d_73_1 ?_
  refine wp_putI (0) d_73_2 fl_1_88 rfl rfl (Or.inl (by rfl)) (by assumption) (by omega) (fun q => nomatch q) ?_
  refine wp_aload_n d_73_5 (by rfl) ?_
  refine wp_iload_n d_73_6 (by rfl) ?_
  refine wp_callV d_73_7 c_73_122 rfl (by rfl) (by rfl) ⟨1, rfl, rfl, by decide⟩ (by assumption) (by exact Nat.le_of_ble_eq_true rfl) (by exact Nat.le_of_ble_eq_true rfl) (m_isTrip (by first | exact hM0 | exact hM0.set | exact hM0.set.set) (by assumption)) (fun v_7 h_7 q_7 => ?_) (fun _ _ q => q.elim)
  obtain ⟨rfl, z_7⟩ := q_7
  replace z_7 := z_7.symm
  subst z_7
  refine wp_if_eq (tgt := 22) d_73_10 (by decide) (by omega) (fun c_10 => ?_) (fun c_10 => ?_)
  rotate_left
  · exact absurd c_10 (by omega)
  refine wp_aload_n d_73_22 (by rfl) ?_
  refine wp_iconst d_73_23 ?_
  refine wp_callV d_73_24 c_73_101 rfl (by rfl) (by rfl) ⟨1, rfl, rfl, by decide⟩ (by assumption) (by exact Nat.le_of_ble_eq_true rfl) (by exact Nat.le_of_ble_eq_true rfl) (m_no z0 (by decide)) (fun v_24 h_24 q_24 => ?_) (fun _ _ q => q.elim)
  obtain ⟨rfl, z_24⟩ := q_24
  replace z_24 := z_24.symm
  subst z_24
  refine wp_iret d_73_27 rfl ?_
  exact ⟨rfl, rfl, rfl, rfl, by rw [hi_setI, up2_same]⟩
set_option maxRecDepth 100000 in
set_option maxHeartbeats 4000000 in
theorem m_departures {m : Nat} {p0 p1 : Int} {h : Hp} (hM : Mz h m) (i_p0 : inR p0) (i_p1 : inR p1) : wp 74 0 (entL [vR (some m), vI p0, vI p1] (mL 74)) [] h (fun v h' => v = some (vI 0) ∧ RM m 1 h h') noX := by
  have hM0 := hM
  obtain ⟨z0, z1, z7, z12, z23⟩ := hM
  refine wp_aload_n d_74_0 (by rfl) ?_
  refine wp_iconst d_74_1 ?_
  refine wp_putI (0) d_74_2 fl_1_88 rfl rfl (Or.inl (by rfl)) (by assumption) (by omega) (fun q => nomatch q) ?_
  refine wp_aload_n d_74_5 (by rfl) ?_
  refine wp_iload_n d_74_6 (by rfl) ?_
  refine wp_callV d_74_7 c_74_105 rfl (by rfl) (by rfl) ⟨1, rfl, rfl, by decide⟩ (by assumption) (by exact Nat.le_of_ble_eq_true rfl) (by exact Nat.le_of_ble_eq_true rfl) (m_isStop (by first | exact hM0 | exact hM0.set | exact hM0.set.set) (by assumption)) (fun v_7 h_7 q_7 => ?_) (fun _ _ q => q.elim)
  obtain ⟨rfl, z_7⟩ := q_7
  replace z_7 := z_7.symm
  subst z_7
  refine wp_if_ne (tgt := 19) d_74_10 (by decide) (by omega) (fun c_10 => ?_) (fun c_10 => ?_)
  · exact absurd c_10 (by omega)
  refine wp_aload_n d_74_13 (by rfl) ?_
  refine wp_iconst d_74_14 ?_
  refine wp_callV d_74_15 c_74_101 rfl (by rfl) (by rfl) ⟨1, rfl, rfl, by decide⟩ (by assumption) (by exact Nat.le_of_ble_eq_true rfl) (by exact Nat.le_of_ble_eq_true rfl) (m_no z0 (by decide)) (fun v_15 h_15 q_15 => ?_) (fun _ _ q => q.elim)
  obtain ⟨rfl, z_15⟩ := q_15
  replace z_15 := z_15.symm
  subst z_15
  refine wp_iret d_74_18 rfl ?_
  exact ⟨rfl, rfl, rfl, rfl, by rw [hi_setI, up2_same]⟩
set_option maxRecDepth 100000 in
set_option maxHeartbeats 4000000 in
theorem m_departsAt {m : Nat} {p0 p1 p2 : Int} {h : Hp} (hM : Mz h m) (i_p0 : inR p0) (i_p1 : inR p1) (i_p2 : inR p2) : wp 78 0 (entL [vR (some m), vI p0, vI p1, vI p2] (mL 78)) [] h (fun v h' => v = some (vI 0) ∧ RM m 1 h h') noX := by
  have hM0 := hM
  obtain ⟨z0, z1, z7, z12, z23⟩ := hM
  refine wp_aload_n d_78_0 (by rfl) ?_
  refine wp_iconst d_78_1 ?_
  refine wp_putI (0) d_78_2 fl_1_88 rfl rfl (Or.inl (by rfl)) (by assumption) (by omega) (fun q => nomatch q) ?_
  refine wp_aload_n d_78_5 (by rfl) ?_
  refine wp_iload_n d_78_6 (by rfl) ?_
  refine wp_callV d_78_7 c_78_105 rfl (by rfl) (by rfl) ⟨1, rfl, rfl, by decide⟩ (by assumption) (by exact Nat.le_of_ble_eq_true rfl) (by exact Nat.le_of_ble_eq_true rfl) (m_isStop (by first | exact hM0 | exact hM0.set | exact hM0.set.set) (by assumption)) (fun v_7 h_7 q_7 => ?_) (fun _ _ q => q.elim)
  obtain ⟨rfl, z_7⟩ := q_7
  replace z_7 := z_7.symm
  subst z_7
  refine wp_if_ne (tgt := 19) d_78_10 (by decide) (by omega) (fun c_10 => ?_) (fun c_10 => ?_)
  · exact absurd c_10 (by omega)
  refine wp_aload_n d_78_13 (by rfl) ?_
  refine wp_iconst d_78_14 ?_
  refine wp_callV d_78_15 c_78_101 rfl (by rfl) (by rfl) ⟨1, rfl, rfl, by decide⟩ (by assumption) (by exact Nat.le_of_ble_eq_true rfl) (by exact Nat.le_of_ble_eq_true rfl) (m_no z0 (by decide)) (fun v_15 h_15 q_15 => ?_) (fun _ _ q => q.elim)
  obtain ⟨rfl, z_15⟩ := q_15
  replace z_15 := z_15.symm
  subst z_15
  refine wp_iret d_78_18 rfl ?_
  exact ⟨rfl, rfl, rfl, rfl, by rw [hi_setI, up2_same]⟩
set_option maxRecDepth 100000 in
set_option maxHeartbeats 4000000 in
theorem m_tripAt {m : Nat} {p0 p1 p2 : Int} {h : Hp} (hM : Mz h m) (i_p0 : inR p0) (i_p1 : inR p1) (i_p2 : inR p2) : wp 79 0 (entL [vR (some m), vI p0, vI p1, vI p2] (mL 79)) [] h (fun v h' => v = some (vI 0) ∧ RM m 1 h h') noX := by
  have hM0 := hM
  obtain ⟨z0, z1, z7, z12, z23⟩ := hM
  refine wp_aload_n d_79_0 (by rfl) ?_
  refine wp_iconst d_79_1 ?_
  refine wp_putI (0) d_79_2 fl_1_88 rfl rfl (Or.inl (by rfl)) (by assumption) (by omega) (fun q => nomatch q) ?_
  refine wp_aload_n d_79_5 (by rfl) ?_
  refine wp_iload_n d_79_6 (by rfl) ?_
  refine wp_callV d_79_7 c_79_105 rfl (by rfl) (by rfl) ⟨1, rfl, rfl, by decide⟩ (by assumption) (by exact Nat.le_of_ble_eq_true rfl) (by exact Nat.le_of_ble_eq_true rfl) (m_isStop (by first | exact hM0 | exact hM0.set | exact hM0.set.set) (by assumption)) (fun v_7 h_7 q_7 => ?_) (fun _ _ q => q.elim)
  obtain ⟨rfl, z_7⟩ := q_7
  replace z_7 := z_7.symm
  subst z_7
  refine wp_if_ne (tgt := 19) d_79_10 (by decide) (by omega) (fun c_10 => ?_) (fun c_10 => ?_)
  · exact absurd c_10 (by omega)
  refine wp_aload_n d_79_13 (by rfl) ?_
  refine wp_iconst d_79_14 ?_
  refine wp_callV d_79_15 c_79_101 rfl (by rfl) (by rfl) ⟨1, rfl, rfl, by decide⟩ (by assumption) (by exact Nat.le_of_ble_eq_true rfl) (by exact Nat.le_of_ble_eq_true rfl) (m_no z0 (by decide)) (fun v_15 h_15 q_15 => ?_) (fun _ _ q => q.elim)
  obtain ⟨rfl, z_15⟩ := q_15
  replace z_15 := z_15.symm
  subst z_15
  refine wp_iret d_79_18 rfl ?_
  exact ⟨rfl, rfl, rfl, rfl, by rw [hi_setI, up2_same]⟩
set_option maxRecDepth 100000 in
set_option maxHeartbeats 4000000 in
theorem m_earliest {m : Nat} {p0 p1 p2 : Int} {h : Hp} (hM : Mz h m) (i_p0 : inR p0) (i_p1 : inR p1) (i_p2 : inR p2) : wp 80 0 (entL [vR (some m), vI p0, vI p1, vI p2] (mL 80)) [] h (fun v h' => v = some (vI 0) ∧ RM m 1 h h') noX := by
  have hM0 := hM
  obtain ⟨z0, z1, z7, z12, z23⟩ := hM
  refine wp_aload_n d_80_0 (by rfl) ?_
  refine wp_aload_n d_80_1 (by rfl) ?_
  refine wp_iload_n d_80_2 (by rfl) ?_
  refine wp_iload_n d_80_3 (by rfl) ?_
  refine wp_iload_n d_80_4 (by rfl) ?_
  refine wp_callV d_80_5 c_80_184 rfl (by rfl) (by rfl) ⟨1, rfl, rfl, by decide⟩ (by assumption) (by exact Nat.le_of_ble_eq_true rfl) (by exact Nat.le_of_ble_eq_true rfl) (m_question (by first | exact hM0 | exact hM0.set | exact hM0.set.set) (by assumption) (by assumption) (by assumption)) (fun v_5 h_5 q_5 => ?_) (fun _ _ q => q.elim)
  obtain ⟨rfl, z_5⟩ := q_5
  replace z_5 := z_5.symm
  subst z_5
  refine wp_putI (0) d_80_8 fl_1_88 rfl rfl (Or.inl (by rfl)) (by assumption) (by omega) (fun q => nomatch q) ?_
  refine wp_aload_n d_80_11 (by rfl) ?_
  refine wp_getI (0) d_80_12 fl_1_88 rfl rfl (by assumption) (fun x_12 e_12 r_12 => ?_)
  (try rw [hi_setI, up2_same] at e_12)
  (try rw [hi_setI, up2_ne _ _ (by omega)] at e_12)
  refine wp_if_eq (tgt := 22) d_80_15 (by decide) (by omega) (fun c_15 => ?_) (fun c_15 => ?_)
  · exact absurd c_15 (by omega)
  refine wp_iconst d_80_18 ?_
  refine wp_goto (tgt := 29) d_80_19 (by decide) ?_
  refine wp_iret d_80_29 rfl ?_
  exact ⟨rfl, rfl, rfl, rfl, by rw [hi_setI, up2_same]⟩
set_option maxRecDepth 100000 in
set_option maxHeartbeats 4000000 in
theorem m_withRides {m : Nat} {p0 p1 p2 p3 : Int} {h : Hp} (hM : Mz h m) (i_p0 : inR p0) (i_p1 : inR p1) (i_p2 : inR p2) (i_p3 : inR p3) : wp 88 0 (entL [vR (some m), vI p0, vI p1, vI p2, vI p3] (mL 88)) [] h (fun v h' => v = some (vI 0) ∧ RM m 1 h h') noX := by
  have hM0 := hM
  obtain ⟨z0, z1, z7, z12, z23⟩ := hM
  refine wp_aload_n d_88_0 (by rfl) ?_
  refine wp_aload_n d_88_1 (by rfl) ?_
  refine wp_iload_n d_88_2 (by rfl) ?_
  refine wp_iload_n d_88_3 (by rfl) ?_
  refine wp_iload_n d_88_4 (by rfl) ?_
  refine wp_callV d_88_5 c_88_184 rfl (by rfl) (by rfl) ⟨1, rfl, rfl, by decide⟩ (by assumption) (by exact Nat.le_of_ble_eq_true rfl) (by exact Nat.le_of_ble_eq_true rfl) (m_question (by first | exact hM0 | exact hM0.set | exact hM0.set.set) (by assumption) (by assumption) (by assumption)) (fun v_5 h_5 q_5 => ?_) (fun _ _ q => q.elim)
  obtain ⟨rfl, z_5⟩ := q_5
  replace z_5 := z_5.symm
  subst z_5
  refine wp_putI (0) d_88_8 fl_1_88 rfl rfl (Or.inl (by rfl)) (by assumption) (by omega) (fun q => nomatch q) ?_
  refine wp_aload_n d_88_11 (by rfl) ?_
  refine wp_getI (0) d_88_12 fl_1_88 rfl rfl (by assumption) (fun x_12 e_12 r_12 => ?_)
  (try rw [hi_setI, up2_same] at e_12)
  (try rw [hi_setI, up2_ne _ _ (by omega)] at e_12)
  refine wp_if_eq (tgt := 20) d_88_15 (by decide) (by omega) (fun c_15 => ?_) (fun c_15 => ?_)
  · exact absurd c_15 (by omega)
  refine wp_iconst d_88_18 ?_
  refine wp_iret d_88_19 rfl ?_
  exact ⟨rfl, rfl, rfl, rfl, by rw [hi_setI, up2_same]⟩
set_option maxRecDepth 100000 in
set_option maxHeartbeats 4000000 in
theorem m_rides {m : Nat} {p0 p1 p2 : Int} {h : Hp} (hM : Mz h m) (i_p0 : inR p0) (i_p1 : inR p1) (i_p2 : inR p2) : wp 89 0 (entL [vR (some m), vI p0, vI p1, vI p2] (mL 89)) [] h (fun v h' => v = some (vI 0) ∧ RM m 1 h h') noX := by
  have hM0 := hM
  obtain ⟨z0, z1, z7, z12, z23⟩ := hM
  refine wp_aload_n d_89_0 (by rfl) ?_
  refine wp_aload_n d_89_1 (by rfl) ?_
  refine wp_iload_n d_89_2 (by rfl) ?_
  refine wp_iload_n d_89_3 (by rfl) ?_
  refine wp_iload_n d_89_4 (by rfl) ?_
  refine wp_callV d_89_5 c_89_184 rfl (by rfl) (by rfl) ⟨1, rfl, rfl, by decide⟩ (by assumption) (by exact Nat.le_of_ble_eq_true rfl) (by exact Nat.le_of_ble_eq_true rfl) (m_question (by first | exact hM0 | exact hM0.set | exact hM0.set.set) (by assumption) (by assumption) (by assumption)) (fun v_5 h_5 q_5 => ?_) (fun _ _ q => q.elim)
  obtain ⟨rfl, z_5⟩ := q_5
  replace z_5 := z_5.symm
  subst z_5
  refine wp_putI (0) d_89_8 fl_1_88 rfl rfl (Or.inl (by rfl)) (by assumption) (by omega) (fun q => nomatch q) ?_
  refine wp_aload_n d_89_11 (by rfl) ?_
  refine wp_getI (0) d_89_12 fl_1_88 rfl rfl (by assumption) (fun x_12 e_12 r_12 => ?_)
  (try rw [hi_setI, up2_same] at e_12)
  (try rw [hi_setI, up2_ne _ _ (by omega)] at e_12)
  refine wp_if_eq (tgt := 22) d_89_15 (by decide) (by omega) (fun c_15 => ?_) (fun c_15 => ?_)
  · exact absurd c_15 (by omega)
  refine wp_iconst d_89_18 ?_
  refine wp_goto (tgt := 29) d_89_19 (by decide) ?_
  refine wp_iret d_89_29 rfl ?_
  exact ⟨rfl, rfl, rfl, rfl, by rw [hi_setI, up2_same]⟩
set_option maxRecDepth 100000 in
set_option maxHeartbeats 4000000 in
theorem m_cheapest {m : Nat} {p0 p1 p2 p3 : Int} {h : Hp} (hM : Mz h m) (i_p0 : inR p0) (i_p1 : inR p1) (i_p2 : inR p2) (i_p3 : inR p3) : wp 92 0 (entL [vR (some m), vI p0, vI p1, vI p2, vI p3] (mL 92)) [] h (fun v h' => v = some (vI 0) ∧ RM m 1 h h') noX := by
  have hM0 := hM
  obtain ⟨z0, z1, z7, z12, z23⟩ := hM
  refine wp_aload_n d_92_0 (by rfl) ?_
  refine wp_aload_n d_92_1 (by rfl) ?_
  refine wp_iload_n d_92_2 (by rfl) ?_
  refine wp_iload_n d_92_3 (by rfl) ?_
  refine wp_iload_n d_92_4 (by rfl) ?_
  refine wp_callV d_92_5 c_92_184 rfl (by rfl) (by rfl) ⟨1, rfl, rfl, by decide⟩ (by assumption) (by exact Nat.le_of_ble_eq_true rfl) (by exact Nat.le_of_ble_eq_true rfl) (m_question (by first | exact hM0 | exact hM0.set | exact hM0.set.set) (by assumption) (by assumption) (by assumption)) (fun v_5 h_5 q_5 => ?_) (fun _ _ q => q.elim)
  obtain ⟨rfl, z_5⟩ := q_5
  replace z_5 := z_5.symm
  subst z_5
  refine wp_putI (0) d_92_8 fl_1_88 rfl rfl (Or.inl (by rfl)) (by assumption) (by omega) (fun q => nomatch q) ?_
  refine wp_aload_n d_92_11 (by rfl) ?_
  refine wp_getI (0) d_92_12 fl_1_88 rfl rfl (by assumption) (fun x_12 e_12 r_12 => ?_)
  (try rw [hi_setI, up2_same] at e_12)
  (try rw [hi_setI, up2_ne _ _ (by omega)] at e_12)
  refine wp_if_eq (tgt := 20) d_92_15 (by decide) (by omega) (fun c_15 => ?_) (fun c_15 => ?_)
  · exact absurd c_15 (by omega)
  refine wp_iconst d_92_18 ?_
  refine wp_iret d_92_19 rfl ?_
  exact ⟨rfl, rfl, rfl, rfl, by rw [hi_setI, up2_same]⟩
set_option maxRecDepth 100000 in
set_option maxHeartbeats 4000000 in
theorem m_latest {m : Nat} {p0 p1 p2 : Int} {h : Hp} (hM : Mz h m) (i_p0 : inR p0) (i_p1 : inR p1) (i_p2 : inR p2) : wp 96 0 (entL [vR (some m), vI p0, vI p1, vI p2] (mL 96)) [] h (fun v h' => v = some (vI 0) ∧ RM m 1 h h') noX := by
  have hM0 := hM
  obtain ⟨z0, z1, z7, z12, z23⟩ := hM
  refine wp_aload_n d_96_0 (by rfl) ?_
  refine wp_aload_n d_96_1 (by rfl) ?_
  refine wp_iload_n d_96_2 (by rfl) ?_
  refine wp_iload_n d_96_3 (by rfl) ?_
  refine wp_iload_n d_96_4 (by rfl) ?_
  refine wp_callV d_96_5 c_96_184 rfl (by rfl) (by rfl) ⟨1, rfl, rfl, by decide⟩ (by assumption) (by exact Nat.le_of_ble_eq_true rfl) (by exact Nat.le_of_ble_eq_true rfl) (m_question (by first | exact hM0 | exact hM0.set | exact hM0.set.set) (by assumption) (by assumption) (by assumption)) (fun v_5 h_5 q_5 => ?_) (fun _ _ q => q.elim)
  obtain ⟨rfl, z_5⟩ := q_5
  replace z_5 := z_5.symm
  subst z_5
  refine wp_putI (0) d_96_8 fl_1_88 rfl rfl (Or.inl (by rfl)) (by assumption) (by omega) (fun q => nomatch q) ?_
  refine wp_aload_n d_96_11 (by rfl) ?_
  refine wp_getI (0) d_96_12 fl_1_88 rfl rfl (by assumption) (fun x_12 e_12 r_12 => ?_)
  (try rw [hi_setI, up2_same] at e_12)
  (try rw [hi_setI, up2_ne _ _ (by omega)] at e_12)
  refine wp_if_eq (tgt := 22) d_96_15 (by decide) (by omega) (fun c_15 => ?_) (fun c_15 => ?_)
  · exact absurd c_15 (by omega)
  refine wp_iconst d_96_18 ?_
  refine wp_goto (tgt := 29) d_96_19 (by decide) ?_
  refine wp_iret d_96_29 rfl ?_
  exact ⟨rfl, rfl, rfl, rfl, by rw [hi_setI, up2_same]⟩
set_option maxRecDepth 100000 in
set_option maxHeartbeats 4000000 in
theorem m_reached {m : Nat} {p0 p1 p2 : Int} {h : Hp} (hM : Mz h m) (i_p0 : inR p0) (i_p1 : inR p1) (i_p2 : inR p2) : wp 91 0 (entL [vR (some m), vI p0, vI p1, vI p2] (mL 91)) [] h (fun v h' => v = some (vI 0) ∧ RM m 1 h h') noX := by
  have hM0 := hM
  obtain ⟨z0, z1, z7, z12, z23⟩ := hM
  refine wp_aload_n d_91_0 (by rfl) ?_
  refine wp_aload_n d_91_1 (by rfl) ?_
  refine wp_iload_n d_91_2 (by rfl) ?_
  refine wp_iload_n d_91_3 (by rfl) ?_
  refine wp_iload_n d_91_4 (by rfl) ?_
  refine wp_callV d_91_5 c_91_184 rfl (by rfl) (by rfl) ⟨1, rfl, rfl, by decide⟩ (by assumption) (by exact Nat.le_of_ble_eq_true rfl) (by exact Nat.le_of_ble_eq_true rfl) (m_question (by first | exact hM0 | exact hM0.set | exact hM0.set.set) (by assumption) (by assumption) (by assumption)) (fun v_5 h_5 q_5 => ?_) (fun _ _ q => q.elim)
  obtain ⟨rfl, z_5⟩ := q_5
  replace z_5 := z_5.symm
  subst z_5
  refine wp_putI (0) d_91_8 fl_1_88 rfl rfl (Or.inl (by rfl)) (by assumption) (by omega) (fun q => nomatch q) ?_
  refine wp_aload_n d_91_11 (by rfl) ?_
  refine wp_getI (0) d_91_12 fl_1_88 rfl rfl (by assumption) (fun x_12 e_12 r_12 => ?_)
  (try rw [hi_setI, up2_same] at e_12)
  (try rw [hi_setI, up2_ne _ _ (by omega)] at e_12)
  refine wp_if_eq (tgt := 20) d_91_15 (by decide) (by omega) (fun c_15 => ?_) (fun c_15 => ?_)
  · exact absurd c_15 (by omega)
  refine wp_iconst d_91_18 ?_
  refine wp_iret d_91_19 rfl ?_
  exact ⟨rfl, rfl, rfl, rfl, by rw [hi_setI, up2_same]⟩
set_option maxRecDepth 100000 in
set_option maxHeartbeats 4000000 in
theorem m_find {m : Nat} {p0 p1 p2 : Int} {h : Hp} (hM : Mz h m) (i_p0 : inR p0) (i_p1 : inR p1) (i_p2 : inR p2) : wp 100 0 (entL [vR (some m), vI p0, vI p1, vI p2] (mL 100)) [] h (fun v h' => v = some (vI 0) ∧ RM m 1 h h') noX := by
  have hM0 := hM
  obtain ⟨z0, z1, z7, z12, z23⟩ := hM
  refine wp_aload_n d_100_0 (by rfl) ?_
  refine wp_aload_n d_100_1 (by rfl) ?_
  refine wp_iload_n d_100_2 (by rfl) ?_
  refine wp_iload_n d_100_3 (by rfl) ?_
  refine wp_iload_n d_100_4 (by rfl) ?_
  refine wp_callV d_100_5 c_100_184 rfl (by rfl) (by rfl) ⟨1, rfl, rfl, by decide⟩ (by assumption) (by exact Nat.le_of_ble_eq_true rfl) (by exact Nat.le_of_ble_eq_true rfl) (m_question (by first | exact hM0 | exact hM0.set | exact hM0.set.set) (by assumption) (by assumption) (by assumption)) (fun v_5 h_5 q_5 => ?_) (fun _ _ q => q.elim)
  obtain ⟨rfl, z_5⟩ := q_5
  replace z_5 := z_5.symm
  subst z_5
  refine wp_putI (0) d_100_8 fl_1_88 rfl rfl (Or.inl (by rfl)) (by assumption) (by omega) (fun q => nomatch q) ?_
  refine wp_aload_n d_100_11 (by rfl) ?_
  refine wp_getI (0) d_100_12 fl_1_88 rfl rfl (by assumption) (fun x_12 e_12 r_12 => ?_)
  (try rw [hi_setI, up2_same] at e_12)
  (try rw [hi_setI, up2_ne _ _ (by omega)] at e_12)
  refine wp_if_eq (tgt := 20) d_100_15 (by decide) (by omega) (fun c_15 => ?_) (fun c_15 => ?_)
  · exact absurd c_15 (by omega)
  refine wp_iconst d_100_18 ?_
  refine wp_iret d_100_19 rfl ?_
  exact ⟨rfl, rfl, rfl, rfl, by rw [hi_setI, up2_same]⟩
set_option maxRecDepth 100000 in
set_option maxHeartbeats 4000000 in
theorem m_legTrip {m : Nat} {p0 : Int} {h : Hp} (hM : Mz h m) (i_p0 : inR p0) : wp 105 0 (entL [vR (some m), vI p0] (mL 105)) [] h (fun v h' => v = some (vI 0) ∧ RM m 1 h h') noX := by
  have hM0 := hM
  obtain ⟨z0, z1, z7, z12, z23⟩ := hM
  refine wp_aload_n d_105_0 (by rfl) ?_
  refine wp_iload_n d_105_1 (by rfl) ?_
  refine wp_aload_n d_105_2 (by rfl) ?_
  refine wp_getR (27) d_105_3 fl_1_64 rfl rfl (by assumption) rfl ?_
  refine wp_callV d_105_6 c_105_250 rfl (by rfl) (by rfl) ⟨1, rfl, rfl, by decide⟩ (by assumption) (by exact Nat.le_of_ble_eq_true rfl) (by exact Nat.le_of_ble_eq_true rfl) (m_ofLeg hM0) (fun v_6 h_6 q_6 => ?_) (fun _ _ q => q.elim)
  obtain ⟨rfl, q5⟩ := q_6
  refine wp_iret d_105_9 rfl ?_
  exact ⟨rfl, q5⟩
set_option maxRecDepth 100000 in
set_option maxHeartbeats 4000000 in
theorem m_legTo {m : Nat} {p0 : Int} {h : Hp} (hM : Mz h m) (i_p0 : inR p0) : wp 107 0 (entL [vR (some m), vI p0] (mL 107)) [] h (fun v h' => v = some (vI 0) ∧ RM m 1 h h') noX := by
  have hM0 := hM
  obtain ⟨z0, z1, z7, z12, z23⟩ := hM
  refine wp_aload_n d_107_0 (by rfl) ?_
  refine wp_iload_n d_107_1 (by rfl) ?_
  refine wp_aload_n d_107_2 (by rfl) ?_
  refine wp_getR (32) d_107_3 fl_1_79 rfl rfl (by assumption) rfl ?_
  refine wp_callV d_107_6 c_107_250 rfl (by rfl) (by rfl) ⟨1, rfl, rfl, by decide⟩ (by assumption) (by exact Nat.le_of_ble_eq_true rfl) (by exact Nat.le_of_ble_eq_true rfl) (m_ofLeg hM0) (fun v_6 h_6 q_6 => ?_) (fun _ _ q => q.elim)
  obtain ⟨rfl, q5⟩ := q_6
  refine wp_iret d_107_9 rfl ?_
  exact ⟨rfl, q5⟩
set_option maxRecDepth 100000 in
set_option maxHeartbeats 4000000 in
theorem m_legBegin {m : Nat} {p0 : Int} {h : Hp} (hM : Mz h m) (i_p0 : inR p0) : wp 108 0 (entL [vR (some m), vI p0] (mL 108)) [] h (fun v h' => v = some (vI 0) ∧ RM m 1 h h') noX := by
  have hM0 := hM
  obtain ⟨z0, z1, z7, z12, z23⟩ := hM
  refine wp_aload_n d_108_0 (by rfl) ?_
  refine wp_iload_n d_108_1 (by rfl) ?_
  refine wp_aload_n d_108_2 (by rfl) ?_
  refine wp_getR (33) d_108_3 fl_1_82 rfl rfl (by assumption) rfl ?_
  refine wp_callV d_108_6 c_108_250 rfl (by rfl) (by rfl) ⟨1, rfl, rfl, by decide⟩ (by assumption) (by exact Nat.le_of_ble_eq_true rfl) (by exact Nat.le_of_ble_eq_true rfl) (m_ofLeg hM0) (fun v_6 h_6 q_6 => ?_) (fun _ _ q => q.elim)
  obtain ⟨rfl, q5⟩ := q_6
  refine wp_iret d_108_9 rfl ?_
  exact ⟨rfl, q5⟩
set_option maxRecDepth 100000 in
set_option maxHeartbeats 4000000 in
theorem m_legEnd {m : Nat} {p0 : Int} {h : Hp} (hM : Mz h m) (i_p0 : inR p0) : wp 109 0 (entL [vR (some m), vI p0] (mL 109)) [] h (fun v h' => v = some (vI 0) ∧ RM m 1 h h') noX := by
  have hM0 := hM
  obtain ⟨z0, z1, z7, z12, z23⟩ := hM
  refine wp_aload_n d_109_0 (by rfl) ?_
  refine wp_iload_n d_109_1 (by rfl) ?_
  refine wp_aload_n d_109_2 (by rfl) ?_
  refine wp_getR (34) d_109_3 fl_1_85 rfl rfl (by assumption) rfl ?_
  refine wp_callV d_109_6 c_109_250 rfl (by rfl) (by rfl) ⟨1, rfl, rfl, by decide⟩ (by assumption) (by exact Nat.le_of_ble_eq_true rfl) (by exact Nat.le_of_ble_eq_true rfl) (m_ofLeg hM0) (fun v_6 h_6 q_6 => ?_) (fun _ _ q => q.elim)
  obtain ⟨rfl, q5⟩ := q_6
  refine wp_iret d_109_9 rfl ?_
  exact ⟨rfl, q5⟩
set_option maxRecDepth 100000 in
set_option maxHeartbeats 4000000 in
theorem m_slack {m : Nat}  {h : Hp} (hM : Mz h m)  : wp 110 0 (entL [vR (some m)] (mL 110)) [] h (fun v h' => v = some (vI 0) ∧ RM m 1 h h') noX := by
  have hM0 := hM
  obtain ⟨z0, z1, z7, z12, z23⟩ := hM
  refine wp_aload_n d_110_0 (by rfl) ?_
  refine wp_iconst d_110_1 ?_
  refine wp_putI (0) d_110_2 fl_1_88 rfl rfl (Or.inl (by rfl)) (by assumption) (by omega) (fun q => nomatch q) ?_
  refine wp_aload_n d_110_5 (by rfl) ?_
  refine wp_getI (23) d_110_6 fl_1_61 rfl rfl (by assumption) (fun x_6 e_6 r_6 => ?_)
  (try rw [hi_setI, up2_same] at e_6)
  (try rw [hi_setI, up2_ne _ _ (by omega)] at e_6)
  refine wp_iconst d_110_9 ?_
  refine wp_icmp_ne (tgt := 21) d_110_10 (by decide) (by omega) (by omega) (fun c_10 => ?_) (fun c_10 => ?_)
  · exact absurd c_10 (by omega)
  refine wp_aload_n d_110_13 (by rfl) ?_
  refine wp_iconst d_110_14 ?_
  refine wp_callV d_110_15 c_110_101 rfl (by rfl) (by rfl) ⟨1, rfl, rfl, by decide⟩ (by assumption) (by exact Nat.le_of_ble_eq_true rfl) (by exact Nat.le_of_ble_eq_true rfl) (m_no z0 (by decide)) (fun v_15 h_15 q_15 => ?_) (fun _ _ q => q.elim)
  obtain ⟨rfl, z_15⟩ := q_15
  replace z_15 := z_15.symm
  subst z_15
  refine wp_goto (tgt := 25) d_110_18 (by decide) ?_
  refine wp_iret d_110_25 rfl ?_
  exact ⟨rfl, rfl, rfl, rfl, by rw [hi_setI, up2_same]⟩
set_option maxRecDepth 100000 in
set_option maxHeartbeats 4000000 in
theorem m_price {m : Nat}  {h : Hp} (hM : Mz h m)  : wp 111 0 (entL [vR (some m)] (mL 111)) [] h (fun v h' => v = some (vI 0) ∧ RM m 1 h h') noX := by
  have hM0 := hM
  obtain ⟨z0, z1, z7, z12, z23⟩ := hM
  refine wp_aload_n d_111_0 (by rfl) ?_
  refine wp_iconst d_111_1 ?_
  refine wp_putI (0) d_111_2 fl_1_88 rfl rfl (Or.inl (by rfl)) (by assumption) (by omega) (fun q => nomatch q) ?_
  refine wp_aload_n d_111_5 (by rfl) ?_
  refine wp_getI (23) d_111_6 fl_1_61 rfl rfl (by assumption) (fun x_6 e_6 r_6 => ?_)
  (try rw [hi_setI, up2_same] at e_6)
  (try rw [hi_setI, up2_ne _ _ (by omega)] at e_6)
  refine wp_iconst d_111_9 ?_
  refine wp_icmp_ne (tgt := 21) d_111_10 (by decide) (by omega) (by omega) (fun c_10 => ?_) (fun c_10 => ?_)
  · exact absurd c_10 (by omega)
  refine wp_aload_n d_111_13 (by rfl) ?_
  refine wp_iconst d_111_14 ?_
  refine wp_callV d_111_15 c_111_101 rfl (by rfl) (by rfl) ⟨1, rfl, rfl, by decide⟩ (by assumption) (by exact Nat.le_of_ble_eq_true rfl) (by exact Nat.le_of_ble_eq_true rfl) (m_no z0 (by decide)) (fun v_15 h_15 q_15 => ?_) (fun _ _ q => q.elim)
  obtain ⟨rfl, z_15⟩ := q_15
  replace z_15 := z_15.symm
  subst z_15
  refine wp_goto (tgt := 25) d_111_18 (by decide) ?_
  refine wp_iret d_111_25 rfl ?_
  exact ⟨rfl, rfl, rfl, rfl, by rw [hi_setI, up2_same]⟩
set_option maxRecDepth 100000 in
set_option maxHeartbeats 4000000 in
theorem m_holds {m : Nat}  {h : Hp} (hM : Mz h m)  : wp 113 0 (entL [vR (some m)] (mL 113)) [] h (fun v h' => v = some (vI 0) ∧ RM m 1 h h') noX := by
  have hM0 := hM
  obtain ⟨z0, z1, z7, z12, z23⟩ := hM
  refine wp_aload_n d_113_0 (by rfl) ?_
  refine wp_iconst d_113_1 ?_
  refine wp_putI (0) d_113_2 fl_1_88 rfl rfl (Or.inl (by rfl)) (by assumption) (by omega) (fun q => nomatch q) ?_
  refine wp_aload_n d_113_5 (by rfl) ?_
  refine wp_getI (23) d_113_6 fl_1_61 rfl rfl (by assumption) (fun x_6 e_6 r_6 => ?_)
  (try rw [hi_setI, up2_same] at e_6)
  (try rw [hi_setI, up2_ne _ _ (by omega)] at e_6)
  refine wp_iconst d_113_9 ?_
  refine wp_icmp_ne (tgt := 21) d_113_10 (by decide) (by omega) (by omega) (fun c_10 => ?_) (fun c_10 => ?_)
  · exact absurd c_10 (by omega)
  refine wp_aload_n d_113_13 (by rfl) ?_
  refine wp_iconst d_113_14 ?_
  refine wp_callV d_113_15 c_113_115 rfl (by rfl) (by rfl) ⟨1, rfl, rfl, by decide⟩ (by assumption) (by exact Nat.le_of_ble_eq_true rfl) (by exact Nat.le_of_ble_eq_true rfl) (m_isNot z0 (by decide)) (fun v_15 h_15 q_15 => ?_) (fun _ _ q => q.elim)
  obtain ⟨rfl, z_15⟩ := q_15
  replace z_15 := z_15.symm
  subst z_15
  refine wp_goto (tgt := 25) d_113_18 (by decide) ?_
  refine wp_zret d_113_25 rfl (by omega) ?_
  exact ⟨rfl, rfl, rfl, rfl, by rw [hi_setI, up2_same]⟩
set_option maxRecDepth 100000 in
set_option maxHeartbeats 4000000 in
theorem m_earliestIf {m : Nat} {p0 p1 p2 : Int} {h : Hp} (hM : Mz h m) (i_p0 : inR p0) (i_p1 : inR p1) (i_p2 : inR p2) : wp 115 0 (entL [vR (some m), vI p0, vI p1, vI p2] (mL 115)) [] h (fun v h' => v = some (vI 0) ∧ RM m 1 h h') noX := by
  have hM0 := hM
  obtain ⟨z0, z1, z7, z12, z23⟩ := hM
  refine wp_aload_n d_115_0 (by rfl) ?_
  refine wp_iconst d_115_1 ?_
  refine wp_putI (0) d_115_2 fl_1_88 rfl rfl (Or.inl (by rfl)) (by assumption) (by omega) (fun q => nomatch q) ?_
  refine wp_aload_n d_115_5 (by rfl) ?_
  refine wp_getI (23) d_115_6 fl_1_61 rfl rfl (by assumption) (fun x_6 e_6 r_6 => ?_)
  (try rw [hi_setI, up2_same] at e_6)
  (try rw [hi_setI, up2_ne _ _ (by omega)] at e_6)
  refine wp_iconst d_115_9 ?_
  refine wp_icmp_ne (tgt := 19) d_115_10 (by decide) (by omega) (by omega) (fun c_10 => ?_) (fun c_10 => ?_)
  · exact absurd c_10 (by omega)
  refine wp_aload_n d_115_13 (by rfl) ?_
  refine wp_iconst d_115_14 ?_
  refine wp_callV d_115_15 c_115_101 rfl (by rfl) (by rfl) ⟨1, rfl, rfl, by decide⟩ (by assumption) (by exact Nat.le_of_ble_eq_true rfl) (by exact Nat.le_of_ble_eq_true rfl) (m_no z0 (by decide)) (fun v_15 h_15 q_15 => ?_) (fun _ _ q => q.elim)
  obtain ⟨rfl, z_15⟩ := q_15
  replace z_15 := z_15.symm
  subst z_15
  refine wp_iret d_115_18 rfl ?_
  exact ⟨rfl, rfl, rfl, rfl, by rw [hi_setI, up2_same]⟩
set_option maxRecDepth 100000 in
set_option maxHeartbeats 4000000 in
theorem m_stops {m : Nat} {h : Hp} (hM : Mz h m) : wp 65 0 (entL [vR (some m)] (mL 65)) [] h (fun v h' => v = some (vI (0)) ∧ RM m 0 h h') noX := by
  have hM0 := hM
  obtain ⟨z0, z1, z7, z12, z23⟩ := hM
  refine wp_aload_n d_65_0 (by rfl) ?_
  refine wp_aload_n d_65_1 (by rfl) ?_
  refine wp_getI (1) d_65_2 fl_1_91 rfl rfl (by assumption) (fun x_2 e_2 r_2 => ?_)
  refine wp_callV d_65_5 c_65_125 rfl (by rfl) (by rfl) ⟨1, rfl, rfl, by decide⟩ (by assumption) (by exact Nat.le_of_ble_eq_true rfl) (by exact Nat.le_of_ble_eq_true rfl) (m_ok z0 (by assumption)) (fun v_5 h_5 q_5 => ?_) (fun _ _ q => q.elim)
  obtain ⟨rfl, z_5⟩ := q_5
  replace z_5 := z_5.symm
  subst z_5
  refine wp_iret d_65_8 rfl ?_
  exact ⟨congrArg (fun q => some (vI q)) (by omega), rfl, rfl, rfl, by rw [hi_setI, up2_same]⟩
set_option maxRecDepth 100000 in
set_option maxHeartbeats 4000000 in
theorem m_trips {m : Nat} {h : Hp} (hM : Mz h m) : wp 67 0 (entL [vR (some m)] (mL 67)) [] h (fun v h' => v = some (vI (0)) ∧ RM m 0 h h') noX := by
  have hM0 := hM
  obtain ⟨z0, z1, z7, z12, z23⟩ := hM
  refine wp_aload_n d_67_0 (by rfl) ?_
  refine wp_aload_n d_67_1 (by rfl) ?_
  refine wp_getI (12) d_67_2 fl_1_98 rfl rfl (by assumption) (fun x_2 e_2 r_2 => ?_)
  refine wp_callV d_67_5 c_67_125 rfl (by rfl) (by rfl) ⟨1, rfl, rfl, by decide⟩ (by assumption) (by exact Nat.le_of_ble_eq_true rfl) (by exact Nat.le_of_ble_eq_true rfl) (m_ok z0 (by assumption)) (fun v_5 h_5 q_5 => ?_) (fun _ _ q => q.elim)
  obtain ⟨rfl, z_5⟩ := q_5
  replace z_5 := z_5.symm
  subst z_5
  refine wp_iret d_67_8 rfl ?_
  exact ⟨congrArg (fun q => some (vI q)) (by omega), rfl, rfl, rfl, by rw [hi_setI, up2_same]⟩
set_option maxRecDepth 100000 in
set_option maxHeartbeats 4000000 in
theorem m_legs {m : Nat} {h : Hp} (hM : Mz h m) : wp 104 0 (entL [vR (some m)] (mL 104)) [] h (fun v h' => v = some (vI (-1)) ∧ RM m 0 h h') noX := by
  have hM0 := hM
  obtain ⟨z0, z1, z7, z12, z23⟩ := hM
  refine wp_aload_n d_104_0 (by rfl) ?_
  refine wp_aload_n d_104_1 (by rfl) ?_
  refine wp_getI (23) d_104_2 fl_1_61 rfl rfl (by assumption) (fun x_2 e_2 r_2 => ?_)
  refine wp_callV d_104_5 c_104_125 rfl (by rfl) (by rfl) ⟨1, rfl, rfl, by decide⟩ (by assumption) (by exact Nat.le_of_ble_eq_true rfl) (by exact Nat.le_of_ble_eq_true rfl) (m_ok z0 (by assumption)) (fun v_5 h_5 q_5 => ?_) (fun _ _ q => q.elim)
  obtain ⟨rfl, z_5⟩ := q_5
  replace z_5 := z_5.symm
  subst z_5
  refine wp_iret d_104_8 rfl ?_
  exact ⟨congrArg (fun q => some (vI q)) (by omega), rfl, rfl, rfl, by rw [hi_setI, up2_same]⟩
set_option maxRecDepth 100000 in
set_option maxHeartbeats 4000000 in
theorem m_addStop1 {m : Nat} {c : Int} {h : Hp} (hF : MF h m) (hc : 0 ≤ c ∧ c ≤ 30) : wp 51 0 (entL [vR (some m), vI c] (mL 51)) [] h (fun v h' => v = some (vI 0) ∧ RM m 0 h h') noX := by
  have hM0 := hF.z
  obtain ⟨z0, ⟨z1, z7, z12, z23⟩, ⟨b1, b2, b3⟩, ⟨c1, c2, c3⟩, ⟨d1, d2, d3⟩, ⟨f1, f2, f3⟩⟩ := hF
  refine wp_aload_n d_51_0 (by rfl) ?_
  refine wp_iconst d_51_1 ?_
  refine wp_putI (0) d_51_2 fl_1_88 rfl rfl (Or.inl (by rfl)) (by assumption) (by first | omega | (simp only [ln_setI]; omega)) (fun q => nomatch q) ?_
  refine wp_iload_n d_51_5 (by rfl) ?_
  refine wp_iconst d_51_6 ?_
  refine wp_bipush d_51_7 (by decide) ?_
  refine wp_callS d_51_9 c_51_94 rfl (by rfl) (by rfl) (by exact Nat.le_of_ble_eq_true rfl) (by exact Nat.le_of_ble_eq_true rfl) (m_isIn (z := 1) (by omega) (by omega) (by omega) (Or.inl ⟨by omega, by omega, rfl⟩)) (fun v_9 h_9 q_9 => ?_) (fun _ _ q => q.elim)
  obtain ⟨rfl, z_9⟩ := q_9
  replace z_9 := z_9.symm
  subst z_9
  refine wp_if_ne (tgt := 21) d_51_12 (by decide) (by first | omega | (simp only [ln_setI]; omega)) (fun c_12 => ?_) (fun c_12 => ?_)
  rotate_left
  · exact absurd c_12 (by omega)
  refine wp_aload_n d_51_21 (by rfl) ?_
  refine wp_getI (1) d_51_22 fl_1_91 rfl rfl (by assumption) (fun x_22 e_22 r_22 => ?_)
  (try rw [hi_setI, up2_ne _ _ (by omega)] at e_22)
  (try rw [hi_setI, up2_ne _ _ (by omega)] at e_22)
  (try rw [hi_setI, up2_ne _ _ (by omega)] at e_22)
  (try rw [hi_setI, up2_ne _ _ (by omega)] at e_22)
  refine wp_bipush d_51_25 (by decide) ?_
  refine wp_icmp_ne (tgt := 36) d_51_27 (by decide) (by first | omega | (simp only [ln_setI]; omega)) (by first | omega | (simp only [ln_setI]; omega)) (fun c_27 => ?_) (fun c_27 => ?_)
  rotate_left
  · exact absurd c_27 (by omega)
  refine wp_aload_n d_51_36 (by rfl) ?_
  refine wp_getR (2) d_51_37 fl_1_9 rfl rfl (by assumption) (by assumption) ?_
  refine wp_aload_n d_51_40 (by rfl) ?_
  refine wp_getI (1) d_51_41 fl_1_91 rfl rfl (by assumption) (fun x_41 e_41 r_41 => ?_)
  (try rw [hi_setI, up2_ne _ _ (by omega)] at e_41)
  (try rw [hi_setI, up2_ne _ _ (by omega)] at e_41)
  (try rw [hi_setI, up2_ne _ _ (by omega)] at e_41)
  (try rw [hi_setI, up2_ne _ _ (by omega)] at e_41)
  refine wp_iload_n d_51_44 (by rfl) ?_
  refine wp_iast d_51_45 (by assumption) (by first | omega | (simp only [ln_setI]; omega)) (by first | omega | (simp only [ln_setI]; omega)) (by first | omega | (simp only [ln_setI]; omega)) ?_
  refine wp_aload_n d_51_46 (by rfl) ?_
  refine wp_dup d_51_47 (by rfl) ?_
  refine wp_getI (1) d_51_48 fl_1_91 rfl rfl (by assumption) (fun x_48 e_48 r_48 => ?_)
  (try rw [hi_setI, up2_ne _ _ (by omega)] at e_48)
  (try rw [hi_setI, up2_ne _ _ (by omega)] at e_48)
  (try rw [hi_setI, up2_ne _ _ (by omega)] at e_48)
  (try rw [hi_setI, up2_ne _ _ (by omega)] at e_48)
  refine wp_dup_x1 d_51_51 (by rfl) (by rfl) ?_
  refine wp_iconst d_51_52 ?_
  refine wp_iadd d_51_53 ?_
  refine wp_putI (1) d_51_54 fl_1_91 rfl rfl (Or.inl (by rfl)) (by assumption) (by first | omega | (simp only [ln_setI]; omega)) (fun q => nomatch q) ?_
  refine wp_iret d_51_57 rfl ?_
  exact ⟨congrArg (fun q => some (vI q)) (by omega), rfl, rfl, rfl, by simp [hi_setI, up2]⟩
set_option maxRecDepth 100000 in
set_option maxHeartbeats 4000000 in
theorem m_addStop0 {m : Nat} {c : Int} {h : Hp} (hM : Mz h m) (i_c : inR c) (hc : ¬ (0 ≤ c ∧ c ≤ 30)) : wp 51 0 (entL [vR (some m), vI c] (mL 51)) [] h (fun v h' => v = some (vI 0) ∧ RM m 1 h h') noX := by
  have hM0 := hM
  obtain ⟨z0, z1, z7, z12, z23⟩ := hM
  refine wp_aload_n d_51_0 (by rfl) ?_
  refine wp_iconst d_51_1 ?_
  refine wp_putI (0) d_51_2 fl_1_88 rfl rfl (Or.inl (by rfl)) (by assumption) (by omega) (fun q => nomatch q) ?_
  refine wp_iload_n d_51_5 (by rfl) ?_
  refine wp_iconst d_51_6 ?_
  refine wp_bipush d_51_7 (by decide) ?_
  refine wp_callS d_51_9 c_51_94 rfl (by rfl) (by rfl) (by exact Nat.le_of_ble_eq_true rfl) (by exact Nat.le_of_ble_eq_true rfl) (m_isIn (z := 0) (by omega) (by omega) (by omega) (Or.inr ⟨by omega, rfl⟩)) (fun v_9 h_9 q_9 => ?_) (fun _ _ q => q.elim)
  obtain ⟨rfl, z_9⟩ := q_9
  replace z_9 := z_9.symm
  subst z_9
  refine wp_if_ne (tgt := 21) d_51_12 (by decide) (by omega) (fun c_12 => ?_) (fun c_12 => ?_)
  · exact absurd c_12 (by omega)
  refine wp_aload_n d_51_15 (by rfl) ?_
  refine wp_iconst d_51_16 ?_
  refine wp_callV d_51_17 c_51_101 rfl (by rfl) (by rfl) ⟨1, rfl, rfl, by decide⟩ (by assumption) (by exact Nat.le_of_ble_eq_true rfl) (by exact Nat.le_of_ble_eq_true rfl) (m_no z0 (by decide)) (fun v_17 h_17 q_17 => ?_) (fun _ _ q => q.elim)
  obtain ⟨rfl, z_17⟩ := q_17
  replace z_17 := z_17.symm
  subst z_17
  refine wp_iret d_51_20 rfl ?_
  exact ⟨rfl, rfl, rfl, rfl, by rw [hi_setI, up2_same]⟩
set_option maxRecDepth 100000 in
set_option maxHeartbeats 4000000 in
theorem m_addCal1 {m : Nat} {a b c : Int} {h : Hp} (hF : MF h m) (ha : 0 ≤ a ∧ a ≤ 127) (hb : 0 ≤ b ∧ b ≤ 365) (hc : 0 ≤ c ∧ c ≤ 365) (hd : b ≤ c) : wp 57 0 (entL [vR (some m), vI a, vI b, vI c] (mL 57)) [] h (fun v h' => v = some (vI 0) ∧ RM m 0 h h') noX := by
  have hM0 := hF.z
  obtain ⟨z0, ⟨z1, z7, z12, z23⟩, ⟨b1, b2, b3⟩, ⟨c1, c2, c3⟩, ⟨d1, d2, d3⟩, ⟨f1, f2, f3⟩⟩ := hF
  refine wp_aload_n d_57_0 (by rfl) ?_
  refine wp_iconst d_57_1 ?_
  refine wp_putI (0) d_57_2 fl_1_88 rfl rfl (Or.inl (by rfl)) (by assumption) (by first | omega | (simp only [ln_setI]; omega)) (fun q => nomatch q) ?_
  refine wp_iload_n d_57_5 (by rfl) ?_
  refine wp_iconst d_57_6 ?_
  refine wp_bipush d_57_7 (by decide) ?_
  refine wp_callS d_57_9 c_57_94 rfl (by rfl) (by rfl) (by exact Nat.le_of_ble_eq_true rfl) (by exact Nat.le_of_ble_eq_true rfl) (m_isIn (z := 1) (by omega) (by omega) (by omega) (Or.inl ⟨by omega, by omega, rfl⟩)) (fun v_9 h_9 q_9 => ?_) (fun _ _ q => q.elim)
  obtain ⟨rfl, z_9⟩ := q_9
  replace z_9 := z_9.symm
  subst z_9
  refine wp_if_eq (tgt := 37) d_57_12 (by decide) (by first | omega | (simp only [ln_setI]; omega)) (fun c_12 => ?_) (fun c_12 => ?_)
  · exact absurd c_12 (by omega)
  refine wp_iload_n d_57_15 (by rfl) ?_
  refine wp_iconst d_57_16 ?_
  refine wp_sipush d_57_17 (by decide) ?_
  refine wp_callS d_57_20 c_57_94 rfl (by rfl) (by rfl) (by exact Nat.le_of_ble_eq_true rfl) (by exact Nat.le_of_ble_eq_true rfl) (m_isIn (z := 1) (by omega) (by omega) (by omega) (Or.inl ⟨by omega, by omega, rfl⟩)) (fun v_20 h_20 q_20 => ?_) (fun _ _ q => q.elim)
  obtain ⟨rfl, z_20⟩ := q_20
  replace z_20 := z_20.symm
  subst z_20
  refine wp_if_eq (tgt := 37) d_57_23 (by decide) (by first | omega | (simp only [ln_setI]; omega)) (fun c_23 => ?_) (fun c_23 => ?_)
  · exact absurd c_23 (by omega)
  refine wp_iload_n d_57_26 (by rfl) ?_
  refine wp_iload_n d_57_27 (by rfl) ?_
  refine wp_sipush d_57_28 (by decide) ?_
  refine wp_callS d_57_31 c_57_94 rfl (by rfl) (by rfl) (by exact Nat.le_of_ble_eq_true rfl) (by exact Nat.le_of_ble_eq_true rfl) (m_isIn (z := 1) (by omega) (by omega) (by omega) (Or.inl ⟨by omega, by omega, rfl⟩)) (fun v_31 h_31 q_31 => ?_) (fun _ _ q => q.elim)
  obtain ⟨rfl, z_31⟩ := q_31
  replace z_31 := z_31.symm
  subst z_31
  refine wp_if_ne (tgt := 43) d_57_34 (by decide) (by first | omega | (simp only [ln_setI]; omega)) (fun c_34 => ?_) (fun c_34 => ?_)
  rotate_left
  · exact absurd c_34 (by omega)
  refine wp_aload_n d_57_43 (by rfl) ?_
  refine wp_getI (7) d_57_44 fl_1_112 rfl rfl (by assumption) (fun x_44 e_44 r_44 => ?_)
  (try rw [hi_setI, up2_ne _ _ (by omega)] at e_44)
  (try rw [hi_setI, up2_ne _ _ (by omega)] at e_44)
  (try rw [hi_setI, up2_ne _ _ (by omega)] at e_44)
  (try rw [hi_setI, up2_ne _ _ (by omega)] at e_44)
  refine wp_bipush d_57_47 (by decide) ?_
  refine wp_icmp_ne (tgt := 58) d_57_49 (by decide) (by first | omega | (simp only [ln_setI]; omega)) (by first | omega | (simp only [ln_setI]; omega)) (fun c_49 => ?_) (fun c_49 => ?_)
  rotate_left
  · exact absurd c_49 (by omega)
  refine wp_aload_n d_57_58 (by rfl) ?_
  refine wp_getR (8) d_57_59 fl_1_22 rfl rfl (by assumption) (by assumption) ?_
  refine wp_aload_n d_57_62 (by rfl) ?_
  refine wp_getI (7) d_57_63 fl_1_112 rfl rfl (by assumption) (fun x_63 e_63 r_63 => ?_)
  (try rw [hi_setI, up2_ne _ _ (by omega)] at e_63)
  (try rw [hi_setI, up2_ne _ _ (by omega)] at e_63)
  (try rw [hi_setI, up2_ne _ _ (by omega)] at e_63)
  (try rw [hi_setI, up2_ne _ _ (by omega)] at e_63)
  refine wp_iload_n d_57_66 (by rfl) ?_
  refine wp_iast d_57_67 (by assumption) (by first | omega | (simp only [ln_setI]; omega)) (by first | omega | (simp only [ln_setI]; omega)) (by first | omega | (simp only [ln_setI]; omega)) ?_
  refine wp_aload_n d_57_68 (by rfl) ?_
  refine wp_getR (9) d_57_69 fl_1_25 rfl rfl (by assumption) (by assumption) ?_
  refine wp_aload_n d_57_72 (by rfl) ?_
  refine wp_getI (7) d_57_73 fl_1_112 rfl rfl (by assumption) (fun x_73 e_73 r_73 => ?_)
  (try rw [hi_setI, up2_ne _ _ (by omega)] at e_73)
  (try rw [hi_setI, up2_ne _ _ (by omega)] at e_73)
  (try rw [hi_setI, up2_ne _ _ (by omega)] at e_73)
  (try rw [hi_setI, up2_ne _ _ (by omega)] at e_73)
  refine wp_iload_n d_57_76 (by rfl) ?_
  refine wp_iast d_57_77 (by assumption) (by first | omega | (simp only [ln_setI]; omega)) (by first | omega | (simp only [ln_setI]; omega)) (by first | omega | (simp only [ln_setI]; omega)) ?_
  refine wp_aload_n d_57_78 (by rfl) ?_
  refine wp_getR (10) d_57_79 fl_1_28 rfl rfl (by assumption) (by assumption) ?_
  refine wp_aload_n d_57_82 (by rfl) ?_
  refine wp_getI (7) d_57_83 fl_1_112 rfl rfl (by assumption) (fun x_83 e_83 r_83 => ?_)
  (try rw [hi_setI, up2_ne _ _ (by omega)] at e_83)
  (try rw [hi_setI, up2_ne _ _ (by omega)] at e_83)
  (try rw [hi_setI, up2_ne _ _ (by omega)] at e_83)
  (try rw [hi_setI, up2_ne _ _ (by omega)] at e_83)
  refine wp_iload_n d_57_86 (by rfl) ?_
  refine wp_iast d_57_87 (by assumption) (by first | omega | (simp only [ln_setI]; omega)) (by first | omega | (simp only [ln_setI]; omega)) (by first | omega | (simp only [ln_setI]; omega)) ?_
  refine wp_aload_n d_57_88 (by rfl) ?_
  refine wp_dup d_57_89 (by rfl) ?_
  refine wp_getI (7) d_57_90 fl_1_112 rfl rfl (by assumption) (fun x_90 e_90 r_90 => ?_)
  (try rw [hi_setI, up2_ne _ _ (by omega)] at e_90)
  (try rw [hi_setI, up2_ne _ _ (by omega)] at e_90)
  (try rw [hi_setI, up2_ne _ _ (by omega)] at e_90)
  (try rw [hi_setI, up2_ne _ _ (by omega)] at e_90)
  refine wp_dup_x1 d_57_93 (by rfl) (by rfl) ?_
  refine wp_iconst d_57_94 ?_
  refine wp_iadd d_57_95 ?_
  refine wp_putI (7) d_57_96 fl_1_112 rfl rfl (Or.inl (by rfl)) (by assumption) (by first | omega | (simp only [ln_setI]; omega)) (fun q => nomatch q) ?_
  refine wp_iret d_57_99 rfl ?_
  exact ⟨congrArg (fun q => some (vI q)) (by omega), rfl, rfl, rfl, by simp [hi_setI, up2]⟩
set_option maxRecDepth 100000 in
set_option maxHeartbeats 4000000 in
theorem m_addCal0a {m : Nat} {a b c : Int} {h : Hp} (hM : Mz h m) (i_a : inR a) (i_b : inR b) (i_c : inR c) (hx : ¬ (0 ≤ a ∧ a ≤ 127)) : wp 57 0 (entL [vR (some m), vI a, vI b, vI c] (mL 57)) [] h (fun v h' => v = some (vI 0) ∧ RM m 1 h h') noX := by
  have hM0 := hM
  obtain ⟨z0, z1, z7, z12, z23⟩ := hM
  refine wp_aload_n d_57_0 (by rfl) ?_
  refine wp_iconst d_57_1 ?_
  refine wp_putI (0) d_57_2 fl_1_88 rfl rfl (Or.inl (by rfl)) (by assumption) (by omega) (fun q => nomatch q) ?_
  refine wp_iload_n d_57_5 (by rfl) ?_
  refine wp_iconst d_57_6 ?_
  refine wp_bipush d_57_7 (by decide) ?_
  refine wp_callS d_57_9 c_57_94 rfl (by rfl) (by rfl) (by exact Nat.le_of_ble_eq_true rfl) (by exact Nat.le_of_ble_eq_true rfl) (m_isIn (z := 0) (by omega) (by omega) (by omega) (Or.inr ⟨by omega, rfl⟩)) (fun v_9 h_9 q_9 => ?_) (fun _ _ q => q.elim)
  obtain ⟨rfl, z_9⟩ := q_9
  replace z_9 := z_9.symm
  subst z_9
  refine wp_if_eq (tgt := 37) d_57_12 (by decide) (by omega) (fun c_12 => ?_) (fun c_12 => ?_)
  rotate_left
  · exact absurd c_12 (by omega)
  refine wp_aload_n d_57_37 (by rfl) ?_
  refine wp_iconst d_57_38 ?_
  refine wp_callV d_57_39 c_57_101 rfl (by rfl) (by rfl) ⟨1, rfl, rfl, by decide⟩ (by assumption) (by exact Nat.le_of_ble_eq_true rfl) (by exact Nat.le_of_ble_eq_true rfl) (m_no z0 (by decide)) (fun v_39 h_39 q_39 => ?_) (fun _ _ q => q.elim)
  obtain ⟨rfl, z_39⟩ := q_39
  replace z_39 := z_39.symm
  subst z_39
  refine wp_iret d_57_42 rfl ?_
  exact ⟨rfl, rfl, rfl, rfl, by rw [hi_setI, up2_same]⟩
set_option maxRecDepth 100000 in
set_option maxHeartbeats 4000000 in
theorem m_addCal0b {m : Nat} {a b c : Int} {h : Hp} (hM : Mz h m) (i_a : inR a) (i_b : inR b) (i_c : inR c) (ha : 0 ≤ a ∧ a ≤ 127) (hx : ¬ (0 ≤ b ∧ b ≤ 365)) : wp 57 0 (entL [vR (some m), vI a, vI b, vI c] (mL 57)) [] h (fun v h' => v = some (vI 0) ∧ RM m 1 h h') noX := by
  have hM0 := hM
  obtain ⟨z0, z1, z7, z12, z23⟩ := hM
  refine wp_aload_n d_57_0 (by rfl) ?_
  refine wp_iconst d_57_1 ?_
  refine wp_putI (0) d_57_2 fl_1_88 rfl rfl (Or.inl (by rfl)) (by assumption) (by omega) (fun q => nomatch q) ?_
  refine wp_iload_n d_57_5 (by rfl) ?_
  refine wp_iconst d_57_6 ?_
  refine wp_bipush d_57_7 (by decide) ?_
  refine wp_callS d_57_9 c_57_94 rfl (by rfl) (by rfl) (by exact Nat.le_of_ble_eq_true rfl) (by exact Nat.le_of_ble_eq_true rfl) (m_isIn (z := 1) (by omega) (by omega) (by omega) (Or.inl ⟨by omega, by omega, rfl⟩)) (fun v_9 h_9 q_9 => ?_) (fun _ _ q => q.elim)
  obtain ⟨rfl, z_9⟩ := q_9
  replace z_9 := z_9.symm
  subst z_9
  refine wp_if_eq (tgt := 37) d_57_12 (by decide) (by omega) (fun c_12 => ?_) (fun c_12 => ?_)
  · exact absurd c_12 (by omega)
  refine wp_iload_n d_57_15 (by rfl) ?_
  refine wp_iconst d_57_16 ?_
  refine wp_sipush d_57_17 (by decide) ?_
  refine wp_callS d_57_20 c_57_94 rfl (by rfl) (by rfl) (by exact Nat.le_of_ble_eq_true rfl) (by exact Nat.le_of_ble_eq_true rfl) (m_isIn (z := 0) (by omega) (by omega) (by omega) (Or.inr ⟨by omega, rfl⟩)) (fun v_20 h_20 q_20 => ?_) (fun _ _ q => q.elim)
  obtain ⟨rfl, z_20⟩ := q_20
  replace z_20 := z_20.symm
  subst z_20
  refine wp_if_eq (tgt := 37) d_57_23 (by decide) (by omega) (fun c_23 => ?_) (fun c_23 => ?_)
  rotate_left
  · exact absurd c_23 (by omega)
  refine wp_aload_n d_57_37 (by rfl) ?_
  refine wp_iconst d_57_38 ?_
  refine wp_callV d_57_39 c_57_101 rfl (by rfl) (by rfl) ⟨1, rfl, rfl, by decide⟩ (by assumption) (by exact Nat.le_of_ble_eq_true rfl) (by exact Nat.le_of_ble_eq_true rfl) (m_no z0 (by decide)) (fun v_39 h_39 q_39 => ?_) (fun _ _ q => q.elim)
  obtain ⟨rfl, z_39⟩ := q_39
  replace z_39 := z_39.symm
  subst z_39
  refine wp_iret d_57_42 rfl ?_
  exact ⟨rfl, rfl, rfl, rfl, by rw [hi_setI, up2_same]⟩
set_option maxRecDepth 100000 in
set_option maxHeartbeats 4000000 in
theorem m_addCal0c {m : Nat} {a b c : Int} {h : Hp} (hM : Mz h m) (i_a : inR a) (i_b : inR b) (i_c : inR c) (ha : 0 ≤ a ∧ a ≤ 127) (hb : 0 ≤ b ∧ b ≤ 365) (hx : ¬ (b ≤ c ∧ c ≤ 365)) : wp 57 0 (entL [vR (some m), vI a, vI b, vI c] (mL 57)) [] h (fun v h' => v = some (vI 0) ∧ RM m 1 h h') noX := by
  have hM0 := hM
  obtain ⟨z0, z1, z7, z12, z23⟩ := hM
  refine wp_aload_n d_57_0 (by rfl) ?_
  refine wp_iconst d_57_1 ?_
  refine wp_putI (0) d_57_2 fl_1_88 rfl rfl (Or.inl (by rfl)) (by assumption) (by omega) (fun q => nomatch q) ?_
  refine wp_iload_n d_57_5 (by rfl) ?_
  refine wp_iconst d_57_6 ?_
  refine wp_bipush d_57_7 (by decide) ?_
  refine wp_callS d_57_9 c_57_94 rfl (by rfl) (by rfl) (by exact Nat.le_of_ble_eq_true rfl) (by exact Nat.le_of_ble_eq_true rfl) (m_isIn (z := 1) (by omega) (by omega) (by omega) (Or.inl ⟨by omega, by omega, rfl⟩)) (fun v_9 h_9 q_9 => ?_) (fun _ _ q => q.elim)
  obtain ⟨rfl, z_9⟩ := q_9
  replace z_9 := z_9.symm
  subst z_9
  refine wp_if_eq (tgt := 37) d_57_12 (by decide) (by omega) (fun c_12 => ?_) (fun c_12 => ?_)
  · exact absurd c_12 (by omega)
  refine wp_iload_n d_57_15 (by rfl) ?_
  refine wp_iconst d_57_16 ?_
  refine wp_sipush d_57_17 (by decide) ?_
  refine wp_callS d_57_20 c_57_94 rfl (by rfl) (by rfl) (by exact Nat.le_of_ble_eq_true rfl) (by exact Nat.le_of_ble_eq_true rfl) (m_isIn (z := 1) (by omega) (by omega) (by omega) (Or.inl ⟨by omega, by omega, rfl⟩)) (fun v_20 h_20 q_20 => ?_) (fun _ _ q => q.elim)
  obtain ⟨rfl, z_20⟩ := q_20
  replace z_20 := z_20.symm
  subst z_20
  refine wp_if_eq (tgt := 37) d_57_23 (by decide) (by omega) (fun c_23 => ?_) (fun c_23 => ?_)
  · exact absurd c_23 (by omega)
  refine wp_iload_n d_57_26 (by rfl) ?_
  refine wp_iload_n d_57_27 (by rfl) ?_
  refine wp_sipush d_57_28 (by decide) ?_
  refine wp_callS d_57_31 c_57_94 rfl (by rfl) (by rfl) (by exact Nat.le_of_ble_eq_true rfl) (by exact Nat.le_of_ble_eq_true rfl) (m_isIn (z := 0) (by omega) (by omega) (by omega) (Or.inr ⟨by omega, rfl⟩)) (fun v_31 h_31 q_31 => ?_) (fun _ _ q => q.elim)
  obtain ⟨rfl, z_31⟩ := q_31
  replace z_31 := z_31.symm
  subst z_31
  refine wp_if_ne (tgt := 43) d_57_34 (by decide) (by omega) (fun c_34 => ?_) (fun c_34 => ?_)
  · exact absurd c_34 (by omega)
  refine wp_aload_n d_57_37 (by rfl) ?_
  refine wp_iconst d_57_38 ?_
  refine wp_callV d_57_39 c_57_101 rfl (by rfl) (by rfl) ⟨1, rfl, rfl, by decide⟩ (by assumption) (by exact Nat.le_of_ble_eq_true rfl) (by exact Nat.le_of_ble_eq_true rfl) (m_no z0 (by decide)) (fun v_39 h_39 q_39 => ?_) (fun _ _ q => q.elim)
  obtain ⟨rfl, z_39⟩ := q_39
  replace z_39 := z_39.symm
  subst z_39
  refine wp_iret d_57_42 rfl ?_
  exact ⟨rfl, rfl, rfl, rfl, by rw [hi_setI, up2_same]⟩
set_option maxRecDepth 100000 in
set_option maxHeartbeats 4000000 in
theorem m_moving {m : Nat} {h : Hp} (hM : Mz h m) : wp 116 0 (entL [vR (some m)] (mL 116)) [] h (fun v h' => v = some (vD FP.dconst0) ∧ RM m 0 h h') noX := by
  have hM0 := hM
  obtain ⟨z0, z1, z7, z12, z23⟩ := hM
  refine wp_aload_n d_116_0 (by rfl) ?_
  refine wp_iconst d_116_1 ?_
  refine wp_putI (0) d_116_2 fl_1_88 rfl rfl (Or.inl (by rfl)) (by assumption) (by omega) (fun q => nomatch q) ?_
  refine wp_aload_n d_116_5 (by rfl) ?_
  refine wp_getI (23) d_116_6 fl_1_61 rfl rfl (by assumption) (fun x_6 e_6 r_6 => ?_)
  (try rw [hi_setI, up2_ne _ _ (by omega)] at e_6)
  refine wp_iconst d_116_9 ?_
  refine wp_icmp_lt (tgt := 31) d_116_10 (by decide) (by omega) (by omega) (fun c_10 => ?_) (fun c_10 => ?_)
  rotate_left
  · exact absurd c_10 (by omega)
  refine wp_dconst0 d_116_31 ?_
  refine wp_dret d_116_32 rfl ?_
  exact ⟨rfl, rfl, rfl, rfl, by rw [hi_setI, up2_same]⟩
set_option maxRecDepth 100000 in
set_option maxHeartbeats 4000000 in
theorem m_digest {m : Nat} {h : Hp} (hM : Mz h m) : wp 117 0 (entL [vR (some m)] (mL 117)) [] h (fun v h' => v = some (vL 74566872) ∧ RM m 0 h h') noX := by
  have hM0 := hM
  obtain ⟨z0, z1, z7, z12, z23⟩ := hM
  refine wp_aload_n d_117_0 (by rfl) ?_
  refine wp_iconst d_117_1 ?_
  refine wp_putI (0) d_117_2 fl_1_88 rfl rfl (Or.inl (by rfl)) (by assumption) (by omega) (fun q => nomatch q) ?_
  refine wp_ldc2 (77593) d_117_5 ck_1_261 (by decide) ?_
  refine wp_aload_n d_117_8 (by rfl) ?_
  refine wp_getI (1) d_117_9 fl_1_91 rfl rfl (by assumption) (fun x_9 e_9 r_9 => ?_)
  (try rw [hi_setI, up2_ne _ _ (by omega)] at e_9)
  refine wp_i2l d_117_12 (by omega) ?_
  refine wp_ladd d_117_13 ?_
  refine wp_ldc2 (31) d_117_14 ck_1_263 (by decide) ?_
  refine wp_lmul d_117_17 ?_
  refine wp_aload_n d_117_18 (by rfl) ?_
  refine wp_getI (12) d_117_19 fl_1_98 rfl rfl (by assumption) (fun x_19 e_19 r_19 => ?_)
  (try rw [hi_setI, up2_ne _ _ (by omega)] at e_19)
  refine wp_i2l d_117_22 (by omega) ?_
  refine wp_ladd d_117_23 ?_
  refine wp_lstore_n d_117_24 (by decide) ?_
  refine wp_iconst d_117_25 ?_
  refine wp_istore_n d_117_26 (by decide) ?_
  refine wp_iload_n d_117_27 (by rfl) ?_
  refine wp_aload_n d_117_28 (by rfl) ?_
  refine wp_getI (12) d_117_29 fl_1_98 rfl rfl (by assumption) (fun x_29 e_29 r_29 => ?_)
  (try rw [hi_setI, up2_ne _ _ (by omega)] at e_29)
  refine wp_icmp_ge (tgt := 92) d_117_32 (by decide) (by omega) (by omega) (fun c_32 => ?_) (fun c_32 => ?_)
  rotate_left
  · exact absurd c_32 (by omega)
  refine wp_iconst d_117_92 ?_
  refine wp_istore_n d_117_93 (by decide) ?_
  refine wp_iload_n d_117_94 (by rfl) ?_
  refine wp_aload_n d_117_95 (by rfl) ?_
  refine wp_getI (12) d_117_96 fl_1_98 rfl rfl (by assumption) (fun x_96 e_96 r_96 => ?_)
  (try rw [hi_setI, up2_ne _ _ (by omega)] at e_96)
  refine wp_icmp_ge (tgt := 139) d_117_99 (by decide) (by omega) (by omega) (fun c_99 => ?_) (fun c_99 => ?_)
  rotate_left
  · exact absurd c_99 (by omega)
  refine wp_lload_n d_117_139 (by rfl) ?_
  refine wp_ldc2 (31) d_117_140 ck_1_263 (by decide) ?_
  refine wp_lmul d_117_143 ?_
  refine wp_aload_n d_117_144 (by rfl) ?_
  refine wp_getI (23) d_117_145 fl_1_61 rfl rfl (by assumption) (fun x_145 e_145 r_145 => ?_)
  (try rw [hi_setI, up2_ne _ _ (by omega)] at e_145)
  refine wp_i2l d_117_148 (by omega) ?_
  refine wp_ladd d_117_149 ?_
  refine wp_lstore_n d_117_150 (by decide) ?_
  refine wp_aload_n d_117_151 (by rfl) ?_
  refine wp_getI (23) d_117_152 fl_1_61 rfl rfl (by assumption) (fun x_152 e_152 r_152 => ?_)
  (try rw [hi_setI, up2_ne _ _ (by omega)] at e_152)
  refine wp_iconst d_117_155 ?_
  refine wp_icmp_ne (tgt := 161) d_117_156 (by decide) (by omega) (by omega) (fun c_156 => ?_) (fun c_156 => ?_)
  · exact absurd c_156 (by omega)
  refine wp_lload_n d_117_159 (by rfl) ?_
  refine wp_lret d_117_160 rfl ?_
  exact ⟨congrArg (fun z => some (vL z)) (by omega), rfl, rfl, rfl, by rw [hi_setI, up2_same]⟩
