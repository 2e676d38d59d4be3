/-! ===== addStop .. addCall, calls, late, cancel, except ===== -/
set_option maxRecDepth 100000 in
set_option maxHeartbeats 4000000 in
theorem s_addStop {w Y X : Nat} {h : Hp} (hS : Sk h w) (q : GT h w Y X) {c : Int} (hc : 0 ≤ c ∧ c ≤ 30) (hz : hi h (w + 1) 4 < 16) : wp 32 0 (entL [vR (some w), vI c] (mL 32)) [] h (fun v h' => v = some (vI (hi h (w + 1) 4)) ∧ h' = setI (setI h (w + 2) (hi h (w + 1) 4) c) (w + 1) 4 (hi h (w + 1) 4 + 1)) noX := by
  have hS9 := hS
  have hT := q.1
  have hX := hT.2.2.2.2.2.2
  have hn := hT.1
  have hn5 := hT.2.1
  have hn7 := hT.2.2.1
  have hn6 := q.2.2.1
  obtain ⟨⟨k1, k2, k3, k4, k5, k6, k7⟩, ⟨n1, ⟨n2, n3, n4, n5⟩, ⟨n6, n7⟩, ⟨n8, n9⟩, ⟨n10, n11⟩, n12, n13⟩, ⟨m1, ⟨m2, m3, m4⟩, ⟨m5, m6⟩, ⟨m7, m8⟩, m9, m10⟩, ⟨o1, ⟨o2, o3, o4⟩, ⟨o5, o6, o7⟩, ⟨o8, o9, o10⟩, o11, o12⟩, ⟨b1, ⟨b2, b3⟩, ⟨b4, b5, b6⟩, b7, b8, b9⟩, ⟨j1, ⟨j2, j3, j4, j5, j6, j7, j8⟩, ⟨j9, j10⟩, j11⟩⟩ := hS
  refine wp_iload_n d_32_0 (by rfl) ?_
  refine wp_iconst d_32_1 ?_
  refine wp_bipush d_32_2 (by decide) ?_
  refine wp_callS d_32_4 c_32_58 rfl (by rfl) (by rfl) (by exact Nat.le_of_ble_eq_true rfl) (by exact Nat.le_of_ble_eq_true rfl) (s_isW (by omega) (by omega) (by omega)) (fun v_4 h_4 q_4 => ?_) (fun _ _ q => q.elim)
  obtain ⟨z_4, rfl, y_4, u_4⟩ := q_4
  replace y_4 := y_4.symm
  subst y_4
  refine wp_callS d_32_7 c_32_62 rfl (by rfl) (by rfl) (by exact Nat.le_of_ble_eq_true rfl) (by exact Nat.le_of_ble_eq_true rfl) (s_needArgument (by omega)) (fun v_7 h_7 q_7 => ?_) (fun _ _ q => q.elim)
  obtain ⟨rfl, z_7⟩ := q_7
  replace z_7 := z_7.symm
  subst z_7
  refine wp_aload_n d_32_10 (by rfl) ?_
  refine wp_getR (0) d_32_11 fl_0_12 rfl rfl (by first | assumption | (simp only [kd_setI, kd_setR]; assumption)) (by first | assumption | (simp only [hr_setI]; assumption)) ?_
  refine wp_getI (4) d_32_14 fl_0_66 rfl rfl (by first | assumption | (simp only [kd_setI, kd_setR]; assumption)) (fun x_14 e_14 r_14 => ?_)
  (repeat first | rw [hi_setI_ne (by omega)] at e_14 | rw [hi_upF, upF_same] at e_14)
  subst e_14
  refine wp_bipush d_32_17 (by decide) ?_
  refine wp_icmp_ge (tgt := 26) d_32_19 (by decide) (by omega) (by omega) (fun c_19 => ?_) (fun c_19 => ?_)
  · exact absurd c_19 (by omega)
  refine wp_iconst d_32_22 ?_
  refine wp_goto (tgt := 27) d_32_23 (by decide) ?_
  refine wp_callS d_32_27 c_32_70 rfl (by rfl) (by rfl) (by exact Nat.le_of_ble_eq_true rfl) (by exact Nat.le_of_ble_eq_true rfl) (s_needState (by omega)) (fun v_27 h_27 q_27 => ?_) (fun _ _ q => q.elim)
  obtain ⟨rfl, z_27⟩ := q_27
  replace z_27 := z_27.symm
  subst z_27
  refine wp_aload_n d_32_30 (by rfl) ?_
  refine wp_getR (0) d_32_31 fl_0_12 rfl rfl (by first | assumption | (simp only [kd_setI, kd_setR]; assumption)) (by first | assumption | (simp only [hr_setI]; assumption)) ?_
  refine wp_getR (0) d_32_34 fl_0_73 rfl rfl (by first | assumption | (simp only [kd_setI, kd_setR]; assumption)) (by first | assumption | (simp only [hr_setI]; assumption)) ?_
  refine wp_aload_n d_32_37 (by rfl) ?_
  refine wp_getR (0) d_32_38 fl_0_12 rfl rfl (by first | assumption | (simp only [kd_setI, kd_setR]; assumption)) (by first | assumption | (simp only [hr_setI]; assumption)) ?_
  refine wp_getI (4) d_32_41 fl_0_66 rfl rfl (by first | assumption | (simp only [kd_setI, kd_setR]; assumption)) (fun x_41 e_41 r_41 => ?_)
  (repeat first | rw [hi_setI_ne (by omega)] at e_41 | rw [hi_upF, upF_same] at e_41)
  subst e_41
  refine wp_iload_n d_32_44 (by rfl) ?_
  refine wp_iast d_32_45 (by first | assumption | (simp only [kd_setI, kd_setR]; assumption)) (by omega) (by omega) (by omega) ?_
  refine wp_aload_n d_32_46 (by rfl) ?_
  refine wp_getR (0) d_32_47 fl_0_12 rfl rfl (by first | assumption | (simp only [kd_setI, kd_setR]; assumption)) (by first | assumption | (simp only [hr_setI]; assumption)) ?_
  refine wp_dup d_32_50 (by rfl) ?_
  refine wp_getI (4) d_32_51 fl_0_66 rfl rfl (by first | assumption | (simp only [kd_setI, kd_setR]; assumption)) (fun x_51 e_51 r_51 => ?_)
  (repeat first | rw [hi_setI_ne (by omega)] at e_51 | rw [hi_upF, upF_same] at e_51)
  subst e_51
  refine wp_iconst d_32_54 ?_
  refine wp_iadd d_32_55 ?_
  refine wp_putI (4) d_32_56 fl_0_66 rfl rfl (Or.inl (by rfl)) (by first | assumption | (simp only [kd_setI, kd_setR]; assumption)) (by omega) (fun q => nomatch q) ?_
  refine wp_aload_n d_32_59 (by rfl) ?_
  refine wp_getR (0) d_32_60 fl_0_12 rfl rfl (by first | assumption | (simp only [kd_setI, kd_setR]; assumption)) (by first | assumption | (simp only [hr_setI]; assumption)) ?_
  refine wp_getI (4) d_32_63 fl_0_66 rfl rfl (by first | assumption | (simp only [kd_setI, kd_setR]; assumption)) (fun x_63 e_63 r_63 => ?_)
  (repeat first | rw [hi_setI_ne (by omega)] at e_63 | rw [hi_upF, upF_same] at e_63)
  subst e_63
  refine wp_iconst d_32_66 ?_
  refine wp_isub d_32_67 ?_
  refine wp_iret d_32_68 rfl ?_
  exact ⟨congrArg (fun z => some (vI z)) (by omega), rfl⟩
set_option maxRecDepth 100000 in
set_option maxHeartbeats 4000000 in
theorem s_addFootway {w Y X : Nat} {h : Hp} (hS : Sk h w) (q : GT h w Y X) {s o m : Int} (hs : 0 ≤ s ∧ s < hi h (w + 1) 4) (ho : 0 ≤ o ∧ o < hi h (w + 1) 4) (hso : s ≠ o) (hm : 1 ≤ m ∧ m ≤ 60) (hz : hi h (w + 1) 5 < 20) (r1 : nx h + 1 ≤ cn h) (r2 : us h + 3 ≤ cs h) : wp 33 0 (entL [vR (some w), vI s, vI o, vI m] (mL 33)) [] h (fun v h' => v = some (vI (hi h (w + 1) 5)) ∧ ∃ h1, FwN h h1 s o m ∧ h' = setI (setR h1 (w + 3) (hi h (w + 1) 5) (some (nx h))) (w + 1) 5 (hi h (w + 1) 5 + 1)) noX := by
  have hS9 := hS
  have hT := q.1
  have hX := hT.2.2.2.2.2.2
  have hn := hT.1
  have hn5 := hT.2.1
  have hn7 := hT.2.2.1
  have hn6 := q.2.2.1
  obtain ⟨⟨k1, k2, k3, k4, k5, k6, k7⟩, ⟨n1, ⟨n2, n3, n4, n5⟩, ⟨n6, n7⟩, ⟨n8, n9⟩, ⟨n10, n11⟩, n12, n13⟩, ⟨m1, ⟨m2, m3, m4⟩, ⟨m5, m6⟩, ⟨m7, m8⟩, m9, m10⟩, ⟨o1, ⟨o2, o3, o4⟩, ⟨o5, o6, o7⟩, ⟨o8, o9, o10⟩, o11, o12⟩, ⟨b1, ⟨b2, b3⟩, ⟨b4, b5, b6⟩, b7, b8, b9⟩, ⟨j1, ⟨j2, j3, j4, j5, j6, j7, j8⟩, ⟨j9, j10⟩, j11⟩⟩ := hS
  refine wp_aload_n d_33_0 (by rfl) ?_
  refine wp_iload_n d_33_1 (by rfl) ?_
  refine wp_callV d_33_2 c_33_77 rfl (by rfl) (by rfl) ⟨0, rfl, rfl, by decide⟩ (by first | assumption | (simp only [kd_setI, kd_setR]; assumption) | (rw [kd_mkO, up1_same])) (by exact Nat.le_of_ble_eq_true rfl) (by exact Nat.le_of_ble_eq_true rfl) (s_needStop hS9 hs hn.2) (fun v_2 h_2 q_2 => ?_) (fun _ _ q => q.elim)
  obtain ⟨rfl, z_2⟩ := q_2
  replace z_2 := z_2.symm
  subst z_2
  refine wp_aload_n d_33_5 (by rfl) ?_
  refine wp_iload_n d_33_6 (by rfl) ?_
  refine wp_callV d_33_7 c_33_77 rfl (by rfl) (by rfl) ⟨0, rfl, rfl, by decide⟩ (by first | assumption | (simp only [kd_setI, kd_setR]; assumption) | (rw [kd_mkO, up1_same])) (by exact Nat.le_of_ble_eq_true rfl) (by exact Nat.le_of_ble_eq_true rfl) (s_needStop hS9 ho hn.2) (fun v_7 h_7 q_7 => ?_) (fun _ _ q => q.elim)
  obtain ⟨rfl, z_7⟩ := q_7
  replace z_7 := z_7.symm
  subst z_7
  refine wp_iload_n d_33_10 (by rfl) ?_
  refine wp_iload_n d_33_11 (by rfl) ?_
  refine wp_icmp_eq (tgt := 29) d_33_12 (by decide) (by omega) (by omega) (fun c_12 => ?_) (fun c_12 => ?_)
  · exact absurd c_12 (by omega)
  refine wp_iload_n d_33_15 (by rfl) ?_
  refine wp_iconst d_33_16 ?_
  refine wp_bipush d_33_17 (by decide) ?_
  refine wp_callS d_33_19 c_33_58 rfl (by rfl) (by rfl) (by exact Nat.le_of_ble_eq_true rfl) (by exact Nat.le_of_ble_eq_true rfl) (s_isW (by omega) (by omega) (by omega)) (fun v_19 h_19 q_19 => ?_) (fun _ _ q => q.elim)
  obtain ⟨z_19, rfl, y_19, u_19⟩ := q_19
  replace y_19 := y_19.symm
  subst y_19
  refine wp_if_eq (tgt := 29) d_33_22 (by decide) (by omega) (fun c_22 => ?_) (fun c_22 => ?_)
  · exact absurd c_22 (by omega)
  refine wp_iconst d_33_25 ?_
  refine wp_goto (tgt := 30) d_33_26 (by decide) ?_
  refine wp_callS d_33_30 c_33_62 rfl (by rfl) (by rfl) (by exact Nat.le_of_ble_eq_true rfl) (by exact Nat.le_of_ble_eq_true rfl) (s_needArgument (by omega)) (fun v_30 h_30 q_30 => ?_) (fun _ _ q => q.elim)
  obtain ⟨rfl, z_30⟩ := q_30
  replace z_30 := z_30.symm
  subst z_30
  refine wp_aload_n d_33_33 (by rfl) ?_
  refine wp_getR (0) d_33_34 fl_0_12 rfl rfl (by first | assumption | (simp only [kd_setI, kd_setR]; assumption) | (rw [kd_mkO, up1_same])) (by first | assumption | (simp only [hr_setI]; assumption)) ?_
  refine wp_getI (5) d_33_37 fl_0_81 rfl rfl (by first | assumption | (simp only [kd_setI, kd_setR]; assumption) | (rw [kd_mkO, up1_same])) (fun x_37 e_37 r_37 => ?_)
  (try rw [hi_setR] at e_37)
  (try rw [i1] at e_37)
  (try rw [hi_upF, upF_same] at e_37)
  subst e_37
  refine wp_bipush d_33_40 (by decide) ?_
  refine wp_icmp_ge (tgt := 49) d_33_42 (by decide) (by omega) (by omega) (fun c_42 => ?_) (fun c_42 => ?_)
  · exact absurd c_42 (by omega)
  refine wp_iconst d_33_45 ?_
  refine wp_goto (tgt := 50) d_33_46 (by decide) ?_
  refine wp_callS d_33_50 c_33_70 rfl (by rfl) (by rfl) (by exact Nat.le_of_ble_eq_true rfl) (by exact Nat.le_of_ble_eq_true rfl) (s_needState (by omega)) (fun v_50 h_50 q_50 => ?_) (fun _ _ q => q.elim)
  obtain ⟨rfl, z_50⟩ := q_50
  replace z_50 := z_50.symm
  subst z_50
  refine wp_aload_n d_33_53 (by rfl) ?_
  refine wp_getR (0) d_33_54 fl_0_12 rfl rfl (by first | assumption | (simp only [kd_setI, kd_setR]; assumption) | (rw [kd_mkO, up1_same])) (by first | assumption | (simp only [hr_setI]; assumption)) ?_
  refine wp_getR (1) d_33_57 fl_0_84 rfl rfl (by first | assumption | (simp only [kd_setI, kd_setR]; assumption) | (rw [kd_mkO, up1_same])) (by first | assumption | (simp only [hr_setI]; assumption)) ?_
  refine wp_aload_n d_33_60 (by rfl) ?_
  refine wp_getR (0) d_33_61 fl_0_12 rfl rfl (by first | assumption | (simp only [kd_setI, kd_setR]; assumption) | (rw [kd_mkO, up1_same])) (by first | assumption | (simp only [hr_setI]; assumption)) ?_
  refine wp_getI (5) d_33_64 fl_0_81 rfl rfl (by first | assumption | (simp only [kd_setI, kd_setR]; assumption) | (rw [kd_mkO, up1_same])) (fun x_64 e_64 r_64 => ?_)
  (try rw [hi_setR] at e_64)
  (try rw [i1] at e_64)
  (try rw [hi_upF, upF_same] at e_64)
  subst e_64
  refine wp_new (ci := 5) d_33_67 cl_0_88 ci5 ⟨_, rfl⟩ (by decide) (by omega) (by omega) ?_
  refine wp_dup d_33_70 (by rfl) ?_
  refine wp_iload_n d_33_71 (by rfl) ?_
  refine wp_iload_n d_33_72 (by rfl) ?_
  refine wp_iload_n d_33_73 (by rfl) ?_
  refine wp_callI d_33_74 c_33_90 rfl rfl (by rfl) (by rfl) (by exact Nat.le_of_ble_eq_true rfl) (by exact Nat.le_of_ble_eq_true rfl) (s_FwInit (by omega) (by omega) (by omega)) (fun v_74 h_74 q_74 => ?_) (fun _ _ q => q.elim)
  obtain ⟨rfl, f⟩ := q_74
  have f0 := f
  obtain ⟨f1, f2, f3, f4, f5⟩ := f
  have kl : kd h_74 (w + 3) = 104 := (f1.2.1 _ (by omega)).1.trans n8
  have ll : ln h_74 (w + 3) = 20 := (f1.2.1 _ (by omega)).2.trans n9
  have kk1 : kd h_74 (w + 1) = 8 := (f1.2.1 _ (by omega)).1.trans n1
  have kw : kd h_74 w = 1 := (f1.2.1 _ (by omega)).1.trans k1
  have rw1 : hr h_74 w 0 = some (w + 1) := (f1.2.2.2.1 _ _ (by omega) (fun z => z)).trans k2
  have i1 : ∀ k, hi h_74 (w + 1) k = hi h (w + 1) k := fun k => f1.2.2.1 _ k (by omega) (fun z => z)
  refine wp_aastO (cb := 5) d_33_77 (by omega) (by omega) f4 (by decide) (by rw [kl]; rfl) (by omega) (by omega) ?_
  have rr9 : hr (setR h_74 (w + 3) (hi h (w + 1) 5) (some (nx h))) w 0 = some (w + 1) := by rw [hr_setR, up2_ne _ _ (fun z => by omega)]; exact rw1
  refine wp_aload_n d_33_78 (by rfl) ?_
  refine wp_getR (0) d_33_79 fl_0_12 rfl rfl (by first | assumption | (simp only [kd_setI, kd_setR]; assumption) | (rw [kd_mkO, up1_same])) (by first | assumption | (simp only [hr_setI]; assumption)) ?_
  refine wp_dup d_33_82 (by rfl) ?_
  refine wp_getI (5) d_33_83 fl_0_81 rfl rfl (by first | assumption | (simp only [kd_setI, kd_setR]; assumption) | (rw [kd_mkO, up1_same])) (fun x_83 e_83 r_83 => ?_)
  (try rw [hi_setR] at e_83)
  (try rw [i1] at e_83)
  (try rw [hi_upF, upF_same] at e_83)
  subst e_83
  refine wp_iconst d_33_86 ?_
  refine wp_iadd d_33_87 ?_
  refine wp_putI (5) d_33_88 fl_0_81 rfl rfl (Or.inl (by rfl)) (by first | assumption | (simp only [kd_setI, kd_setR]; assumption) | (rw [kd_mkO, up1_same])) (by omega) (fun q => nomatch q) ?_
  refine wp_aload_n d_33_91 (by rfl) ?_
  refine wp_getR (0) d_33_92 fl_0_12 rfl rfl (by first | assumption | (simp only [kd_setI, kd_setR]; assumption) | (rw [kd_mkO, up1_same])) (by first | assumption | (simp only [hr_setI]; assumption)) ?_
  refine wp_getI (5) d_33_95 fl_0_81 rfl rfl (by first | assumption | (simp only [kd_setI, kd_setR]; assumption) | (rw [kd_mkO, up1_same])) (fun x_95 e_95 r_95 => ?_)
  (try rw [hi_setR] at e_95)
  (try rw [i1] at e_95)
  (try rw [hi_upF, upF_same] at e_95)
  subst e_95
  refine wp_iconst d_33_98 ?_
  refine wp_isub d_33_99 ?_
  refine wp_iret d_33_100 rfl ?_
  exact ⟨congrArg (fun z => some (vI z)) (by omega), _, f0, rfl⟩
set_option maxRecDepth 100000 in
set_option maxHeartbeats 4000000 in
theorem s_addCalendar {w Y X : Nat} {h : Hp} (hS : Sk h w) (q : GT h w Y X) {wd fi la : Int} (hwd : 0 ≤ wd ∧ wd ≤ 127) (hfi : 0 ≤ fi ∧ fi ≤ la ∧ la ≤ 365) (hz : hi h (w + 1) 6 < 6) (r1 : nx h + 2 ≤ cn h) (r2 : us h + 370 ≤ cs h) : wp 34 0 (entL [vR (some w), vI wd, vI fi, vI la] (mL 34)) [] h (fun v h' => v = some (vI (hi h (w + 1) 6)) ∧ ∃ h1, CaN h h1 wd fi la ∧ h' = setI (setR h1 (w + 4) (hi h (w + 1) 6) (some (nx h))) (w + 1) 6 (hi h (w + 1) 6 + 1)) noX := by
  have hS9 := hS
  have hT := q.1
  have hX := hT.2.2.2.2.2.2
  have hn := hT.1
  have hn5 := hT.2.1
  have hn7 := hT.2.2.1
  have hn6 := q.2.2.1
  obtain ⟨⟨k1, k2, k3, k4, k5, k6, k7⟩, ⟨n1, ⟨n2, n3, n4, n5⟩, ⟨n6, n7⟩, ⟨n8, n9⟩, ⟨n10, n11⟩, n12, n13⟩, ⟨m1, ⟨m2, m3, m4⟩, ⟨m5, m6⟩, ⟨m7, m8⟩, m9, m10⟩, ⟨o1, ⟨o2, o3, o4⟩, ⟨o5, o6, o7⟩, ⟨o8, o9, o10⟩, o11, o12⟩, ⟨b1, ⟨b2, b3⟩, ⟨b4, b5, b6⟩, b7, b8, b9⟩, ⟨j1, ⟨j2, j3, j4, j5, j6, j7, j8⟩, ⟨j9, j10⟩, j11⟩⟩ := hS
  refine wp_iload_n d_34_0 (by rfl) ?_
  refine wp_iconst d_34_1 ?_
  refine wp_bipush d_34_2 (by decide) ?_
  refine wp_callS d_34_4 c_34_58 rfl (by rfl) (by rfl) (by exact Nat.le_of_ble_eq_true rfl) (by exact Nat.le_of_ble_eq_true rfl) (s_isW (by omega) (by omega) (by omega)) (fun v_4 h_4 q_4 => ?_) (fun _ _ q => q.elim)
  obtain ⟨z_4, rfl, y_4, u_4⟩ := q_4
  replace y_4 := y_4.symm
  subst y_4
  refine wp_if_eq (tgt := 33) d_34_7 (by decide) (by omega) (fun c_7 => ?_) (fun c_7 => ?_)
  · exact absurd c_7 (by omega)
  refine wp_iload_n d_34_10 (by rfl) ?_
  refine wp_callS d_34_11 c_34_93 rfl (by rfl) (by rfl) (by exact Nat.le_of_ble_eq_true rfl) (by exact Nat.le_of_ble_eq_true rfl) (s_isD (by omega)) (fun v_11 h_11 q_11 => ?_) (fun _ _ q => q.elim)
  obtain ⟨z_11, rfl, y_11, u_11⟩ := q_11
  replace y_11 := y_11.symm
  subst y_11
  refine wp_if_eq (tgt := 33) d_34_14 (by decide) (by omega) (fun c_14 => ?_) (fun c_14 => ?_)
  · exact absurd c_14 (by omega)
  refine wp_iload_n d_34_17 (by rfl) ?_
  refine wp_callS d_34_18 c_34_93 rfl (by rfl) (by rfl) (by exact Nat.le_of_ble_eq_true rfl) (by exact Nat.le_of_ble_eq_true rfl) (s_isD (by omega)) (fun v_18 h_18 q_18 => ?_) (fun _ _ q => q.elim)
  obtain ⟨z_18, rfl, y_18, u_18⟩ := q_18
  replace y_18 := y_18.symm
  subst y_18
  refine wp_if_eq (tgt := 33) d_34_21 (by decide) (by omega) (fun c_21 => ?_) (fun c_21 => ?_)
  · exact absurd c_21 (by omega)
  refine wp_iload_n d_34_24 (by rfl) ?_
  refine wp_iload_n d_34_25 (by rfl) ?_
  refine wp_icmp_gt (tgt := 33) d_34_26 (by decide) (by omega) (by omega) (fun c_26 => ?_) (fun c_26 => ?_)
  · exact absurd c_26 (by omega)
  refine wp_iconst d_34_29 ?_
  refine wp_goto (tgt := 34) d_34_30 (by decide) ?_
  refine wp_callS d_34_34 c_34_62 rfl (by rfl) (by rfl) (by exact Nat.le_of_ble_eq_true rfl) (by exact Nat.le_of_ble_eq_true rfl) (s_needArgument (by omega)) (fun v_34 h_34 q_34 => ?_) (fun _ _ q => q.elim)
  obtain ⟨rfl, z_34⟩ := q_34
  replace z_34 := z_34.symm
  subst z_34
  refine wp_aload_n d_34_37 (by rfl) ?_
  refine wp_getR (0) d_34_38 fl_0_12 rfl rfl (by first | assumption | (simp only [kd_setI, kd_setR]; assumption) | (rw [kd_mkO, up1_same])) (by first | assumption | (simp only [hr_setI]; assumption)) ?_
  refine wp_getI (6) d_34_41 fl_0_97 rfl rfl (by first | assumption | (simp only [kd_setI, kd_setR]; assumption) | (rw [kd_mkO, up1_same])) (fun x_41 e_41 r_41 => ?_)
  (try rw [hi_setR] at e_41)
  (try rw [i1] at e_41)
  (try rw [hi_upF, upF_same] at e_41)
  subst e_41
  refine wp_bipush d_34_44 (by decide) ?_
  refine wp_icmp_ge (tgt := 53) d_34_46 (by decide) (by omega) (by omega) (fun c_46 => ?_) (fun c_46 => ?_)
  · exact absurd c_46 (by omega)
  refine wp_iconst d_34_49 ?_
  refine wp_goto (tgt := 54) d_34_50 (by decide) ?_
  refine wp_callS d_34_54 c_34_70 rfl (by rfl) (by rfl) (by exact Nat.le_of_ble_eq_true rfl) (by exact Nat.le_of_ble_eq_true rfl) (s_needState (by omega)) (fun v_54 h_54 q_54 => ?_) (fun _ _ q => q.elim)
  obtain ⟨rfl, z_54⟩ := q_54
  replace z_54 := z_54.symm
  subst z_54
  refine wp_aload_n d_34_57 (by rfl) ?_
  refine wp_getR (0) d_34_58 fl_0_12 rfl rfl (by first | assumption | (simp only [kd_setI, kd_setR]; assumption) | (rw [kd_mkO, up1_same])) (by first | assumption | (simp only [hr_setI]; assumption)) ?_
  refine wp_getR (2) d_34_61 fl_0_100 rfl rfl (by first | assumption | (simp only [kd_setI, kd_setR]; assumption) | (rw [kd_mkO, up1_same])) (by first | assumption | (simp only [hr_setI]; assumption)) ?_
  refine wp_aload_n d_34_64 (by rfl) ?_
  refine wp_getR (0) d_34_65 fl_0_12 rfl rfl (by first | assumption | (simp only [kd_setI, kd_setR]; assumption) | (rw [kd_mkO, up1_same])) (by first | assumption | (simp only [hr_setI]; assumption)) ?_
  refine wp_getI (6) d_34_68 fl_0_97 rfl rfl (by first | assumption | (simp only [kd_setI, kd_setR]; assumption) | (rw [kd_mkO, up1_same])) (fun x_68 e_68 r_68 => ?_)
  (try rw [hi_setR] at e_68)
  (try rw [i1] at e_68)
  (try rw [hi_upF, upF_same] at e_68)
  subst e_68
  refine wp_new (ci := 3) d_34_71 cl_0_104 ci3 ⟨_, rfl⟩ (by decide) (by omega) (by omega) ?_
  refine wp_dup d_34_74 (by rfl) ?_
  refine wp_iload_n d_34_75 (by rfl) ?_
  refine wp_iload_n d_34_76 (by rfl) ?_
  refine wp_iload_n d_34_77 (by rfl) ?_
  refine wp_callI d_34_78 c_34_106 rfl rfl (by rfl) (by rfl) (by exact Nat.le_of_ble_eq_true rfl) (by exact Nat.le_of_ble_eq_true rfl) (s_CaInit (by omega) (by omega) (by omega) (by omega) (by omega)) (fun v_78 h_78 q_78 => ?_) (fun _ _ q => q.elim)
  obtain ⟨rfl, f⟩ := q_78
  have f0 := f
  obtain ⟨f1, f2, f3, f4, f5⟩ := f
  have kl : kd h_78 (w + 4) = 105 := (f1.2.1 _ (by omega)).1.trans n10
  have ll : ln h_78 (w + 4) = 6 := (f1.2.1 _ (by omega)).2.trans n11
  have kk1 : kd h_78 (w + 1) = 8 := (f1.2.1 _ (by omega)).1.trans n1
  have kw : kd h_78 w = 1 := (f1.2.1 _ (by omega)).1.trans k1
  have rw1 : hr h_78 w 0 = some (w + 1) := (f1.2.2.2.1 _ _ (by omega) (fun z => z)).trans k2
  have i1 : ∀ k, hi h_78 (w + 1) k = hi h (w + 1) k := fun k => f1.2.2.1 _ k (by omega) (fun z => z)
  refine wp_aastO (cb := 3) d_34_81 (by omega) (by omega) f4.1 (by decide) (by rw [kl]; rfl) (by omega) (by omega) ?_
  have rr9 : hr (setR h_78 (w + 4) (hi h (w + 1) 6) (some (nx h))) w 0 = some (w + 1) := by rw [hr_setR, up2_ne _ _ (fun z => by omega)]; exact rw1
  refine wp_aload_n d_34_82 (by rfl) ?_
  refine wp_getR (0) d_34_83 fl_0_12 rfl rfl (by first | assumption | (simp only [kd_setI, kd_setR]; assumption) | (rw [kd_mkO, up1_same])) (by first | assumption | (simp only [hr_setI]; assumption)) ?_
  refine wp_dup d_34_86 (by rfl) ?_
  refine wp_getI (6) d_34_87 fl_0_97 rfl rfl (by first | assumption | (simp only [kd_setI, kd_setR]; assumption) | (rw [kd_mkO, up1_same])) (fun x_87 e_87 r_87 => ?_)
  (try rw [hi_setR] at e_87)
  (try rw [i1] at e_87)
  (try rw [hi_upF, upF_same] at e_87)
  subst e_87
  refine wp_iconst d_34_90 ?_
  refine wp_iadd d_34_91 ?_
  refine wp_putI (6) d_34_92 fl_0_97 rfl rfl (Or.inl (by rfl)) (by first | assumption | (simp only [kd_setI, kd_setR]; assumption) | (rw [kd_mkO, up1_same])) (by omega) (fun q => nomatch q) ?_
  refine wp_aload_n d_34_95 (by rfl) ?_
  refine wp_getR (0) d_34_96 fl_0_12 rfl rfl (by first | assumption | (simp only [kd_setI, kd_setR]; assumption) | (rw [kd_mkO, up1_same])) (by first | assumption | (simp only [hr_setI]; assumption)) ?_
  refine wp_getI (6) d_34_99 fl_0_97 rfl rfl (by first | assumption | (simp only [kd_setI, kd_setR]; assumption) | (rw [kd_mkO, up1_same])) (fun x_99 e_99 r_99 => ?_)
  (try rw [hi_setR] at e_99)
  (try rw [i1] at e_99)
  (try rw [hi_upF, upF_same] at e_99)
  subst e_99
  refine wp_iconst d_34_102 ?_
  refine wp_isub d_34_103 ?_
  refine wp_iret d_34_104 rfl ?_
  exact ⟨congrArg (fun z => some (vI z)) (by omega), _, f0, rfl⟩
set_option maxRecDepth 100000 in
set_option maxHeartbeats 4000000 in
theorem l_addTrip3 {w a : Nat} {c p s dp : Int} {g : Hp} (kw : kd g w = 1) (rw1 : hr g w 0 = some (w + 1)) (kk1 : kd g (w + 1) = 8) (rl5 : hr g (w + 1) 3 = some (w + 5)) (kl : kd g (w + 5) = 106) (ll : ln g (w + 5) = 24) (ka : kd g a = 12) (za : hi g a 0 = hi g (w + 1) 7) (hT : 0 ≤ hi g (w + 1) 7 ∧ hi g (w + 1) 7 < 24) (ha : a ≠ w + 1) : wp 35 103 [some (vR (some w)), some (vI c), some (vI p), some (vI s), some (vI dp), some (vR (some a))] [] g (fun v h' => v = some (vI (hi g (w + 1) 7)) ∧ h' = setI (setR g (w + 5) (hi g (w + 1) 7) (some a)) (w + 1) 7 (hi g (w + 1) 7 + 1)) noX := by
  refine wp_aload_n d_35_103 (by rfl) ?_
  refine wp_getR (0) d_35_104 fl_0_12 rfl rfl (by first | assumption | (simp only [kd_setI, kd_setR]; assumption)) (by first | assumption | (simp only [hr_setI]; assumption)) ?_
  refine wp_getR (3) d_35_107 fl_0_128 rfl rfl (by first | assumption | (simp only [kd_setI, kd_setR]; assumption)) (by first | assumption | (simp only [hr_setI]; assumption)) ?_
  refine wp_aload_n d_35_110 (by rfl) ?_
  refine wp_getR (0) d_35_111 fl_0_12 rfl rfl (by first | assumption | (simp only [kd_setI, kd_setR]; assumption)) (by first | assumption | (simp only [hr_setI]; assumption)) ?_
  refine wp_getI (7) d_35_114 fl_0_117 rfl rfl (by first | assumption | (simp only [kd_setI, kd_setR]; assumption)) (fun x_114 e_114 r_114 => ?_)
  (try rw [hi_setI_ne ha] at e_114)
  (try rw [hi_setR] at e_114)
  (try rw [za] at e_114)
  subst e_114
  refine wp_aload d_35_117 (by rfl) ?_
  refine wp_aastO (cb := 11) d_35_119 (by omega) (by omega) ka (by decide) (by rw [kl]; rfl) (by omega) (by omega) ?_
  have rr9 : hr (setR g (w + 5) (hi g (w + 1) 7) (some a)) w 0 = some (w + 1) := by rw [hr_setR, up2_ne _ _ (fun z => by omega)]; exact rw1
  refine wp_aload_n d_35_120 (by rfl) ?_
  refine wp_getR (0) d_35_121 fl_0_12 rfl rfl (by first | assumption | (simp only [kd_setI, kd_setR]; assumption)) (by first | assumption | (simp only [hr_setI]; assumption)) ?_
  refine wp_dup d_35_124 (by rfl) ?_
  refine wp_getI (7) d_35_125 fl_0_117 rfl rfl (by first | assumption | (simp only [kd_setI, kd_setR]; assumption)) (fun x_125 e_125 r_125 => ?_)
  (try rw [hi_setI_ne ha] at e_125)
  (try rw [hi_setR] at e_125)
  (try rw [za] at e_125)
  subst e_125
  refine wp_iconst d_35_128 ?_
  refine wp_iadd d_35_129 ?_
  refine wp_putI (7) d_35_130 fl_0_117 rfl rfl (Or.inl (by rfl)) (by first | assumption | (simp only [kd_setI, kd_setR]; assumption)) (by omega) (fun q => nomatch q) ?_
  refine wp_aload d_35_133 (by rfl) ?_
  refine wp_getI (0) d_35_135 fl_0_132 rfl rfl (by first | assumption | (simp only [kd_setI, kd_setR]; assumption)) (fun x_135 e_135 r_135 => ?_)
  (try rw [hi_setI_ne ha] at e_135)
  (try rw [hi_setR] at e_135)
  (try rw [za] at e_135)
  subst e_135
  refine wp_iret d_35_138 rfl ?_
  exact ⟨rfl, rfl⟩
set_option maxRecDepth 100000 in
set_option maxHeartbeats 4000000 in
theorem l_addTrip2 {w : Nat} {c p s dp T : Int} {cc : Nat} {h h1 : Hp} (hw : w + 154 ≤ nx h) (f : TrN h h1 T p cc) (kw : kd h1 w = 1) (rw1 : hr h1 w 0 = some (w + 1)) (kk1 : kd h1 (w + 1) = 8) (rl5 : hr h1 (w + 1) 3 = some (w + 5)) (kl : kd h1 (w + 5) = 106) (ll : ln h1 (w + 5) = 24) (zn : hi h1 (w + 1) 7 = T) (hT : 0 ≤ T ∧ T < 24) (hs : 0 ≤ s ∧ s < 16) (hd : 0 ≤ dp ∧ dp ≤ 2879) : wp 35 91 [some (vR (some w)), some (vI c), some (vI p), some (vI s), some (vI dp), none] [vR (some (nx h))] h1 (fun v h' => v = some (vI T) ∧ h' = setI (setR (apT h1 (nx h) s dp dp) (w + 5) T (some (nx h))) (w + 1) 7 (T + 1)) noX := by
  obtain ⟨f1, f2, f3, f4, ⟨y1, y3, y4, y5, y6⟩, ⟨v0, v2_, v7_⟩, ⟨⟨a1, b1_⟩, ⟨a2, b2_⟩, ⟨a3, b3_⟩, a4, b4_⟩, zz⟩ := f
  have ap1 : ∀ k, hi (apT h1 (nx h) s dp dp) (w + 1) k = hi h1 (w + 1) k := fun k => by
    unfold apT
    rw [hi_setI_ne (by omega), hi_setI_ne (by omega), hi_setI_ne (by omega), hi_setI_ne (by omega)]
  have apa : hi (apT h1 (nx h) s dp dp) (nx h) 0 = T := by
    unfold apT
    rw [hi_upF, upF_ne _ (by decide), hi_setI_ne (by omega), hi_setI_ne (by omega), hi_setI_ne (by omega), v0]
  refine wp_astore d_35_91 (by decide) ?_
  refine wp_aload d_35_93 (by rfl) ?_
  refine wp_iload_n d_35_95 (by rfl) ?_
  refine wp_iload d_35_96 (by rfl) ?_
  refine wp_iload d_35_98 (by rfl) ?_
  refine wp_callV d_35_100 c_35_125 rfl (by rfl) (by rfl) ⟨11, rfl, rfl, by decide⟩ (by assumption) (by exact Nat.le_of_ble_eq_true rfl) (by exact Nat.le_of_ble_eq_true rfl) (s_append f4 ⟨y3, y4, y5⟩ ⟨⟨a1, b1_⟩, ⟨a2, b2_⟩, a3, b3_⟩ (by omega) (by omega) (by omega) (by omega)) (fun v_100 h_100 q_100 => ?_) (fun _ _ q => q.elim)
  obtain ⟨rfl, z_100⟩ := q_100
  replace z_100 := z_100.symm
  subst z_100
  refine wp_to [some (vR (some w)), some (vI c), some (vI p), some (vI s), some (vI dp), some (vR (some (nx h)))] ⟨rfl, rfl, rfl, rfl, rfl, rfl, trivial⟩ ?_
  generalize hg : apT h1 (nx h) s dp dp = g at ap1 apa
  have q1 : kd g = kd h1 := by rw [← hg]; rfl
  have q2 : ln g = ln h1 := by rw [← hg]; rfl
  have q3 : hr g = hr h1 := by rw [← hg]; rfl
  have e7 : hi g (w + 1) 7 = T := (ap1 7).trans zn
  have key := l_addTrip3 (c := c) (p := p) (s := s) (dp := dp) (a := nx h) (w := w) (g := g) (by rw [q1]; exact kw) (by rw [q3]; exact rw1) (by rw [q1]; exact kk1) (by rw [q3]; exact rl5) (by rw [q1]; exact kl) (by rw [q2]; exact ll) (by rw [q1]; exact f4) (by rw [e7]; exact apa) (by rw [e7]; exact hT) (by omega)
  rw [e7] at key
  exact key
set_option maxRecDepth 100000 in
set_option maxHeartbeats 4000000 in
theorem s_addTrip {w Y X : Nat} {h : Hp} (hS : Sk h w) (q : GT h w Y X) {c p s dp : Int} (hc : 0 ≤ c ∧ c < hi h (w + 1) 6) (hp : 0 ≤ p ∧ p ≤ 500) (hs : 0 ≤ s ∧ s < hi h (w + 1) 4) (hd : 0 ≤ dp ∧ dp ≤ 2879) (hz : hi h (w + 1) 7 < 24) (r1 : nx h + 5 ≤ cn h) (r2 : us h + 398 ≤ cs h) : wp 35 0 (entL [vR (some w), vI c, vI p, vI s, vI dp] (mL 35)) [] h (fun v h' => v = some (vI (hi h (w + 1) 7)) ∧ ∃ h1, TrN h h1 (hi h (w + 1) 7) p (caA h w c) ∧ h' = setI (setR (apT h1 (nx h) s dp dp) (w + 5) (hi h (w + 1) 7) (some (nx h))) (w + 1) 7 (hi h (w + 1) 7 + 1)) noX := by
  have hS9 := hS
  have hT := q.1
  have hX := hT.2.2.2.2.2.2
  have hn := hT.1
  have hn5 := hT.2.1
  have hn7 := hT.2.2.1
  have hn6 := q.2.2.1
  obtain ⟨⟨k1, k2, k3, k4, k5, k6, k7⟩, ⟨n1, ⟨n2, n3, n4, n5⟩, ⟨n6, n7⟩, ⟨n8, n9⟩, ⟨n10, n11⟩, n12, n13⟩, ⟨m1, ⟨m2, m3, m4⟩, ⟨m5, m6⟩, ⟨m7, m8⟩, m9, m10⟩, ⟨o1, ⟨o2, o3, o4⟩, ⟨o5, o6, o7⟩, ⟨o8, o9, o10⟩, o11, o12⟩, ⟨b1, ⟨b2, b3⟩, ⟨b4, b5, b6⟩, b7, b8, b9⟩, ⟨j1, ⟨j2, j3, j4, j5, j6, j7, j8⟩, ⟨j9, j10⟩, j11⟩⟩ := hS
  obtain ⟨cr, -, -⟩ := q.2.2.2.1 c hc.1 hc.2
  clear j1 j2 j3 j4 j5 j6 j7 j8 j9 j10 j11 b1 b2 b3 b4 b5 b6 b7 b8 b9 o1 o2 o3 o4 o5 o6 o7 o8 o9 o10 o11 o12
  refine wp_iload_n d_35_0 (by rfl) ?_
  refine wp_aload_n d_35_1 (by rfl) ?_
  refine wp_getR (0) d_35_2 fl_0_12 rfl rfl (by first | assumption | (rw [kd_mkO, up1_same])) (by first | assumption | (simp only [hr_setI]; assumption)) ?_
  refine wp_getI (6) d_35_5 fl_0_97 rfl rfl (by first | assumption | (rw [kd_mkO, up1_same])) (fun x_5 e_5 r_5 => ?_)
  (try rw [hi_mkO, up1_ne _ _ (by omega)] at e_5)
  subst e_5
  refine wp_callS d_35_8 c_35_107 rfl (by rfl) (by rfl) (by exact Nat.le_of_ble_eq_true rfl) (by exact Nat.le_of_ble_eq_true rfl) (s_needIndex hc.1 hc.2 (by omega)) (fun v_8 h_8 q_8 => ?_) (fun _ _ q => q.elim)
  obtain ⟨rfl, z_8⟩ := q_8
  replace z_8 := z_8.symm
  subst z_8
  refine wp_aload_n d_35_11 (by rfl) ?_
  refine wp_iload_n d_35_12 (by rfl) ?_
  refine wp_callV d_35_13 c_35_77 rfl (by rfl) (by rfl) ⟨0, rfl, rfl, by decide⟩ (by first | assumption | (rw [kd_mkO, up1_same])) (by exact Nat.le_of_ble_eq_true rfl) (by exact Nat.le_of_ble_eq_true rfl) (s_needStop hS9 hs hn.2) (fun v_13 h_13 q_13 => ?_) (fun _ _ q => q.elim)
  obtain ⟨rfl, z_13⟩ := q_13
  replace z_13 := z_13.symm
  subst z_13
  refine wp_iload_n d_35_16 (by rfl) ?_
  refine wp_iconst d_35_17 ?_
  refine wp_sipush d_35_18 (by decide) ?_
  refine wp_callS d_35_21 c_35_58 rfl (by rfl) (by rfl) (by exact Nat.le_of_ble_eq_true rfl) (by exact Nat.le_of_ble_eq_true rfl) (s_isW (by omega) (by omega) (by omega)) (fun v_21 h_21 q_21 => ?_) (fun _ _ q => q.elim)
  obtain ⟨z_21, rfl, y_21, u_21⟩ := q_21
  replace y_21 := y_21.symm
  subst y_21
  refine wp_if_eq (tgt := 43) d_35_24 (by decide) (by omega) (fun c_24 => ?_) (fun c_24 => ?_)
  · exact absurd c_24 (by omega)
  refine wp_iload d_35_27 (by rfl) ?_
  refine wp_iconst d_35_29 ?_
  refine wp_sipush d_35_30 (by decide) ?_
  refine wp_callS d_35_33 c_35_58 rfl (by rfl) (by rfl) (by exact Nat.le_of_ble_eq_true rfl) (by exact Nat.le_of_ble_eq_true rfl) (s_isW (by omega) (by omega) (by omega)) (fun v_33 h_33 q_33 => ?_) (fun _ _ q => q.elim)
  obtain ⟨z_33, rfl, y_33, u_33⟩ := q_33
  replace y_33 := y_33.symm
  subst y_33
  refine wp_if_eq (tgt := 43) d_35_36 (by decide) (by omega) (fun c_36 => ?_) (fun c_36 => ?_)
  · exact absurd c_36 (by omega)
  refine wp_iconst d_35_39 ?_
  refine wp_goto (tgt := 44) d_35_40 (by decide) ?_
  refine wp_callS d_35_44 c_35_62 rfl (by rfl) (by rfl) (by exact Nat.le_of_ble_eq_true rfl) (by exact Nat.le_of_ble_eq_true rfl) (s_needArgument (by omega)) (fun v_44 h_44 q_44 => ?_) (fun _ _ q => q.elim)
  obtain ⟨rfl, z_44⟩ := q_44
  replace z_44 := z_44.symm
  subst z_44
  refine wp_aload_n d_35_47 (by rfl) ?_
  refine wp_getR (0) d_35_48 fl_0_12 rfl rfl (by first | assumption | (rw [kd_mkO, up1_same])) (by first | assumption | (simp only [hr_setI]; assumption)) ?_
  refine wp_getI (7) d_35_51 fl_0_117 rfl rfl (by first | assumption | (rw [kd_mkO, up1_same])) (fun x_51 e_51 r_51 => ?_)
  (try rw [hi_mkO, up1_ne _ _ (by omega)] at e_51)
  subst e_51
  refine wp_bipush d_35_54 (by decide) ?_
  refine wp_icmp_ge (tgt := 63) d_35_56 (by decide) (by omega) (by omega) (fun c_56 => ?_) (fun c_56 => ?_)
  · exact absurd c_56 (by omega)
  refine wp_iconst d_35_59 ?_
  refine wp_goto (tgt := 64) d_35_60 (by decide) ?_
  refine wp_callS d_35_64 c_35_70 rfl (by rfl) (by rfl) (by exact Nat.le_of_ble_eq_true rfl) (by exact Nat.le_of_ble_eq_true rfl) (s_needState (by omega)) (fun v_64 h_64 q_64 => ?_) (fun _ _ q => q.elim)
  obtain ⟨rfl, z_64⟩ := q_64
  replace z_64 := z_64.symm
  subst z_64
  refine wp_new (ci := 11) d_35_67 cl_0_120 ci11 ⟨_, rfl⟩ (by decide) (by omega) (by omega) ?_
  have mo1 : ∀ b k, b < nx h → hr (mkO h (11 + 1) 8) b k = hr h b k := fun b k z => by rw [hr_mkO, up1_ne _ _ (by omega)]
  have mo2 : ∀ b, b < nx h → kd (mkO h (11 + 1) 8) b = kd h b := fun b z => by rw [kd_mkO, up1_ne _ _ (by omega)]
  have mo3 : ∀ b, b < nx h → ln (mkO h (11 + 1) 8) b = ln h b := fun b z => by rw [ln_mkO, up1_ne _ _ (by omega)]
  have mr1 : hr (mkO h (11 + 1) ((8 : Nat) : Int)) w 0 = some (w + 1) := (mo1 _ _ (by omega)).trans k2
  have mr2 : hr (mkO h (11 + 1) ((8 : Nat) : Int)) (w + 1) 2 = some (w + 4) := (mo1 _ _ (by omega)).trans n4
  have mr3 : hr (mkO h (11 + 1) ((8 : Nat) : Int)) (w + 4) c = some (caA h w c) := (mo1 _ _ (by omega)).trans cr
  have mk1 : kd (mkO h (11 + 1) ((8 : Nat) : Int)) w = 1 := (mo2 _ (by omega)).trans k1
  have mk2 : kd (mkO h (11 + 1) ((8 : Nat) : Int)) (w + 1) = 8 := (mo2 _ (by omega)).trans n1
  have mk3 : kd (mkO h (11 + 1) ((8 : Nat) : Int)) (w + 4) = 105 := (mo2 _ (by omega)).trans n10
  have ml3 : ln (mkO h (11 + 1) ((8 : Nat) : Int)) (w + 4) = 6 := (mo3 _ (by omega)).trans n11
  refine wp_dup d_35_70 (by rfl) ?_
  refine wp_aload_n d_35_71 (by rfl) ?_
  refine wp_getR (0) d_35_72 fl_0_12 rfl rfl (by first | assumption | (rw [kd_mkO, up1_same])) (by first | assumption | (simp only [hr_setI]; assumption)) ?_
  refine wp_getI (7) d_35_75 fl_0_117 rfl rfl (by first | assumption | (rw [kd_mkO, up1_same])) (fun x_75 e_75 r_75 => ?_)
  (try rw [hi_mkO, up1_ne _ _ (by omega)] at e_75)
  subst e_75
  refine wp_aload_n d_35_78 (by rfl) ?_
  refine wp_getR (0) d_35_79 fl_0_12 rfl rfl (by first | assumption | (rw [kd_mkO, up1_same])) (by first | assumption | (simp only [hr_setI]; assumption)) ?_
  refine wp_getR (2) d_35_82 fl_0_100 rfl rfl (by first | assumption | (rw [kd_mkO, up1_same])) (by first | assumption | (simp only [hr_setI]; assumption)) ?_
  refine wp_iload_n d_35_85 (by rfl) ?_
  refine wp_aald d_35_86 (by first | omega | (simp only [kd_setI, kd_cpI]; omega)) (by first | omega | (simp only [kd_setI, kd_cpI]; omega)) (by apply isRf_of; assumption; rfl) (by omega) (by omega) (by first | assumption | (simp only [hr_setI]; assumption)) ?_
  refine wp_iload_n d_35_87 (by rfl) ?_
  refine wp_callI d_35_88 c_35_122 rfl rfl (by rfl) (by rfl) (by exact Nat.le_of_ble_eq_true rfl) (by exact Nat.le_of_ble_eq_true rfl) (s_TrInit (by omega) (by omega) (by omega) (by omega)) (fun v_88 h_88 q_88 => ?_) (fun _ _ q => q.elim)
  obtain ⟨rfl, f⟩ := q_88
  refine wp_to [some (vR (some w)), some (vI c), some (vI p), some (vI s), some (vI dp), none] ⟨rfl, rfl, rfl, rfl, rfl, trivial⟩ ?_
  have e1 := f.1
  refine wp_mono (fun v h' y => ?_) (fun _ _ y => y) (l_addTrip2 (by omega) f ((e1.2.1 _ (by omega)).1.trans k1) ((e1.2.2.2.1 _ _ (by omega) (fun z => z)).trans k2) ((e1.2.1 _ (by omega)).1.trans n1) ((e1.2.2.2.1 _ _ (by omega) (fun z => z)).trans n5) ((e1.2.1 _ (by omega)).1.trans n12) ((e1.2.1 _ (by omega)).2.trans n13) (e1.2.2.1 _ 7 (by omega) (fun z => z)) ⟨by omega, by omega⟩ ⟨by omega, by omega⟩ hd)
  exact ⟨y.1, _, f, y.2⟩
set_option maxRecDepth 100000 in
set_option maxHeartbeats 4000000 in
theorem s_addCall {w Y X : Nat} {h : Hp} (hS : Sk h w) (q : GT h w Y X) {t s x y : Int} (h0 : 0 ≤ t ∧ t < hi h (w + 1) 7) (hs : 0 ≤ s ∧ s < hi h (w + 1) 4) (hx : hi h (adT h w t + 3) (hi h (adT h w t) 7 - 1) ≤ x ∧ x ≤ y ∧ y ≤ 2879) (hz : hi h (adT h w t) 7 < 8) : wp 36 0 (entL [vR (some w), vI t, vI s, vI x, vI y] (mL 36)) [] h (fun v h' => v = some (vI (hi h (adT h w t) 7)) ∧ h' = apT h (adT h w t) s x y) noX := by
  have hS9 := hS
  have hT := q.1
  have hX := hT.2.2.2.2.2.2
  have hn := hT.1
  have hn5 := hT.2.1
  have hn7 := hT.2.2.1
  have hn6 := q.2.2.1
  obtain ⟨⟨k1, k2, k3, k4, k5, k6, k7⟩, ⟨n1, ⟨n2, n3, n4, n5⟩, ⟨n6, n7⟩, ⟨n8, n9⟩, ⟨n10, n11⟩, n12, n13⟩, ⟨m1, ⟨m2, m3, m4⟩, ⟨m5, m6⟩, ⟨m7, m8⟩, m9, m10⟩, ⟨o1, ⟨o2, o3, o4⟩, ⟨o5, o6, o7⟩, ⟨o8, o9, o10⟩, o11, o12⟩, ⟨b1, ⟨b2, b3⟩, ⟨b4, b5, b6⟩, b7, b8, b9⟩, ⟨j1, ⟨j2, j3, j4, j5, j6, j7, j8⟩, ⟨j9, j10⟩, j11⟩⟩ := hS
  obtain ⟨ct, g1, g2, g3, gT, g5, gc, g6, g7, gC⟩ := adT_of hT (t := t) (by omega) (by omega)
  have hT0 := gT
  obtain ⟨tk1, ⟨u1, u2, u3, u4⟩, ⟨⟨v1, v2⟩, ⟨v3, v4⟩, ⟨v5, v6⟩, v7, v8⟩, t4, t5, t6, t7, t8⟩ := gT
  have tl := t5 (hi h (adT h w t) 7 - 1) (by omega) (by omega)
  refine wp_aload_n d_36_0 (by rfl) ?_
  refine wp_iload_n d_36_1 (by rfl) ?_
  refine wp_callV d_36_2 c_36_135 rfl (by rfl) (by rfl) ⟨0, rfl, rfl, by decide⟩ (by assumption) (by exact Nat.le_of_ble_eq_true rfl) (by exact Nat.le_of_ble_eq_true rfl) (s_needTrip hS9 h0 hn7.2) (fun v_2 h_2 q_2 => ?_) (fun _ _ q => q.elim)
  obtain ⟨rfl, z_2⟩ := q_2
  replace z_2 := z_2.symm
  subst z_2
  refine wp_aload_n d_36_5 (by rfl) ?_
  refine wp_iload_n d_36_6 (by rfl) ?_
  refine wp_callV d_36_7 c_36_77 rfl (by rfl) (by rfl) ⟨0, rfl, rfl, by decide⟩ (by assumption) (by exact Nat.le_of_ble_eq_true rfl) (by exact Nat.le_of_ble_eq_true rfl) (s_needStop hS9 hs hn.2) (fun v_7 h_7 q_7 => ?_) (fun _ _ q => q.elim)
  obtain ⟨rfl, z_7⟩ := q_7
  replace z_7 := z_7.symm
  subst z_7
  refine wp_aload_n d_36_10 (by rfl) ?_
  refine wp_getR (0) d_36_11 fl_0_12 rfl rfl (by assumption) (by assumption) ?_
  refine wp_getR (3) d_36_14 fl_0_128 rfl rfl (by assumption) (by assumption) ?_
  refine wp_iload_n d_36_17 (by rfl) ?_
  refine wp_aald d_36_18 (by first | omega | (simp only [kd_setI, kd_cpI]; omega)) (by first | omega | (simp only [kd_setI, kd_cpI]; omega)) (by apply isRf_of; assumption; rfl) (by omega) (by omega) (by assumption) ?_
  refine wp_astore d_36_19 (by decide) ?_
  refine wp_iload_n d_36_21 (by rfl) ?_
  refine wp_aload d_36_22 (by rfl) ?_
  refine wp_callV d_36_24 c_36_138 rfl (by rfl) (by rfl) ⟨11, rfl, rfl, by decide⟩ (by assumption) (by exact Nat.le_of_ble_eq_true rfl) (by exact Nat.le_of_ble_eq_true rfl) (s_lastDeparts hT0) (fun v_24 h_24 q_24 => ?_) (fun _ _ q => q.elim)
  obtain ⟨rfl, z_24⟩ := q_24
  replace z_24 := z_24.symm
  subst z_24
  refine wp_icmp_lt (tgt := 48) d_36_27 (by decide) (by omega) (by omega) (fun c_27 => ?_) (fun c_27 => ?_)
  · exact absurd c_27 (by omega)
  refine wp_iload d_36_30 (by rfl) ?_
  refine wp_iload_n d_36_32 (by rfl) ?_
  refine wp_icmp_lt (tgt := 48) d_36_33 (by decide) (by omega) (by omega) (fun c_33 => ?_) (fun c_33 => ?_)
  · exact absurd c_33 (by omega)
  refine wp_iload d_36_36 (by rfl) ?_
  refine wp_sipush d_36_38 (by decide) ?_
  refine wp_icmp_gt (tgt := 48) d_36_41 (by decide) (by omega) (by omega) (fun c_41 => ?_) (fun c_41 => ?_)
  · exact absurd c_41 (by omega)
  refine wp_iconst d_36_44 ?_
  refine wp_goto (tgt := 49) d_36_45 (by decide) ?_
  refine wp_callS d_36_49 c_36_62 rfl (by rfl) (by rfl) (by exact Nat.le_of_ble_eq_true rfl) (by exact Nat.le_of_ble_eq_true rfl) (s_needArgument (by omega)) (fun v_49 h_49 q_49 => ?_) (fun _ _ q => q.elim)
  obtain ⟨rfl, z_49⟩ := q_49
  replace z_49 := z_49.symm
  subst z_49
  refine wp_aload d_36_52 (by rfl) ?_
  refine wp_getI (7) d_36_54 fl_0_142 rfl rfl (by assumption) (fun x_54 e_54 r_54 => ?_)
  (try rw [apz] at e_54)
  subst e_54
  refine wp_bipush d_36_57 (by decide) ?_
  refine wp_icmp_ge (tgt := 66) d_36_59 (by decide) (by omega) (by omega) (fun c_59 => ?_) (fun c_59 => ?_)
  · exact absurd c_59 (by omega)
  refine wp_iconst d_36_62 ?_
  refine wp_goto (tgt := 67) d_36_63 (by decide) ?_
  refine wp_callS d_36_67 c_36_70 rfl (by rfl) (by rfl) (by exact Nat.le_of_ble_eq_true rfl) (by exact Nat.le_of_ble_eq_true rfl) (s_needState (by omega)) (fun v_67 h_67 q_67 => ?_) (fun _ _ q => q.elim)
  obtain ⟨rfl, z_67⟩ := q_67
  replace z_67 := z_67.symm
  subst z_67
  refine wp_aload d_36_70 (by rfl) ?_
  refine wp_iload_n d_36_72 (by rfl) ?_
  refine wp_iload_n d_36_73 (by rfl) ?_
  refine wp_iload d_36_74 (by rfl) ?_
  refine wp_callV d_36_76 c_36_125 rfl (by rfl) (by rfl) ⟨11, rfl, rfl, by decide⟩ (by assumption) (by exact Nat.le_of_ble_eq_true rfl) (by exact Nat.le_of_ble_eq_true rfl) (s_append tk1 ⟨u1, u2, u3⟩ ⟨⟨v1, v2⟩, ⟨v3, v4⟩, v5, v6⟩ (by omega) (by omega) (by omega) (by omega)) (fun v_76 h_76 q_76 => ?_) (fun _ _ q => q.elim)
  obtain ⟨rfl, z_76⟩ := q_76
  replace z_76 := z_76.symm
  subst z_76
  have apz : hi (apT h (adT h w t) s x y) (adT h w t) 7 = hi h (adT h w t) 7 + 1 := by unfold apT; rw [hi_upF, upF_same]
  have kapa : kd (apT h (adT h w t) s x y) (adT h w t) = 12 := tk1
  refine wp_aload d_36_79 (by rfl) ?_
  refine wp_getI (7) d_36_81 fl_0_142 rfl rfl (by assumption) (fun x_81 e_81 r_81 => ?_)
  (try rw [apz] at e_81)
  subst e_81
  refine wp_iconst d_36_84 ?_
  refine wp_isub d_36_85 ?_
  refine wp_iret d_36_86 rfl ?_
  exact ⟨congrArg (fun z => some (vI z)) (by omega), rfl⟩
set_option maxRecDepth 100000 in
set_option maxHeartbeats 4000000 in
theorem s_calls {w Y X : Nat} {h : Hp} (hS : Sk h w) (q : GT h w Y X) {t : Int} (h0 : 0 ≤ t ∧ t < hi h (w + 1) 7) : wp 37 0 (entL [vR (some w), vI t] (mL 37)) [] h (fun v h' => v = some (vI (hi h (adT h w t) 7)) ∧ h' = h) noX := by
  have hS9 := hS
  have hT := q.1
  have hX := hT.2.2.2.2.2.2
  have hn := hT.1
  have hn5 := hT.2.1
  have hn7 := hT.2.2.1
  have hn6 := q.2.2.1
  obtain ⟨⟨k1, k2, k3, k4, k5, k6, k7⟩, ⟨n1, ⟨n2, n3, n4, n5⟩, ⟨n6, n7⟩, ⟨n8, n9⟩, ⟨n10, n11⟩, n12, n13⟩, ⟨m1, ⟨m2, m3, m4⟩, ⟨m5, m6⟩, ⟨m7, m8⟩, m9, m10⟩, ⟨o1, ⟨o2, o3, o4⟩, ⟨o5, o6, o7⟩, ⟨o8, o9, o10⟩, o11, o12⟩, ⟨b1, ⟨b2, b3⟩, ⟨b4, b5, b6⟩, b7, b8, b9⟩, ⟨j1, ⟨j2, j3, j4, j5, j6, j7, j8⟩, ⟨j9, j10⟩, j11⟩⟩ := hS
  obtain ⟨ct, g1, g2, g3, gT, g5, gc, g6, g7, gC⟩ := adT_of hT (t := t) (by omega) (by omega)
  have hT0 := gT
  obtain ⟨tk1, ⟨u1, u2, u3, u4⟩, ⟨⟨v1, v2⟩, ⟨v3, v4⟩, ⟨v5, v6⟩, v7, v8⟩, t4, t5, t6, t7, t8⟩ := gT
  refine wp_aload_n d_37_0 (by rfl) ?_
  refine wp_iload_n d_37_1 (by rfl) ?_
  refine wp_callV d_37_2 c_37_135 rfl (by rfl) (by rfl) ⟨0, rfl, rfl, by decide⟩ (by assumption) (by exact Nat.le_of_ble_eq_true rfl) (by exact Nat.le_of_ble_eq_true rfl) (s_needTrip hS9 h0 hn7.2) (fun v_2 h_2 q_2 => ?_) (fun _ _ q => q.elim)
  obtain ⟨rfl, z_2⟩ := q_2
  replace z_2 := z_2.symm
  subst z_2
  refine wp_aload_n d_37_5 (by rfl) ?_
  refine wp_getR (0) d_37_6 fl_0_12 rfl rfl (by assumption) (by assumption) ?_
  refine wp_getR (3) d_37_9 fl_0_128 rfl rfl (by assumption) (by assumption) ?_
  refine wp_iload_n d_37_12 (by rfl) ?_
  refine wp_aald d_37_13 (by first | omega | (simp only [kd_setI, kd_cpI]; omega)) (by first | omega | (simp only [kd_setI, kd_cpI]; omega)) (by apply isRf_of; assumption; rfl) (by omega) (by omega) (by assumption) ?_
  refine wp_getI (7) d_37_14 fl_0_142 rfl rfl (by assumption) (fun x_14 e_14 r_14 => ?_)
  subst e_14
  refine wp_iret d_37_17 rfl ?_
  exact ⟨rfl, rfl⟩
set_option maxRecDepth 100000 in
set_option maxHeartbeats 4000000 in
theorem s_late {w Y X : Nat} {h : Hp} (hS : Sk h w) (q : GT h w Y X) {t d x : Int} (h0 : 0 ≤ t ∧ t < hi h (w + 1) 7) (hd : 0 ≤ d ∧ d ≤ 365) (hx : 0 ≤ x ∧ x ≤ 180) : wp 39 0 (entL [vR (some w), vI t, vI d, vI x] (mL 39)) [] h (fun v h' => v = some (vI (hi h (adT h w t + 4) d)) ∧ h' = setI h (adT h w t + 4) d x) noX := by
  have hS9 := hS
  have hT := q.1
  have hX := hT.2.2.2.2.2.2
  have hn := hT.1
  have hn5 := hT.2.1
  have hn7 := hT.2.2.1
  have hn6 := q.2.2.1
  obtain ⟨⟨k1, k2, k3, k4, k5, k6, k7⟩, ⟨n1, ⟨n2, n3, n4, n5⟩, ⟨n6, n7⟩, ⟨n8, n9⟩, ⟨n10, n11⟩, n12, n13⟩, ⟨m1, ⟨m2, m3, m4⟩, ⟨m5, m6⟩, ⟨m7, m8⟩, m9, m10⟩, ⟨o1, ⟨o2, o3, o4⟩, ⟨o5, o6, o7⟩, ⟨o8, o9, o10⟩, o11, o12⟩, ⟨b1, ⟨b2, b3⟩, ⟨b4, b5, b6⟩, b7, b8, b9⟩, ⟨j1, ⟨j2, j3, j4, j5, j6, j7, j8⟩, ⟨j9, j10⟩, j11⟩⟩ := hS
  obtain ⟨ct, g1, g2, g3, gT, g5, gc, g6, g7, gC⟩ := adT_of hT (t := t) (by omega) (by omega)
  have hT0 := gT
  obtain ⟨tk1, ⟨u1, u2, u3, u4⟩, ⟨⟨v1, v2⟩, ⟨v3, v4⟩, ⟨v5, v6⟩, v7, v8⟩, t4, t5, t6, t7, t8⟩ := gT
  refine wp_aload_n d_39_0 (by rfl) ?_
  refine wp_iload_n d_39_1 (by rfl) ?_
  refine wp_callV d_39_2 c_39_135 rfl (by rfl) (by rfl) ⟨0, rfl, rfl, by decide⟩ (by assumption) (by exact Nat.le_of_ble_eq_true rfl) (by exact Nat.le_of_ble_eq_true rfl) (s_needTrip hS9 h0 hn7.2) (fun v_2 h_2 q_2 => ?_) (fun _ _ q => q.elim)
  obtain ⟨rfl, z_2⟩ := q_2
  replace z_2 := z_2.symm
  subst z_2
  refine wp_iload_n d_39_5 (by rfl) ?_
  refine wp_callS d_39_6 c_39_93 rfl (by rfl) (by rfl) (by exact Nat.le_of_ble_eq_true rfl) (by exact Nat.le_of_ble_eq_true rfl) (s_isD (by omega)) (fun v_6 h_6 q_6 => ?_) (fun _ _ q => q.elim)
  obtain ⟨z_6, rfl, y_6, u_6⟩ := q_6
  replace y_6 := y_6.symm
  subst y_6
  refine wp_if_eq (tgt := 27) d_39_9 (by decide) (by omega) (fun c_9 => ?_) (fun c_9 => ?_)
  · exact absurd c_9 (by omega)
  refine wp_iload_n d_39_12 (by rfl) ?_
  refine wp_iconst d_39_13 ?_
  refine wp_sipush d_39_14 (by decide) ?_
  refine wp_callS d_39_17 c_39_58 rfl (by rfl) (by rfl) (by exact Nat.le_of_ble_eq_true rfl) (by exact Nat.le_of_ble_eq_true rfl) (s_isW (by omega) (by omega) (by omega)) (fun v_17 h_17 q_17 => ?_) (fun _ _ q => q.elim)
  obtain ⟨z_17, rfl, y_17, u_17⟩ := q_17
  replace y_17 := y_17.symm
  subst y_17
  refine wp_if_eq (tgt := 27) d_39_20 (by decide) (by omega) (fun c_20 => ?_) (fun c_20 => ?_)
  · exact absurd c_20 (by omega)
  refine wp_iconst d_39_23 ?_
  refine wp_goto (tgt := 28) d_39_24 (by decide) ?_
  refine wp_callS d_39_28 c_39_62 rfl (by rfl) (by rfl) (by exact Nat.le_of_ble_eq_true rfl) (by exact Nat.le_of_ble_eq_true rfl) (s_needArgument (by omega)) (fun v_28 h_28 q_28 => ?_) (fun _ _ q => q.elim)
  obtain ⟨rfl, z_28⟩ := q_28
  replace z_28 := z_28.symm
  subst z_28
  refine wp_aload_n d_39_31 (by rfl) ?_
  refine wp_getR (0) d_39_32 fl_0_12 rfl rfl (by assumption) (by assumption) ?_
  refine wp_getR (3) d_39_35 fl_0_128 rfl rfl (by assumption) (by assumption) ?_
  refine wp_iload_n d_39_38 (by rfl) ?_
  refine wp_aald d_39_39 (by first | omega | (simp only [kd_setI, kd_cpI]; omega)) (by first | omega | (simp only [kd_setI, kd_cpI]; omega)) (by apply isRf_of; assumption; rfl) (by omega) (by omega) (by assumption) ?_
  refine wp_getR (6) d_39_40 fl_0_148 rfl rfl (by assumption) (by assumption) ?_
  refine wp_iload_n d_39_43 (by rfl) ?_
  refine wp_iald d_39_44 (Or.inl (by assumption)) (by omega) (by omega) (fun x_44 e_44 r_44 => ?_)
  subst e_44
  refine wp_istore d_39_45 (by decide) ?_
  refine wp_aload_n d_39_47 (by rfl) ?_
  refine wp_getR (0) d_39_48 fl_0_12 rfl rfl (by assumption) (by assumption) ?_
  refine wp_getR (3) d_39_51 fl_0_128 rfl rfl (by assumption) (by assumption) ?_
  refine wp_iload_n d_39_54 (by rfl) ?_
  refine wp_aald d_39_55 (by first | omega | (simp only [kd_setI, kd_cpI]; omega)) (by first | omega | (simp only [kd_setI, kd_cpI]; omega)) (by apply isRf_of; assumption; rfl) (by omega) (by omega) (by assumption) ?_
  refine wp_getR (6) d_39_56 fl_0_148 rfl rfl (by assumption) (by assumption) ?_
  refine wp_iload_n d_39_59 (by rfl) ?_
  refine wp_iload_n d_39_60 (by rfl) ?_
  refine wp_iast d_39_61 (by assumption) (by omega) (by omega) (by omega) ?_
  refine wp_iload d_39_62 (by rfl) ?_
  refine wp_iret d_39_64 rfl ?_
  exact ⟨rfl, rfl⟩
set_option maxRecDepth 100000 in
set_option maxHeartbeats 4000000 in
theorem s_cancel {w Y X : Nat} {h : Hp} (hS : Sk h w) (q : GT h w Y X) {t d : Int} (h0 : 0 ≤ t ∧ t < hi h (w + 1) 7) (hd : 0 ≤ d ∧ d ≤ 365) : wp 38 0 (entL [vR (some w), vI t, vI d] (mL 38)) [] h (fun v h' => ∃ z, v = some (vI z) ∧ ((z = 1 ∧ hasRn h (adT h w t) d) ∨ (z = 0 ∧ ¬ hasRn h (adT h w t) d)) ∧ h' = setI h (adT h w t + 4) d (-1)) noX := by
  have hS9 := hS
  have hT := q.1
  have hX := hT.2.2.2.2.2.2
  have hn := hT.1
  have hn5 := hT.2.1
  have hn7 := hT.2.2.1
  have hn6 := q.2.2.1
  obtain ⟨⟨k1, k2, k3, k4, k5, k6, k7⟩, ⟨n1, ⟨n2, n3, n4, n5⟩, ⟨n6, n7⟩, ⟨n8, n9⟩, ⟨n10, n11⟩, n12, n13⟩, ⟨m1, ⟨m2, m3, m4⟩, ⟨m5, m6⟩, ⟨m7, m8⟩, m9, m10⟩, ⟨o1, ⟨o2, o3, o4⟩, ⟨o5, o6, o7⟩, ⟨o8, o9, o10⟩, o11, o12⟩, ⟨b1, ⟨b2, b3⟩, ⟨b4, b5, b6⟩, b7, b8, b9⟩, ⟨j1, ⟨j2, j3, j4, j5, j6, j7, j8⟩, ⟨j9, j10⟩, j11⟩⟩ := hS
  obtain ⟨ct, g1, g2, g3, gT, g5, gc, g6, g7, gC⟩ := adT_of hT (t := t) (by omega) (by omega)
  have hT0 := gT
  obtain ⟨tk1, ⟨u1, u2, u3, u4⟩, ⟨⟨v1, v2⟩, ⟨v3, v4⟩, ⟨v5, v6⟩, v7, v8⟩, t4, t5, t6, t7, t8⟩ := gT
  refine wp_aload_n d_38_0 (by rfl) ?_
  refine wp_iload_n d_38_1 (by rfl) ?_
  refine wp_callV d_38_2 c_38_135 rfl (by rfl) (by rfl) ⟨0, rfl, rfl, by decide⟩ (by assumption) (by exact Nat.le_of_ble_eq_true rfl) (by exact Nat.le_of_ble_eq_true rfl) (s_needTrip hS9 h0 hn7.2) (fun v_2 h_2 q_2 => ?_) (fun _ _ q => q.elim)
  obtain ⟨rfl, z_2⟩ := q_2
  replace z_2 := z_2.symm
  subst z_2
  refine wp_iload_n d_38_5 (by rfl) ?_
  refine wp_callS d_38_6 c_38_93 rfl (by rfl) (by rfl) (by exact Nat.le_of_ble_eq_true rfl) (by exact Nat.le_of_ble_eq_true rfl) (s_isD (by omega)) (fun v_6 h_6 q_6 => ?_) (fun _ _ q => q.elim)
  obtain ⟨z_6, rfl, y_6, u_6⟩ := q_6
  replace y_6 := y_6.symm
  subst y_6
  refine wp_callS d_38_9 c_38_62 rfl (by rfl) (by rfl) (by exact Nat.le_of_ble_eq_true rfl) (by exact Nat.le_of_ble_eq_true rfl) (s_needArgument (by omega)) (fun v_9 h_9 q_9 => ?_) (fun _ _ q => q.elim)
  obtain ⟨rfl, z_9⟩ := q_9
  replace z_9 := z_9.symm
  subst z_9
  refine wp_aload_n d_38_12 (by rfl) ?_
  refine wp_getR (0) d_38_13 fl_0_12 rfl rfl (by assumption) (by assumption) ?_
  refine wp_getR (3) d_38_16 fl_0_128 rfl rfl (by assumption) (by assumption) ?_
  refine wp_iload_n d_38_19 (by rfl) ?_
  refine wp_aald d_38_20 (by first | omega | (simp only [kd_setI, kd_cpI]; omega)) (by first | omega | (simp only [kd_setI, kd_cpI]; omega)) (by apply isRf_of; assumption; rfl) (by omega) (by omega) (by assumption) ?_
  refine wp_iload_n d_38_21 (by rfl) ?_
  refine wp_callV d_38_22 c_38_151 rfl (by rfl) (by rfl) ⟨11, rfl, rfl, by decide⟩ (by assumption) (by exact Nat.le_of_ble_eq_true rfl) (by exact Nat.le_of_ble_eq_true rfl) (s_hasRun hT0 gc gC (by omega)) (fun v_22 h_22 q_22 => ?_) (fun _ _ q => q.elim)
  obtain ⟨z_22, rfl, y_22, u_22⟩ := q_22
  replace y_22 := y_22.symm
  subst y_22
  have zz_22 : z_22 = 0 ∨ z_22 = 1 := by rcases u_22 with ⟨y, -⟩ | ⟨y, -⟩ <;> omega
  refine wp_istore_n d_38_25 (by decide) ?_
  refine wp_aload_n d_38_26 (by rfl) ?_
  refine wp_getR (0) d_38_27 fl_0_12 rfl rfl (by assumption) (by assumption) ?_
  refine wp_getR (3) d_38_30 fl_0_128 rfl rfl (by assumption) (by assumption) ?_
  refine wp_iload_n d_38_33 (by rfl) ?_
  refine wp_aald d_38_34 (by first | omega | (simp only [kd_setI, kd_cpI]; omega)) (by first | omega | (simp only [kd_setI, kd_cpI]; omega)) (by apply isRf_of; assumption; rfl) (by omega) (by omega) (by assumption) ?_
  refine wp_getR (6) d_38_35 fl_0_148 rfl rfl (by assumption) (by assumption) ?_
  refine wp_iload_n d_38_38 (by rfl) ?_
  refine wp_iconst d_38_39 ?_
  refine wp_iast d_38_40 (by assumption) (by omega) (by omega) (by omega) ?_
  refine wp_iload_n d_38_41 (by rfl) ?_
  refine wp_zret d_38_42 rfl (by omega) ?_
  exact ⟨_, rfl, u_22, rfl⟩
set_option maxRecDepth 100000 in
set_option maxHeartbeats 4000000 in
theorem s_except {w Y X : Nat} {h : Hp} (hS : Sk h w) (q : GT h w Y X) {c d z : Int} (h0 : 0 ≤ c ∧ c < hi h (w + 1) 6) (hd : 0 ≤ d ∧ d ≤ 365) (hz : z = 0 ∨ z = 1) : wp 31 0 (entL [vR (some w), vI c, vI d, vI z] (mL 31)) [] h (fun v h' => ∃ b, v = some (vI b) ∧ ((b = 1 ∧ isRun h (caA h w c) d) ∨ (b = 0 ∧ ¬ isRun h (caA h w c) d)) ∧ ((z = 1 ∧ h' = setI h (caA h w c + 1) d 1) ∨ (z = 0 ∧ h' = setI h (caA h w c + 1) d 2))) noX := by
  have hS9 := hS
  have hT := q.1
  have hX := hT.2.2.2.2.2.2
  have hn := hT.1
  have hn5 := hT.2.1
  have hn7 := hT.2.2.1
  have hn6 := q.2.2.1
  obtain ⟨⟨k1, k2, k3, k4, k5, k6, k7⟩, ⟨n1, ⟨n2, n3, n4, n5⟩, ⟨n6, n7⟩, ⟨n8, n9⟩, ⟨n10, n11⟩, n12, n13⟩, ⟨m1, ⟨m2, m3, m4⟩, ⟨m5, m6⟩, ⟨m7, m8⟩, m9, m10⟩, ⟨o1, ⟨o2, o3, o4⟩, ⟨o5, o6, o7⟩, ⟨o8, o9, o10⟩, o11, o12⟩, ⟨b1, ⟨b2, b3⟩, ⟨b4, b5, b6⟩, b7, b8, b9⟩, ⟨j1, ⟨j2, j3, j4, j5, j6, j7, j8⟩, ⟨j9, j10⟩, j11⟩⟩ := hS
  obtain ⟨cr, cb, ck⟩ := q.2.2.2.1 c h0.1 h0.2
  have ck0 := ck
  obtain ⟨e1_, e2_, e3_, e4_⟩ := ck0
  refine wp_iload_n d_31_0 (by rfl) ?_
  refine wp_aload_n d_31_1 (by rfl) ?_
  refine wp_getR (0) d_31_2 fl_0_12 rfl rfl (by assumption) (by assumption) ?_
  refine wp_getI (6) d_31_5 fl_0_97 rfl rfl (by assumption) (fun x_5 e_5 r_5 => ?_)
  subst e_5
  refine wp_callS d_31_8 c_31_107 rfl (by rfl) (by rfl) (by exact Nat.le_of_ble_eq_true rfl) (by exact Nat.le_of_ble_eq_true rfl) (s_needIndex h0.1 h0.2 (by omega)) (fun v_8 h_8 q_8 => ?_) (fun _ _ q => q.elim)
  obtain ⟨rfl, z_8⟩ := q_8
  replace z_8 := z_8.symm
  subst z_8
  refine wp_iload_n d_31_11 (by rfl) ?_
  refine wp_callS d_31_12 c_31_93 rfl (by rfl) (by rfl) (by exact Nat.le_of_ble_eq_true rfl) (by exact Nat.le_of_ble_eq_true rfl) (s_isD (by omega)) (fun v_12 h_12 q_12 => ?_) (fun _ _ q => q.elim)
  obtain ⟨z_12, rfl, y_12, u_12⟩ := q_12
  replace y_12 := y_12.symm
  subst y_12
  refine wp_callS d_31_15 c_31_62 rfl (by rfl) (by rfl) (by exact Nat.le_of_ble_eq_true rfl) (by exact Nat.le_of_ble_eq_true rfl) (s_needArgument (by omega)) (fun v_15 h_15 q_15 => ?_) (fun _ _ q => q.elim)
  obtain ⟨rfl, z_15⟩ := q_15
  replace z_15 := z_15.symm
  subst z_15
  refine wp_aload_n d_31_18 (by rfl) ?_
  refine wp_getR (0) d_31_19 fl_0_12 rfl rfl (by assumption) (by assumption) ?_
  refine wp_getR (2) d_31_22 fl_0_100 rfl rfl (by assumption) (by assumption) ?_
  refine wp_iload_n d_31_25 (by rfl) ?_
  refine wp_aald d_31_26 (by first | omega | (simp only [kd_setI, kd_cpI]; omega)) (by first | omega | (simp only [kd_setI, kd_cpI]; omega)) (by apply isRf_of; assumption; rfl) (by omega) (by omega) (by assumption) ?_
  refine wp_astore d_31_27 (by decide) ?_
  refine wp_aload d_31_29 (by rfl) ?_
  refine wp_iload_n d_31_31 (by rfl) ?_
  refine wp_callV d_31_32 c_31_111 rfl (by rfl) (by rfl) ⟨3, rfl, rfl, by decide⟩ (by assumption) (by exact Nat.le_of_ble_eq_true rfl) (by exact Nat.le_of_ble_eq_true rfl) (s_isRunning ck (by omega)) (fun v_32 h_32 q_32 => ?_) (fun _ _ q => q.elim)
  obtain ⟨z_32, rfl, y_32, u_32⟩ := q_32
  replace y_32 := y_32.symm
  subst y_32
  have zz_32 : z_32 = 0 ∨ z_32 = 1 := by rcases u_32 with ⟨y, -⟩ | ⟨y, -⟩ <;> omega
  refine wp_istore d_31_35 (by decide) ?_
  refine wp_aload d_31_37 (by rfl) ?_
  refine wp_getR (3) d_31_39 fl_0_114 rfl rfl (by assumption) (by assumption) ?_
  refine wp_iload_n d_31_42 (by rfl) ?_
  refine wp_iload_n d_31_43 (by rfl) ?_
  refine wp_if_eq (tgt := 51) d_31_44 (by decide) (by omega) (fun c_44 => ?_) (fun c_44 => ?_)
  · refine wp_iconst d_31_51 ?_
    refine wp_iast d_31_52 (by assumption) (by omega) (by omega) (by omega) ?_
    refine wp_iload d_31_53 (by rfl) ?_
    refine wp_zret d_31_55 rfl (by omega) ?_
    first
      | exact ⟨_, rfl, u_32, Or.inl ⟨by omega, rfl⟩⟩
      | exact ⟨_, rfl, u_32, Or.inr ⟨by omega, rfl⟩⟩
  · refine wp_iconst d_31_47 ?_
    refine wp_goto (tgt := 52) d_31_48 (by decide) ?_
    refine wp_iast d_31_52 (by assumption) (by omega) (by omega) (by omega) ?_
    refine wp_iload d_31_53 (by rfl) ?_
    refine wp_zret d_31_55 rfl (by omega) ?_
    first
      | exact ⟨_, rfl, u_32, Or.inl ⟨by omega, rfl⟩⟩
      | exact ⟨_, rfl, u_32, Or.inr ⟨by omega, rfl⟩⟩
