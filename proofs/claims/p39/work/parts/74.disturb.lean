/-! ===== the table draws, and is told ===== -/
theorem s_drawS {G sa X : Nat} {n D : Int} {h : Hp} (q : DrS h G sa X D) (hD : D ≤ 1000000) (hn : 0 < n ∧ n ≤ 2147483647) : wp 100 0 (entL [vR (some G), vI n] (mL 100)) [] h (fun v h' => ∃ z, v = some (vI z) ∧ (0 ≤ z ∧ z < n) ∧ DrS h' G sa X (D + 1) ∧ ch (fun a => a = G) nP h h' ∧ (∀ a, a ≠ G → hi h' a = hi h a) ∧ ∀ k, k ≠ 2 → hi h' G k = hi h G k) noX :=
  wp_mono (fun v h' y => by
    obtain ⟨z, y1, y2, rfl⟩ := y
    exact ⟨z, y1, y2, q.tick, ch_setI rfl, fun a ha => hi_setI_ne ha, fun k hk => by rw [hi_upF, upF_ne _ hk]⟩) (fun _ _ y => y) (s_draw q.1 ⟨q.2.2.2.2.1, by have := q.2.2.2.2.2; omega⟩ hn)
theorem s_exc1 {w Y X : Nat} {h : Hp} (hS : Sk h w) (q : GT h w Y X) {c d z x : Int} (h0 : 0 ≤ c ∧ c < hi h (w + 1) 6) (hd : 0 ≤ d ∧ d ≤ 365) (hzx : (z = 1 ∧ x = 1) ∨ (z = 0 ∧ x = 2)) : wp 31 0 (entL [vR (some w), vI c, vI d, vI z] (mL 31)) [] h (fun v h' => ∃ b, v = some (vI b) ∧ ((b = 1 ∧ isRun h (caA h w c) d) ∨ (b = 0 ∧ ¬ isRun h (caA h w c) d)) ∧ h' = setI h (caA h w c + 1) d x) noX :=
  wp_mono (fun v h' y => by
    obtain ⟨b, y1, y2, y3⟩ := y
    refine ⟨b, y1, y2, ?_⟩
    rcases hzx with ⟨rfl, rfl⟩ | ⟨rfl, rfl⟩
    · rcases y3 with ⟨-, y⟩ | ⟨y, -⟩
      · exact y
      · exact absurd y (by decide)
    · rcases y3 with ⟨y, -⟩ | ⟨-, y⟩
      · exact absurd y (by decide)
      · exact y) (fun _ _ y => y) (s_except hS q h0 hd (by rcases hzx with y | y <;> omega))
set_option maxRecDepth 100000 in
set_option maxHeartbeats 4000000 in
theorem s_tExcept {G sa X : Nat} {D : Int} {h : Hp} (q : DrS h G sa X D) (hD : D ≤ 900000) (hc : 1 ≤ hi h (G + 1 + 1) 6) : wp 101 0 (entL [vR (some G)] (mL 101)) [] h (fun v h' => v = some (vI 1) ∧ DrS h' G sa X (D + 4) ∧ ch (PD G X) nP h h') noX := by
  have hXn := q.1.2.2.2.2.2.2
  obtain ⟨⟨tk, tr0, tr1, tr4, tr6, tr8, tr10, tr11, tr12, tr13, tr14, tr15, tr16⟩, ⟨⟨a4, b4⟩, ⟨a6, b6⟩, ⟨a10, b10⟩, ⟨a11, b11⟩, a12, b12⟩, ⟨mz8, mz13, mz14, mz15, mz16⟩, -⟩ := q.1
  obtain ⟨rn3, rn5, rn7, rn9⟩ := q.2.2.1.2.1
  obtain ⟨cn4, cn5, cn6, cn7⟩ := q.2.2.2.1
  have rq7 := rn7
  have rq9 := rn9
  refine wp_aload_n d_101_0 (by rfl) ?_
  refine wp_aload_n d_101_1 (by rfl) ?_
  refine wp_getI (7) d_101_2 fl_12_73 rfl rfl (by first | assumption | (simp only [kd_setI, kd_setR]; assumption)) (fun x_2 e_2 r_2 => ?_)
  subst e_2
  refine wp_callV d_101_5 c_101_69 rfl (by rfl) (by rfl) ⟨12, rfl, rfl, by decide⟩ (by first | assumption | (simp only [kd_setI, kd_setR]; assumption)) (by exact Nat.le_of_ble_eq_true rfl) (by exact Nat.le_of_ble_eq_true rfl) (s_drawS q (by omega) (by omega)) (fun v_5 h_5 q_5 => ?_) (fun _ _ q => q.elim)
  clear tk tr0 tr1 tr4 tr6 tr8 tr10 tr11 tr12 tr13 tr14 tr15 tr16 a4 b4 a6 b6 a10 b10 a11 b11 a12 b12 mz8 mz13 mz14 mz15 mz16 rn3 rn5 rn7 rn9 cn4 cn5 cn6 cn7
  obtain ⟨z_5, rfl, y_5, D_5, C_5, K_5, M_5⟩ := q_5
  have N_5 := K_5 (G + 1 + 1) (by omega)
  have B_5 := C_5.2.2.2.1
  have n6_5 := congrFun N_5 6
  have n7_5 := congrFun N_5 7
  obtain ⟨⟨tk, tr0, tr1, tr4, tr6, tr8, tr10, tr11, tr12, tr13, tr14, tr15, tr16⟩, ⟨⟨a4, b4⟩, ⟨a6, b6⟩, ⟨a10, b10⟩, ⟨a11, b11⟩, a12, b12⟩, ⟨mz8, mz13, mz14, mz15, mz16⟩, -⟩ := D_5.1
  obtain ⟨rn3, rn5, rn7, rn9⟩ := D_5.2.2.1.2.1
  obtain ⟨cn4, cn5, cn6, cn7⟩ := D_5.2.2.2.1
  refine wp_istore_n d_101_8 (by decide) ?_
  refine wp_aload_n d_101_9 (by rfl) ?_
  refine wp_bipush d_101_10 (by decide) ?_
  refine wp_callV d_101_12 c_101_69 rfl (by rfl) (by rfl) ⟨12, rfl, rfl, by decide⟩ (by first | assumption | (simp only [kd_setI, kd_setR]; assumption)) (by exact Nat.le_of_ble_eq_true rfl) (by exact Nat.le_of_ble_eq_true rfl) (s_drawS D_5 (by omega) (by omega)) (fun v_12 h_12 q_12 => ?_) (fun _ _ q => q.elim)
  clear tk tr0 tr1 tr4 tr6 tr8 tr10 tr11 tr12 tr13 tr14 tr15 tr16 a4 b4 a6 b6 a10 b10 a11 b11 a12 b12 mz8 mz13 mz14 mz15 mz16 rn3 rn5 rn7 rn9 cn4 cn5 cn6 cn7
  obtain ⟨z_12, rfl, y_12, D_12, C_12, K_12, M_12⟩ := q_12
  have N_12 := K_12 (G + 1 + 1) (by omega)
  have B_12 := C_12.2.2.2.1
  have n6_12 := congrFun N_12 6
  have n7_12 := congrFun N_12 7
  obtain ⟨⟨tk, tr0, tr1, tr4, tr6, tr8, tr10, tr11, tr12, tr13, tr14, tr15, tr16⟩, ⟨⟨a4, b4⟩, ⟨a6, b6⟩, ⟨a10, b10⟩, ⟨a11, b11⟩, a12, b12⟩, ⟨mz8, mz13, mz14, mz15, mz16⟩, -⟩ := D_12.1
  obtain ⟨rn3, rn5, rn7, rn9⟩ := D_12.2.2.1.2.1
  obtain ⟨cn4, cn5, cn6, cn7⟩ := D_12.2.2.2.1
  have rk_12 : hr h_12 (G + 157) z_5 = some (G + 158 + z_5.toNat) ∧ kd h_12 (G + 158 + z_5.toNat) = 102 ∧ ln h_12 (G + 158 + z_5.toNat) = 12 := mz8.row y_5.1 (by omega)
  refine wp_istore_n d_101_15 (by decide) ?_
  refine wp_aload_n d_101_16 (by rfl) ?_
  refine wp_getR (8) d_101_17 fl_12_27 rfl rfl (by first | assumption | (simp only [kd_setI, kd_setR]; assumption)) (by first | assumption | (simp only [hr_setI]; assumption)) ?_
  refine wp_iload_n d_101_20 (by rfl) ?_
  have mz1_ := mz8.1
  refine wp_aald d_101_21 (by omega) (by omega) (isRf_of mz8.1 rfl) (by omega) (by have := mz8.2.1; omega) rk_12.1 ?_
  refine wp_iload_n d_101_22 (by rfl) ?_
  refine wp_bald d_101_23 rk_12.2.1 (by omega) (by omega) (fun x_23 e_23 r_23 => ?_)
  refine wp_istore_n d_101_24 (by decide) ?_
  refine wp_aload_n d_101_25 (by rfl) ?_
  refine wp_getR (8) d_101_26 fl_12_27 rfl rfl (by first | assumption | (simp only [kd_setI, kd_setR]; assumption)) (by first | assumption | (simp only [hr_setI]; assumption)) ?_
  refine wp_iload_n d_101_29 (by rfl) ?_
  have mz1_ := mz8.1
  refine wp_aald d_101_30 (by omega) (by omega) (isRf_of mz8.1 rfl) (by omega) (by have := mz8.2.1; omega) rk_12.1 ?_
  refine wp_iload_n d_101_31 (by rfl) ?_
  refine wp_aload_n d_101_32 (by rfl) ?_
  refine wp_iconst d_101_33 ?_
  refine wp_callV d_101_34 c_101_69 rfl (by rfl) (by rfl) ⟨12, rfl, rfl, by decide⟩ (by first | assumption | (simp only [kd_setI, kd_setR]; assumption)) (by exact Nat.le_of_ble_eq_true rfl) (by exact Nat.le_of_ble_eq_true rfl) (s_drawS D_12 (by omega) (by omega)) (fun v_34 h_34 q_34 => ?_) (fun _ _ q => q.elim)
  clear tk tr0 tr1 tr4 tr6 tr8 tr10 tr11 tr12 tr13 tr14 tr15 tr16 a4 b4 a6 b6 a10 b10 a11 b11 a12 b12 mz8 mz13 mz14 mz15 mz16 rn3 rn5 rn7 rn9 cn4 cn5 cn6 cn7
  obtain ⟨z_34, rfl, y_34, D_34, C_34, K_34, M_34⟩ := q_34
  have N_34 := K_34 (G + 1 + 1) (by omega)
  have B_34 := C_34.2.2.2.1
  have n6_34 := congrFun N_34 6
  have n7_34 := congrFun N_34 7
  obtain ⟨⟨tk, tr0, tr1, tr4, tr6, tr8, tr10, tr11, tr12, tr13, tr14, tr15, tr16⟩, ⟨⟨a4, b4⟩, ⟨a6, b6⟩, ⟨a10, b10⟩, ⟨a11, b11⟩, a12, b12⟩, ⟨mz8, mz13, mz14, mz15, mz16⟩, -⟩ := D_34.1
  obtain ⟨rn3, rn5, rn7, rn9⟩ := D_34.2.2.1.2.1
  obtain ⟨cn4, cn5, cn6, cn7⟩ := D_34.2.2.2.1
  have rk_34 : hr h_34 (G + 157) z_5 = some (G + 158 + z_5.toNat) ∧ kd h_34 (G + 158 + z_5.toNat) = 102 ∧ ln h_34 (G + 158 + z_5.toNat) = 12 := mz8.row y_5.1 (by omega)
  refine wp_if_ne (tgt := 44) d_101_37 (by decide) (by omega) (fun c_37 => ?_) (fun c_37 => ?_)
  · have HB : ((0 : Int) = 1 ∧ (2 : Int) = 1) ∨ ((0 : Int) = 0 ∧ (2 : Int) = 2) := Or.inr ⟨rfl, rfl⟩
    have RX := D_34.2.2.1.exc (c0 := z_5) (d := z_12) (b := 0) (x := 2) (by omega) (by omega) (by omega) (by omega) HB
    have hYX_ := D_34.2.2.1.1.2.1.2
    have SX : Sk (setI h_34 (G + 158 + z_5.toNat) z_12 0) (G + 1) := D_34.2.1.kept (P := PD G X) (R := nP) (ch.fm (ch_setI (Or.inr (by omega)))) (fun a z => z.elim) (by omega)
    have kS_ : kd (setI h_34 (G + 158 + z_5.toNat) z_12 0) (G + 1) = 1 := SX.1.1
    have nn_ : hi (setI h_34 (G + 158 + z_5.toNat) z_12 0) (G + 1 + 1) 6 = hi h_34 (G + 1 + 1) 6 := congrFun RX.1.2.2 6
    refine wp_iconst d_101_44 ?_
    refine wp_bast d_101_45 rk_34.2.1 (by omega) (by omega) (by decide) ?_
    refine wp_aload_n d_101_46 (by rfl) ?_
    refine wp_getR (0) d_101_47 fl_12_10 rfl rfl (by first | assumption | (simp only [kd_setI, kd_setR]; assumption)) (by first | assumption | (simp only [hr_setI]; assumption)) ?_
    refine wp_iload_n d_101_50 (by rfl) ?_
    refine wp_iload_n d_101_51 (by rfl) ?_
    refine wp_aload_n d_101_52 (by rfl) ?_
    refine wp_getR (8) d_101_53 fl_12_27 rfl rfl (by first | assumption | (simp only [kd_setI, kd_setR]; assumption)) (by first | assumption | (simp only [hr_setI]; assumption)) ?_
    refine wp_iload_n d_101_56 (by rfl) ?_
    refine wp_aald d_101_57 (by show 100 ≤ kd h_34 (G + 157); have := mz8.1; omega) (by show kd h_34 (G + 157) ≠ 200; have := mz8.1; omega) (by show isRf (AT (kd h_34 (G + 157))) = true; exact isRf_of mz8.1 rfl) (by omega) (by show _ < ln h_34 (G + 157); have := mz8.2.1; omega) (by show hr h_34 (G + 157) z_5 = _; exact rk_34.1) ?_
    refine wp_iload_n d_101_58 (by rfl) ?_
    refine wp_bald d_101_59 (by show kd h_34 (G + 158 + z_5.toNat) = 102; exact rk_34.2.1) (by omega) (by show _ < ln h_34 (G + 158 + z_5.toNat); omega) (fun x_59 e_59 r_59 => ?_)
    rw [hi_upF, upF_same] at e_59
    subst e_59
    refine wp_callV d_101_60 c_101_84 rfl (by rfl) (by rfl) ⟨0, rfl, rfl, by decide⟩ (by first | assumption | (simp only [kd_setI, kd_setR]; assumption)) (by exact Nat.le_of_ble_eq_true rfl) (by exact Nat.le_of_ble_eq_true rfl) (s_exc1 SX RX.1.1 (by omega) (by omega) HB) (fun v_60 h_60 q_60 => ?_) (fun _ _ q => q.elim)
    obtain ⟨b_60, rfl, u_60, rfl⟩ := q_60
    have zz_60 : b_60 = 0 ∨ b_60 = 1 := by rcases u_60 with ⟨y, -⟩ | ⟨y, -⟩ <;> omega
    have rc := D_34.2.2.1.2.2.1 z_5 z_12 y_5.1 (by omega) y_12.1 (by omega)
    rw [K_34 _ (by omega), ← e_23] at rc
    have eq9 : b_60 = x_23 := by
      clear zz_60
      rcases rc with ⟨p1, p2⟩ | ⟨p1, p2⟩ <;> rcases u_60 with ⟨p3, p4⟩ | ⟨p3, p4⟩
      · rw [p1, p3]
      · exact absurd ((RX.1.2.1 _).mpr p2) p4
      · exact absurd ((RX.1.2.1 _).mp p4) p2
      · rw [p1, p3]
    refine wp_iload_n d_101_63 (by rfl) ?_
    refine wp_icmp_ne (tgt := 71) d_101_64 (by decide) (by omega) (by omega) (fun c_64 => ?_) (fun c_64 => ?_)
    · exact absurd c_64 (by omega)
    refine wp_iconst d_101_67 ?_
    refine wp_goto (tgt := 72) d_101_68 (by decide) ?_
    refine wp_zret d_101_72 rfl (by omega) ?_
    have hYX_ := D_34.2.2.1.1.2.1.2
    have C9 : ∀ b x : Int, ch (PD G X) nP h_34 (setI (setI h_34 (G + 158 + z_5.toNat) z_12 b) (caA h_34 (G + 1) z_5 + 1) z_12 x) := fun b x => (ch_setI (P := PD G X) (R := nP) (Or.inr (by omega))).trans (ch_setI (P := PD G X) (R := nP) (Or.inr (by have := (D_34.2.2.1.1.2.2.2.1 z_5 y_5.1 (by omega)).2.1; omega)))
    have cb := (D_34.2.2.1.1.2.2.2.1 z_5 y_5.1 (by omega)).2.1
    refine ⟨rfl, (DrS.step D_34 (C9 _ _) RX.2 ?_ ?_).up (by omega), ((C_5.trans C_12).trans C_34).mono (fun a z => Or.inl z) (fun a z => z) |>.trans (C9 _ _)⟩
    · rw [hi_setI_ne (by omega), hi_setI_ne (by omega)]
    · rw [hi_setI_ne (by omega), hi_setI_ne (by omega)]
  · have HB : ((1 : Int) = 1 ∧ (1 : Int) = 1) ∨ ((1 : Int) = 0 ∧ (1 : Int) = 2) := Or.inl ⟨rfl, rfl⟩
    have RX := D_34.2.2.1.exc (c0 := z_5) (d := z_12) (b := 1) (x := 1) (by omega) (by omega) (by omega) (by omega) HB
    have hYX_ := D_34.2.2.1.1.2.1.2
    have SX : Sk (setI h_34 (G + 158 + z_5.toNat) z_12 1) (G + 1) := D_34.2.1.kept (P := PD G X) (R := nP) (ch.fm (ch_setI (Or.inr (by omega)))) (fun a z => z.elim) (by omega)
    have kS_ : kd (setI h_34 (G + 158 + z_5.toNat) z_12 1) (G + 1) = 1 := SX.1.1
    have nn_ : hi (setI h_34 (G + 158 + z_5.toNat) z_12 1) (G + 1 + 1) 6 = hi h_34 (G + 1 + 1) 6 := congrFun RX.1.2.2 6
    refine wp_iconst d_101_40 ?_
    refine wp_goto (tgt := 45) d_101_41 (by decide) ?_
    refine wp_bast d_101_45 rk_34.2.1 (by omega) (by omega) (by decide) ?_
    refine wp_aload_n d_101_46 (by rfl) ?_
    refine wp_getR (0) d_101_47 fl_12_10 rfl rfl (by first | assumption | (simp only [kd_setI, kd_setR]; assumption)) (by first | assumption | (simp only [hr_setI]; assumption)) ?_
    refine wp_iload_n d_101_50 (by rfl) ?_
    refine wp_iload_n d_101_51 (by rfl) ?_
    refine wp_aload_n d_101_52 (by rfl) ?_
    refine wp_getR (8) d_101_53 fl_12_27 rfl rfl (by first | assumption | (simp only [kd_setI, kd_setR]; assumption)) (by first | assumption | (simp only [hr_setI]; assumption)) ?_
    refine wp_iload_n d_101_56 (by rfl) ?_
    refine wp_aald d_101_57 (by show 100 ≤ kd h_34 (G + 157); have := mz8.1; omega) (by show kd h_34 (G + 157) ≠ 200; have := mz8.1; omega) (by show isRf (AT (kd h_34 (G + 157))) = true; exact isRf_of mz8.1 rfl) (by omega) (by show _ < ln h_34 (G + 157); have := mz8.2.1; omega) (by show hr h_34 (G + 157) z_5 = _; exact rk_34.1) ?_
    refine wp_iload_n d_101_58 (by rfl) ?_
    refine wp_bald d_101_59 (by show kd h_34 (G + 158 + z_5.toNat) = 102; exact rk_34.2.1) (by omega) (by show _ < ln h_34 (G + 158 + z_5.toNat); omega) (fun x_59 e_59 r_59 => ?_)
    rw [hi_upF, upF_same] at e_59
    subst e_59
    refine wp_callV d_101_60 c_101_84 rfl (by rfl) (by rfl) ⟨0, rfl, rfl, by decide⟩ (by first | assumption | (simp only [kd_setI, kd_setR]; assumption)) (by exact Nat.le_of_ble_eq_true rfl) (by exact Nat.le_of_ble_eq_true rfl) (s_exc1 SX RX.1.1 (by omega) (by omega) HB) (fun v_60 h_60 q_60 => ?_) (fun _ _ q => q.elim)
    obtain ⟨b_60, rfl, u_60, rfl⟩ := q_60
    have zz_60 : b_60 = 0 ∨ b_60 = 1 := by rcases u_60 with ⟨y, -⟩ | ⟨y, -⟩ <;> omega
    have rc := D_34.2.2.1.2.2.1 z_5 z_12 y_5.1 (by omega) y_12.1 (by omega)
    rw [K_34 _ (by omega), ← e_23] at rc
    have eq9 : b_60 = x_23 := by
      clear zz_60
      rcases rc with ⟨p1, p2⟩ | ⟨p1, p2⟩ <;> rcases u_60 with ⟨p3, p4⟩ | ⟨p3, p4⟩
      · rw [p1, p3]
      · exact absurd ((RX.1.2.1 _).mpr p2) p4
      · exact absurd ((RX.1.2.1 _).mp p4) p2
      · rw [p1, p3]
    refine wp_iload_n d_101_63 (by rfl) ?_
    refine wp_icmp_ne (tgt := 71) d_101_64 (by decide) (by omega) (by omega) (fun c_64 => ?_) (fun c_64 => ?_)
    · exact absurd c_64 (by omega)
    refine wp_iconst d_101_67 ?_
    refine wp_goto (tgt := 72) d_101_68 (by decide) ?_
    refine wp_zret d_101_72 rfl (by omega) ?_
    have hYX_ := D_34.2.2.1.1.2.1.2
    have C9 : ∀ b x : Int, ch (PD G X) nP h_34 (setI (setI h_34 (G + 158 + z_5.toNat) z_12 b) (caA h_34 (G + 1) z_5 + 1) z_12 x) := fun b x => (ch_setI (P := PD G X) (R := nP) (Or.inr (by omega))).trans (ch_setI (P := PD G X) (R := nP) (Or.inr (by have := (D_34.2.2.1.1.2.2.2.1 z_5 y_5.1 (by omega)).2.1; omega)))
    have cb := (D_34.2.2.1.1.2.2.2.1 z_5 y_5.1 (by omega)).2.1
    refine ⟨rfl, (DrS.step D_34 (C9 _ _) RX.2 ?_ ?_).up (by omega), ((C_5.trans C_12).trans C_34).mono (fun a z => Or.inl z) (fun a z => z) |>.trans (C9 _ _)⟩
    · rw [hi_setI_ne (by omega), hi_setI_ne (by omega)]
    · rw [hi_setI_ne (by omega), hi_setI_ne (by omega)]
set_option maxRecDepth 100000 in
set_option maxHeartbeats 4000000 in
theorem s_tDisturb {G sa X : Nat} {D : Int} {h : Hp} (q : DrS h G sa X D) (hD : D ≤ 900000) (hc : 1 ≤ hi h (G + 1 + 1) 7) : wp 105 0 (entL [vR (some G)] (mL 105)) [] h (fun v h' => v = some (vI 1) ∧ DrS h' G sa X (D + 4) ∧ ch (PD G X) nP h h') noX := by
  have hXn := q.1.2.2.2.2.2.2
  obtain ⟨⟨tk, tr0, tr1, tr4, tr6, tr8, tr10, tr11, tr12, tr13, tr14, tr15, tr16⟩, ⟨⟨a4, b4⟩, ⟨a6, b6⟩, ⟨a10, b10⟩, ⟨a11, b11⟩, a12, b12⟩, ⟨mz8, mz13, mz14, mz15, mz16⟩, -⟩ := q.1
  obtain ⟨rn3, rn5, rn7, rn9⟩ := q.2.2.1.2.1
  obtain ⟨cn4, cn5, cn6, cn7⟩ := q.2.2.2.1
  have rq7 := rn7
  have rq9 := rn9
  refine wp_aload_n d_105_0 (by rfl) ?_
  refine wp_aload_n d_105_1 (by rfl) ?_
  refine wp_getI (9) d_105_2 fl_12_87 rfl rfl (by first | assumption | (simp only [kd_setI, kd_setR]; assumption)) (fun x_2 e_2 r_2 => ?_)
  subst e_2
  refine wp_callV d_105_5 c_105_69 rfl (by rfl) (by rfl) ⟨12, rfl, rfl, by decide⟩ (by first | assumption | (simp only [kd_setI, kd_setR]; assumption)) (by exact Nat.le_of_ble_eq_true rfl) (by exact Nat.le_of_ble_eq_true rfl) (s_drawS q (by omega) (by omega)) (fun v_5 h_5 q_5 => ?_) (fun _ _ q => q.elim)
  clear tk tr0 tr1 tr4 tr6 tr8 tr10 tr11 tr12 tr13 tr14 tr15 tr16 a4 b4 a6 b6 a10 b10 a11 b11 a12 b12 mz8 mz13 mz14 mz15 mz16 rn3 rn5 rn7 rn9 cn4 cn5 cn6 cn7
  obtain ⟨z_5, rfl, y_5, D_5, C_5, K_5, M_5⟩ := q_5
  have N_5 := K_5 (G + 1 + 1) (by omega)
  have B_5 := C_5.2.2.2.1
  have n6_5 := congrFun N_5 6
  have n7_5 := congrFun N_5 7
  obtain ⟨⟨tk, tr0, tr1, tr4, tr6, tr8, tr10, tr11, tr12, tr13, tr14, tr15, tr16⟩, ⟨⟨a4, b4⟩, ⟨a6, b6⟩, ⟨a10, b10⟩, ⟨a11, b11⟩, a12, b12⟩, ⟨mz8, mz13, mz14, mz15, mz16⟩, -⟩ := D_5.1
  obtain ⟨rn3, rn5, rn7, rn9⟩ := D_5.2.2.1.2.1
  obtain ⟨cn4, cn5, cn6, cn7⟩ := D_5.2.2.2.1
  refine wp_istore_n d_105_8 (by decide) ?_
  refine wp_aload_n d_105_9 (by rfl) ?_
  refine wp_iconst d_105_10 ?_
  refine wp_callV d_105_11 c_105_69 rfl (by rfl) (by rfl) ⟨12, rfl, rfl, by decide⟩ (by first | assumption | (simp only [kd_setI, kd_setR]; assumption)) (by exact Nat.le_of_ble_eq_true rfl) (by exact Nat.le_of_ble_eq_true rfl) (s_drawS D_5 (by omega) (by omega)) (fun v_11 h_11 q_11 => ?_) (fun _ _ q => q.elim)
  clear tk tr0 tr1 tr4 tr6 tr8 tr10 tr11 tr12 tr13 tr14 tr15 tr16 a4 b4 a6 b6 a10 b10 a11 b11 a12 b12 mz8 mz13 mz14 mz15 mz16 rn3 rn5 rn7 rn9 cn4 cn5 cn6 cn7
  obtain ⟨z_11, rfl, y_11, D_11, C_11, K_11, M_11⟩ := q_11
  have N_11 := K_11 (G + 1 + 1) (by omega)
  have B_11 := C_11.2.2.2.1
  have n6_11 := congrFun N_11 6
  have n7_11 := congrFun N_11 7
  obtain ⟨⟨tk, tr0, tr1, tr4, tr6, tr8, tr10, tr11, tr12, tr13, tr14, tr15, tr16⟩, ⟨⟨a4, b4⟩, ⟨a6, b6⟩, ⟨a10, b10⟩, ⟨a11, b11⟩, a12, b12⟩, ⟨mz8, mz13, mz14, mz15, mz16⟩, -⟩ := D_11.1
  obtain ⟨rn3, rn5, rn7, rn9⟩ := D_11.2.2.1.2.1
  obtain ⟨cn4, cn5, cn6, cn7⟩ := D_11.2.2.2.1
  refine wp_istore_n d_105_14 (by decide) ?_
  refine wp_aload_n d_105_15 (by rfl) ?_
  refine wp_iconst d_105_16 ?_
  refine wp_callV d_105_17 c_105_69 rfl (by rfl) (by rfl) ⟨12, rfl, rfl, by decide⟩ (by first | assumption | (simp only [kd_setI, kd_setR]; assumption)) (by exact Nat.le_of_ble_eq_true rfl) (by exact Nat.le_of_ble_eq_true rfl) (s_drawS D_11 (by omega) (by omega)) (fun v_17 h_17 q_17 => ?_) (fun _ _ q => q.elim)
  clear tk tr0 tr1 tr4 tr6 tr8 tr10 tr11 tr12 tr13 tr14 tr15 tr16 a4 b4 a6 b6 a10 b10 a11 b11 a12 b12 mz8 mz13 mz14 mz15 mz16 rn3 rn5 rn7 rn9 cn4 cn5 cn6 cn7
  obtain ⟨z_17, rfl, y_17, D_17, C_17, K_17, M_17⟩ := q_17
  have N_17 := K_17 (G + 1 + 1) (by omega)
  have B_17 := C_17.2.2.2.1
  have n6_17 := congrFun N_17 6
  have n7_17 := congrFun N_17 7
  obtain ⟨⟨tk, tr0, tr1, tr4, tr6, tr8, tr10, tr11, tr12, tr13, tr14, tr15, tr16⟩, ⟨⟨a4, b4⟩, ⟨a6, b6⟩, ⟨a10, b10⟩, ⟨a11, b11⟩, a12, b12⟩, ⟨mz8, mz13, mz14, mz15, mz16⟩, -⟩ := D_17.1
  obtain ⟨rn3, rn5, rn7, rn9⟩ := D_17.2.2.1.2.1
  obtain ⟨cn4, cn5, cn6, cn7⟩ := D_17.2.2.2.1
  have rl_17 : hr h_17 (G + 191) z_5 = some (G + 192 + z_5.toNat) ∧ kd h_17 (G + 192 + z_5.toNat) = 100 ∧ ln h_17 (G + 192 + z_5.toNat) = 12 := mz16.row y_5.1 (by omega)
  have HS_17 := D_17.2.2.1.has (t := z_5) (d := z_11) (by omega) (by omega) (by omega)
  have rk_17 : hr h_17 (G + 157) (hi h_17 (G + 161) z_5) = some (G + 158 + (hi h_17 (G + 161) z_5).toNat) ∧ kd h_17 (G + 158 + (hi h_17 (G + 161) z_5).toNat) = 102 ∧ ln h_17 (G + 158 + (hi h_17 (G + 161) z_5).toNat) = 12 := mz8.row (by omega) (by omega)
  refine wp_if_ne (tgt := 84) d_105_20 (by decide) (by omega) (fun c_20 => ?_) (fun c_20 => ?_)
  · refine wp_aload_n d_105_84 (by rfl) ?_
    refine wp_getR (16) d_105_85 fl_12_49 rfl rfl (by first | assumption | (simp only [kd_setI, kd_setR]; assumption)) (by first | assumption | (simp only [hr_setI]; assumption)) ?_
    refine wp_iload_n d_105_88 (by rfl) ?_
    refine wp_aald d_105_89 (by have := mz16.1; omega) (by have := mz16.1; omega) (isRf_of mz16.1 rfl) (by omega) (by have := mz16.2.1; omega) rl_17.1 ?_
    refine wp_iload_n d_105_90 (by rfl) ?_
    refine wp_iald d_105_91 (Or.inl rl_17.2.1) (by omega) (by omega) (fun x_91 e_91 r_91 => ?_)
    refine wp_istore_n d_105_92 (by decide) ?_
    refine wp_aload_n d_105_93 (by rfl) ?_
    refine wp_getR (16) d_105_94 fl_12_49 rfl rfl (by first | assumption | (simp only [kd_setI, kd_setR]; assumption)) (by first | assumption | (simp only [hr_setI]; assumption)) ?_
    refine wp_iload_n d_105_97 (by rfl) ?_
    refine wp_aald d_105_98 (by have := mz16.1; omega) (by have := mz16.1; omega) (isRf_of mz16.1 rfl) (by omega) (by have := mz16.2.1; omega) rl_17.1 ?_
    refine wp_iload_n d_105_99 (by rfl) ?_
    refine wp_aload_n d_105_100 (by rfl) ?_
    refine wp_bipush d_105_101 (by decide) ?_
    refine wp_callV d_105_103 c_105_69 rfl (by rfl) (by rfl) ⟨12, rfl, rfl, by decide⟩ (by first | assumption | (simp only [kd_setI, kd_setR]; assumption)) (by exact Nat.le_of_ble_eq_true rfl) (by exact Nat.le_of_ble_eq_true rfl) (s_drawS D_17 (by omega) (by omega)) (fun v_103 h_103 q_103 => ?_) (fun _ _ q => q.elim)
    clear tk tr0 tr1 tr4 tr6 tr8 tr10 tr11 tr12 tr13 tr14 tr15 tr16 a4 b4 a6 b6 a10 b10 a11 b11 a12 b12 mz8 mz13 mz14 mz15 mz16 rn3 rn5 rn7 rn9 cn4 cn5 cn6 cn7
    obtain ⟨z_103, rfl, y_103, D_103, C_103, K_103, M_103⟩ := q_103
    have N_103 := K_103 (G + 1 + 1) (by omega)
    have B_103 := C_103.2.2.2.1
    have n6_103 := congrFun N_103 6
    have n7_103 := congrFun N_103 7
    obtain ⟨⟨tk, tr0, tr1, tr4, tr6, tr8, tr10, tr11, tr12, tr13, tr14, tr15, tr16⟩, ⟨⟨a4, b4⟩, ⟨a6, b6⟩, ⟨a10, b10⟩, ⟨a11, b11⟩, a12, b12⟩, ⟨mz8, mz13, mz14, mz15, mz16⟩, -⟩ := D_103.1
    obtain ⟨rn3, rn5, rn7, rn9⟩ := D_103.2.2.1.2.1
    obtain ⟨cn4, cn5, cn6, cn7⟩ := D_103.2.2.2.1
    have rl_103 : hr h_103 (G + 191) z_5 = some (G + 192 + z_5.toNat) ∧ kd h_103 (G + 192 + z_5.toNat) = 100 ∧ ln h_103 (G + 192 + z_5.toNat) = 12 := mz16.row y_5.1 (by omega)
    have HS_103 := D_103.2.2.1.has (t := z_5) (d := z_11) (by omega) (by omega) (by omega)
    refine wp_iast d_105_106 rl_103.2.1 (by omega) (by omega) (by omega) ?_
    have RX := D_103.2.2.1.late (t0 := z_5) (d := z_11) (x := z_103) (by omega) (by omega) (by omega) (by omega) (by omega)
    have hYX_ := D_103.2.2.1.1.2.1.2
    have SX : Sk (setI h_103 (G + 192 + z_5.toNat) z_11 (z_103)) (G + 1) := D_103.2.1.kept (P := PD G X) (R := nP) (ch.fm (ch_setI (Or.inr (by omega)))) (fun a z => z.elim) (by omega)
    have kS_ : kd (setI h_103 (G + 192 + z_5.toNat) z_11 (z_103)) (G + 1) = 1 := SX.1.1
    have nn_ : hi (setI h_103 (G + 192 + z_5.toNat) z_11 (z_103)) (G + 1 + 1) 7 = hi h_103 (G + 1 + 1) 7 := congrFun RX.1.2.2 7
    refine wp_aload_n d_105_107 (by rfl) ?_
    refine wp_getR (0) d_105_108 fl_12_10 rfl rfl (by first | assumption | (simp only [kd_setI, kd_setR]; assumption)) (by first | assumption | (simp only [hr_setI]; assumption)) ?_
    refine wp_iload_n d_105_111 (by rfl) ?_
    refine wp_iload_n d_105_112 (by rfl) ?_
    refine wp_aload_n d_105_113 (by rfl) ?_
    refine wp_getR (16) d_105_114 fl_12_49 rfl rfl (by first | assumption | (simp only [kd_setI, kd_setR]; assumption)) (by first | assumption | (simp only [hr_setI]; assumption)) ?_
    refine wp_iload_n d_105_117 (by rfl) ?_
    refine wp_aald d_105_118 (by show 100 ≤ kd h_103 (G + 191); have := mz16.1; omega) (by show kd h_103 (G + 191) ≠ 200; have := mz16.1; omega) (by show isRf (AT (kd h_103 (G + 191))) = true; exact isRf_of mz16.1 rfl) (by omega) (by show _ < ln h_103 (G + 191); have := mz16.2.1; omega) (by show hr h_103 (G + 191) z_5 = _; exact rl_103.1) ?_
    refine wp_iload_n d_105_119 (by rfl) ?_
    refine wp_iald d_105_120 (Or.inl (by show kd h_103 (G + 192 + z_5.toNat) = 100; exact rl_103.2.1)) (by omega) (by show _ < ln h_103 (G + 192 + z_5.toNat); omega) (fun x_120 e_120 r_120 => ?_)
    rw [hi_upF, upF_same] at e_120
    replace e_120 := e_120.symm
    subst e_120
    refine wp_callV d_105_121 c_105_124 rfl (by rfl) (by rfl) ⟨0, rfl, rfl, by decide⟩ (by first | assumption | (simp only [kd_setI, kd_setR]; assumption)) (by exact Nat.le_of_ble_eq_true rfl) (by exact Nat.le_of_ble_eq_true rfl) (s_late SX RX.1.1 (by omega) (by omega) (by omega)) (fun v_121 h_121 q_121 => ?_) (fun _ _ q => q.elim)
    obtain ⟨rfl, rfl⟩ := q_121
    have eq9 : hi (setI h_103 (G + 192 + z_5.toNat) z_11 z_103) (adT (setI h_103 (G + 192 + z_5.toNat) z_11 z_103) (G + 1) z_5 + 4) z_11 = x_91 := by
      show hi (setI h_103 (G + 192 + z_5.toNat) z_11 z_103) (adT h_103 (G + 1) z_5 + 4) z_11 = x_91
      have cb := (D_103.2.2.1.1.2.2.2.2.2.1 z_5 y_5.1 (by omega)).1
      rw [hi_setI_ne (by omega), ← HS_103.2.2.1, K_103 _ (by omega), e_91]
    have ra9 : inR (hi (setI h_103 (G + 192 + z_5.toNat) z_11 z_103) (adT (setI h_103 (G + 192 + z_5.toNat) z_11 z_103) (G + 1) z_5 + 4) z_11) := by rw [eq9]; exact r_91
    refine wp_iload_n d_105_124 (by rfl) ?_
    refine wp_icmp_ne (tgt := 132) d_105_125 (by decide) (by omega) (by omega) (fun c_125 => ?_) (fun c_125 => ?_)
    · exact absurd c_125 (by omega)
    refine wp_iconst d_105_128 ?_
    refine wp_goto (tgt := 133) d_105_129 (by decide) ?_
    refine wp_zret d_105_133 rfl (by omega) ?_
    have cb := (D_103.2.2.1.1.2.2.2.2.2.1 z_5 y_5.1 (by omega)).1
    obtain ⟨c9_, x91_, x92_, x93_, -⟩ := adT_of D_103.2.2.1.1.1 y_5.1 (by omega)
    have hYX_ := D_103.2.2.1.1.2.1.2
    have C9 : ∀ b x : Int, ch (PD G X) nP h_103 (setI (setI h_103 (G + 192 + z_5.toNat) z_11 b) (adT h_103 (G + 1) z_5 + 4) z_11 x) := fun b x => (ch_setI (P := PD G X) (R := nP) (Or.inr (by omega))).trans (ch_setI (P := PD G X) (R := nP) (Or.inr (by omega)))
    refine ⟨rfl, (DrS.step D_103 (C9 _ _) RX.2 ?_ ?_).up (by omega), (((C_5.trans C_11).trans C_17).trans C_103).mono (fun a z => Or.inl z) (fun a z => z) |>.trans (C9 _ _)⟩
    · rw [hi_setI_ne (by omega), hi_setI_ne (by omega)]
    · rw [hi_setI_ne (by omega), hi_setI_ne (by omega)]
  · refine wp_aload_n d_105_23 (by rfl) ?_
    refine wp_getR (8) d_105_24 fl_12_27 rfl rfl (by first | assumption | (simp only [kd_setI, kd_setR]; assumption)) (by first | assumption | (simp only [hr_setI]; assumption)) ?_
    refine wp_aload_n d_105_27 (by rfl) ?_
    refine wp_getR (10) d_105_28 fl_12_30 rfl rfl (by first | assumption | (simp only [kd_setI, kd_setR]; assumption)) (by first | assumption | (simp only [hr_setI]; assumption)) ?_
    refine wp_iload_n d_105_31 (by rfl) ?_
    refine wp_iald d_105_32 (Or.inl a10) (by omega) (by omega) (fun x_32 e_32 r_32 => ?_)
    subst e_32
    refine wp_aald d_105_33 (by have := mz8.1; omega) (by have := mz8.1; omega) (isRf_of mz8.1 rfl) (by omega) (by have := mz8.2.1; omega) rk_17.1 ?_
    refine wp_iload_n d_105_34 (by rfl) ?_
    refine wp_bald d_105_35 rk_17.2.1 (by omega) (by omega) (fun x_35 e_35 r_35 => ?_)
    refine wp_if_eq (tgt := 54) d_105_36 (by decide) (by omega) (fun c_36 => ?_) (fun c_36 => ?_)
    · refine wp_iconst d_105_54 ?_
      refine wp_istore_n d_105_55 (by decide) ?_
      refine wp_aload_n d_105_56 (by rfl) ?_
      refine wp_getR (16) d_105_57 fl_12_49 rfl rfl (by first | assumption | (simp only [kd_setI, kd_setR]; assumption)) (by first | assumption | (simp only [hr_setI]; assumption)) ?_
      refine wp_iload_n d_105_60 (by rfl) ?_
      refine wp_aald d_105_61 (by have := mz16.1; omega) (by have := mz16.1; omega) (isRf_of mz16.1 rfl) (by omega) (by have := mz16.2.1; omega) rl_17.1 ?_
      refine wp_iload_n d_105_62 (by rfl) ?_
      refine wp_iconst d_105_63 ?_
      refine wp_iast d_105_64 rl_17.2.1 (by omega) (by omega) (by omega) ?_
      have RX := D_17.2.2.1.late (t0 := z_5) (d := z_11) (x := -1) (by omega) (by omega) (by omega) (by omega) (by omega)
      have hYX_ := D_17.2.2.1.1.2.1.2
      have SX : Sk (setI h_17 (G + 192 + z_5.toNat) z_11 (-1)) (G + 1) := D_17.2.1.kept (P := PD G X) (R := nP) (ch.fm (ch_setI (Or.inr (by omega)))) (fun a z => z.elim) (by omega)
      have kS_ : kd (setI h_17 (G + 192 + z_5.toNat) z_11 (-1)) (G + 1) = 1 := SX.1.1
      have nn_ : hi (setI h_17 (G + 192 + z_5.toNat) z_11 (-1)) (G + 1 + 1) 7 = hi h_17 (G + 1 + 1) 7 := congrFun RX.1.2.2 7
      refine wp_aload_n d_105_65 (by rfl) ?_
      refine wp_getR (0) d_105_66 fl_12_10 rfl rfl (by first | assumption | (simp only [kd_setI, kd_setR]; assumption)) (by first | assumption | (simp only [hr_setI]; assumption)) ?_
      refine wp_iload_n d_105_69 (by rfl) ?_
      refine wp_iload_n d_105_70 (by rfl) ?_
      refine wp_callV d_105_71 c_105_120 rfl (by rfl) (by rfl) ⟨0, rfl, rfl, by decide⟩ (by first | assumption | (simp only [kd_setI, kd_setR]; assumption)) (by exact Nat.le_of_ble_eq_true rfl) (by exact Nat.le_of_ble_eq_true rfl) (s_cancel SX RX.1.1 (by omega) (by omega)) (fun v_71 h_71 q_71 => ?_) (fun _ _ q => q.elim)
      obtain ⟨b_71, rfl, u_71, rfl⟩ := q_71
      have zz_71 : b_71 = 0 ∨ b_71 = 1 := by rcases u_71 with ⟨y, -⟩ | ⟨y, -⟩ <;> omega
      have eh := (RX.1.2.1 z_11).trans HS_17.1
      rw [← e_35] at eh
      have eq9 : (b_71 = 1 ↔ (x_35 = 1 ∧ 0 ≤ hi h_17 (G + 192 + z_5.toNat) z_11)) := by
        clear zz_71
        rcases u_71 with ⟨y, u⟩ | ⟨y, u⟩
        · exact ⟨fun _ => eh.mp u, fun _ => y⟩
        · exact ⟨fun z => absurd (y.symm.trans z) (by decide), fun z => absurd (eh.mpr z) u⟩
      refine wp_iload_n d_105_74 (by rfl) ?_
      refine wp_icmp_ne (tgt := 82) d_105_75 (by decide) (by omega) (by omega) (fun c_75 => ?_) (fun c_75 => ?_)
      · exact absurd c_75 (by omega)
      refine wp_iconst d_105_78 ?_
      refine wp_goto (tgt := 83) d_105_79 (by decide) ?_
      refine wp_zret d_105_83 rfl (by omega) ?_
      have cb := (D_17.2.2.1.1.2.2.2.2.2.1 z_5 y_5.1 (by omega)).1
      obtain ⟨c9_, x91_, x92_, x93_, -⟩ := adT_of D_17.2.2.1.1.1 y_5.1 (by omega)
      have hYX_ := D_17.2.2.1.1.2.1.2
      have C9 : ∀ b x : Int, ch (PD G X) nP h_17 (setI (setI h_17 (G + 192 + z_5.toNat) z_11 b) (adT h_17 (G + 1) z_5 + 4) z_11 x) := fun b x => (ch_setI (P := PD G X) (R := nP) (Or.inr (by omega))).trans (ch_setI (P := PD G X) (R := nP) (Or.inr (by omega)))
      refine ⟨rfl, (DrS.step D_17 (C9 _ _) RX.2 ?_ ?_).up (by omega), ((C_5.trans C_11).trans C_17).mono (fun a z => Or.inl z) (fun a z => z) |>.trans (C9 _ _)⟩
      · rw [hi_setI_ne (by omega), hi_setI_ne (by omega)]
      · rw [hi_setI_ne (by omega), hi_setI_ne (by omega)]
    · refine wp_aload_n d_105_39 (by rfl) ?_
      refine wp_getR (16) d_105_40 fl_12_49 rfl rfl (by first | assumption | (simp only [kd_setI, kd_setR]; assumption)) (by first | assumption | (simp only [hr_setI]; assumption)) ?_
      refine wp_iload_n d_105_43 (by rfl) ?_
      refine wp_aald d_105_44 (by have := mz16.1; omega) (by have := mz16.1; omega) (isRf_of mz16.1 rfl) (by omega) (by have := mz16.2.1; omega) rl_17.1 ?_
      refine wp_iload_n d_105_45 (by rfl) ?_
      refine wp_iald d_105_46 (Or.inl rl_17.2.1) (by omega) (by omega) (fun x_46 e_46 r_46 => ?_)
      refine wp_if_lt (tgt := 54) d_105_47 (by decide) (by omega) (fun c_47 => ?_) (fun c_47 => ?_)
      · refine wp_iconst d_105_54 ?_
        refine wp_istore_n d_105_55 (by decide) ?_
        refine wp_aload_n d_105_56 (by rfl) ?_
        refine wp_getR (16) d_105_57 fl_12_49 rfl rfl (by first | assumption | (simp only [kd_setI, kd_setR]; assumption)) (by first | assumption | (simp only [hr_setI]; assumption)) ?_
        refine wp_iload_n d_105_60 (by rfl) ?_
        refine wp_aald d_105_61 (by have := mz16.1; omega) (by have := mz16.1; omega) (isRf_of mz16.1 rfl) (by omega) (by have := mz16.2.1; omega) rl_17.1 ?_
        refine wp_iload_n d_105_62 (by rfl) ?_
        refine wp_iconst d_105_63 ?_
        refine wp_iast d_105_64 rl_17.2.1 (by omega) (by omega) (by omega) ?_
        have RX := D_17.2.2.1.late (t0 := z_5) (d := z_11) (x := -1) (by omega) (by omega) (by omega) (by omega) (by omega)
        have hYX_ := D_17.2.2.1.1.2.1.2
        have SX : Sk (setI h_17 (G + 192 + z_5.toNat) z_11 (-1)) (G + 1) := D_17.2.1.kept (P := PD G X) (R := nP) (ch.fm (ch_setI (Or.inr (by omega)))) (fun a z => z.elim) (by omega)
        have kS_ : kd (setI h_17 (G + 192 + z_5.toNat) z_11 (-1)) (G + 1) = 1 := SX.1.1
        have nn_ : hi (setI h_17 (G + 192 + z_5.toNat) z_11 (-1)) (G + 1 + 1) 7 = hi h_17 (G + 1 + 1) 7 := congrFun RX.1.2.2 7
        refine wp_aload_n d_105_65 (by rfl) ?_
        refine wp_getR (0) d_105_66 fl_12_10 rfl rfl (by first | assumption | (simp only [kd_setI, kd_setR]; assumption)) (by first | assumption | (simp only [hr_setI]; assumption)) ?_
        refine wp_iload_n d_105_69 (by rfl) ?_
        refine wp_iload_n d_105_70 (by rfl) ?_
        refine wp_callV d_105_71 c_105_120 rfl (by rfl) (by rfl) ⟨0, rfl, rfl, by decide⟩ (by first | assumption | (simp only [kd_setI, kd_setR]; assumption)) (by exact Nat.le_of_ble_eq_true rfl) (by exact Nat.le_of_ble_eq_true rfl) (s_cancel SX RX.1.1 (by omega) (by omega)) (fun v_71 h_71 q_71 => ?_) (fun _ _ q => q.elim)
        obtain ⟨b_71, rfl, u_71, rfl⟩ := q_71
        have zz_71 : b_71 = 0 ∨ b_71 = 1 := by rcases u_71 with ⟨y, -⟩ | ⟨y, -⟩ <;> omega
        have eh := (RX.1.2.1 z_11).trans HS_17.1
        rw [← e_35] at eh
        have eq9 : (b_71 = 1 ↔ (x_35 = 1 ∧ 0 ≤ hi h_17 (G + 192 + z_5.toNat) z_11)) := by
          clear zz_71
          rcases u_71 with ⟨y, u⟩ | ⟨y, u⟩
          · exact ⟨fun _ => eh.mp u, fun _ => y⟩
          · exact ⟨fun z => absurd (y.symm.trans z) (by decide), fun z => absurd (eh.mpr z) u⟩
        refine wp_iload_n d_105_74 (by rfl) ?_
        refine wp_icmp_ne (tgt := 82) d_105_75 (by decide) (by omega) (by omega) (fun c_75 => ?_) (fun c_75 => ?_)
        · exact absurd c_75 (by omega)
        refine wp_iconst d_105_78 ?_
        refine wp_goto (tgt := 83) d_105_79 (by decide) ?_
        refine wp_zret d_105_83 rfl (by omega) ?_
        have cb := (D_17.2.2.1.1.2.2.2.2.2.1 z_5 y_5.1 (by omega)).1
        obtain ⟨c9_, x91_, x92_, x93_, -⟩ := adT_of D_17.2.2.1.1.1 y_5.1 (by omega)
        have hYX_ := D_17.2.2.1.1.2.1.2
        have C9 : ∀ b x : Int, ch (PD G X) nP h_17 (setI (setI h_17 (G + 192 + z_5.toNat) z_11 b) (adT h_17 (G + 1) z_5 + 4) z_11 x) := fun b x => (ch_setI (P := PD G X) (R := nP) (Or.inr (by omega))).trans (ch_setI (P := PD G X) (R := nP) (Or.inr (by omega)))
        refine ⟨rfl, (DrS.step D_17 (C9 _ _) RX.2 ?_ ?_).up (by omega), ((C_5.trans C_11).trans C_17).mono (fun a z => Or.inl z) (fun a z => z) |>.trans (C9 _ _)⟩
        · rw [hi_setI_ne (by omega), hi_setI_ne (by omega)]
        · rw [hi_setI_ne (by omega), hi_setI_ne (by omega)]
      · refine wp_iconst d_105_50 ?_
        refine wp_goto (tgt := 55) d_105_51 (by decide) ?_
        refine wp_istore_n d_105_55 (by decide) ?_
        refine wp_aload_n d_105_56 (by rfl) ?_
        refine wp_getR (16) d_105_57 fl_12_49 rfl rfl (by first | assumption | (simp only [kd_setI, kd_setR]; assumption)) (by first | assumption | (simp only [hr_setI]; assumption)) ?_
        refine wp_iload_n d_105_60 (by rfl) ?_
        refine wp_aald d_105_61 (by have := mz16.1; omega) (by have := mz16.1; omega) (isRf_of mz16.1 rfl) (by omega) (by have := mz16.2.1; omega) rl_17.1 ?_
        refine wp_iload_n d_105_62 (by rfl) ?_
        refine wp_iconst d_105_63 ?_
        refine wp_iast d_105_64 rl_17.2.1 (by omega) (by omega) (by omega) ?_
        have RX := D_17.2.2.1.late (t0 := z_5) (d := z_11) (x := -1) (by omega) (by omega) (by omega) (by omega) (by omega)
        have hYX_ := D_17.2.2.1.1.2.1.2
        have SX : Sk (setI h_17 (G + 192 + z_5.toNat) z_11 (-1)) (G + 1) := D_17.2.1.kept (P := PD G X) (R := nP) (ch.fm (ch_setI (Or.inr (by omega)))) (fun a z => z.elim) (by omega)
        have kS_ : kd (setI h_17 (G + 192 + z_5.toNat) z_11 (-1)) (G + 1) = 1 := SX.1.1
        have nn_ : hi (setI h_17 (G + 192 + z_5.toNat) z_11 (-1)) (G + 1 + 1) 7 = hi h_17 (G + 1 + 1) 7 := congrFun RX.1.2.2 7
        refine wp_aload_n d_105_65 (by rfl) ?_
        refine wp_getR (0) d_105_66 fl_12_10 rfl rfl (by first | assumption | (simp only [kd_setI, kd_setR]; assumption)) (by first | assumption | (simp only [hr_setI]; assumption)) ?_
        refine wp_iload_n d_105_69 (by rfl) ?_
        refine wp_iload_n d_105_70 (by rfl) ?_
        refine wp_callV d_105_71 c_105_120 rfl (by rfl) (by rfl) ⟨0, rfl, rfl, by decide⟩ (by first | assumption | (simp only [kd_setI, kd_setR]; assumption)) (by exact Nat.le_of_ble_eq_true rfl) (by exact Nat.le_of_ble_eq_true rfl) (s_cancel SX RX.1.1 (by omega) (by omega)) (fun v_71 h_71 q_71 => ?_) (fun _ _ q => q.elim)
        obtain ⟨b_71, rfl, u_71, rfl⟩ := q_71
        have zz_71 : b_71 = 0 ∨ b_71 = 1 := by rcases u_71 with ⟨y, -⟩ | ⟨y, -⟩ <;> omega
        have eh := (RX.1.2.1 z_11).trans HS_17.1
        rw [← e_35] at eh
        have eq9 : (b_71 = 1 ↔ (x_35 = 1 ∧ 0 ≤ hi h_17 (G + 192 + z_5.toNat) z_11)) := by
          clear zz_71
          rcases u_71 with ⟨y, u⟩ | ⟨y, u⟩
          · exact ⟨fun _ => eh.mp u, fun _ => y⟩
          · exact ⟨fun z => absurd (y.symm.trans z) (by decide), fun z => absurd (eh.mpr z) u⟩
        refine wp_iload_n d_105_74 (by rfl) ?_
        refine wp_icmp_ne (tgt := 82) d_105_75 (by decide) (by omega) (by omega) (fun c_75 => ?_) (fun c_75 => ?_)
        · exact absurd c_75 (by omega)
        refine wp_iconst d_105_78 ?_
        refine wp_goto (tgt := 83) d_105_79 (by decide) ?_
        refine wp_zret d_105_83 rfl (by omega) ?_
        have cb := (D_17.2.2.1.1.2.2.2.2.2.1 z_5 y_5.1 (by omega)).1
        obtain ⟨c9_, x91_, x92_, x93_, -⟩ := adT_of D_17.2.2.1.1.1 y_5.1 (by omega)
        have hYX_ := D_17.2.2.1.1.2.1.2
        have C9 : ∀ b x : Int, ch (PD G X) nP h_17 (setI (setI h_17 (G + 192 + z_5.toNat) z_11 b) (adT h_17 (G + 1) z_5 + 4) z_11 x) := fun b x => (ch_setI (P := PD G X) (R := nP) (Or.inr (by omega))).trans (ch_setI (P := PD G X) (R := nP) (Or.inr (by omega)))
        refine ⟨rfl, (DrS.step D_17 (C9 _ _) RX.2 ?_ ?_).up (by omega), ((C_5.trans C_11).trans C_17).mono (fun a z => Or.inl z) (fun a z => z) |>.trans (C9 _ _)⟩
        · rw [hi_setI_ne (by omega), hi_setI_ne (by omega)]
        · rw [hi_setI_ne (by omega), hi_setI_ne (by omega)]
