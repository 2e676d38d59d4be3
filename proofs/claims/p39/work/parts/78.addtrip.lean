/-! ===== addTrip as a whole ===== -/
set_option maxRecDepth 100000 in
set_option maxHeartbeats 4000000 in
theorem l_tHead {G sa : Nat} {S N D m K p cc : Int} {g : Hp} (q : DrT g G sa (nx g) S (N + 1) D) (hD : D ≤ 700000) (hS : S = hi g (G + 1 + 1) 4) (hS1 : 1 ≤ S) (hN : 0 ≤ N ∧ N < 8) (h7 : hi g (G + 1 + 1) 7 = N) (hm : 0 ≤ m ∧ m ≤ 2879) (eK : hi g (G + 163) N = K) (hK : 1 ≤ K ∧ K ≤ 5) (ep : hi g (G + 162) N = p) (hp : 0 ≤ p ∧ p ≤ 500) (ec : hi g (G + 161) N = cc) (hcc : 0 ≤ cc ∧ cc < hi g (G + 1 + 1) 6) (r1 : nx g + 5 ≤ cn g) (r2 : us g + 398 ≤ cs g) : wp 104 83 [some (vR (some G)), some (vI N), some (vI m), some (vI 0)] [] g (fun v h' => v = some (vI 1) ∧ DrS h' G sa (nx h') (D + 20) ∧ fm (PB G) (RB G) g h' ∧ nx h' = nx g + 5 ∧ us h' = us g + 398 ∧ (∀ k, k ≠ 7 → hi h' (G + 1 + 1) k = hi g (G + 1 + 1) k) ∧ hi h' (G + 1 + 1) 7 = hi g (G + 1 + 1) 7 + 1) noX := by
  obtain ⟨⟨tk, tr0, tr1, tr4, tr6, tr8, tr10, tr11, tr12, tr13, tr14, tr15, tr16⟩, ⟨⟨a4, b4⟩, ⟨a6, b6⟩, ⟨a10, b10⟩, ⟨a11, b11⟩, a12, b12⟩, ⟨mz8, mz13, mz14, mz15, mz16⟩, -⟩ := q.1
  obtain ⟨rn3, rn5, rn7, rn9⟩ := q.2.2.1.2.1
  obtain ⟨cn4, cn5, cn6, cn7⟩ := q.2.2.2.1
  refine wp_iload_n d_104_83 (by rfl) ?_
  refine wp_aload_n d_104_84 (by rfl) ?_
  refine wp_getR (12) d_104_85 fl_12_36 rfl rfl (by first | assumption | (simp only [kd_setI, kd_setR]; assumption)) (by first | assumption | (simp only [hr_setI]; assumption)) ?_
  refine wp_iload_n d_104_88 (by rfl) ?_
  refine wp_iald d_104_89 (Or.inl a12) (by omega) (by omega) (fun x_89 e_89 r_89 => ?_)
  rw [eK] at e_89
  replace e_89 := e_89.symm
  subst e_89
  refine wp_icmp_ge (tgt := 265) d_104_90 (by decide) (by omega) (by omega) (fun c_90 => ?_) (fun c_90 => ?_)
  · exact absurd c_90 (by omega)
  refine wp_to [some (vR (some G)), some (vI N), some (vI m), some (vI 0)] ⟨rfl, rfl, rfl, rfl, trivial⟩ ?_
  refine l_tBody (m := m) (c := 0) q (by omega) hN ⟨by omega, by omega⟩ ⟨by omega, by omega⟩ hm (fun g1 s x y m1 y1 y2 y3 y4 y5 y6 y7 y8 y9 y10 y11 y12 y13 => ?_)
  have n1_ : hi g1 (G + 1 + 1) = hi g (G + 1 + 1) := y3 _ (by omega) (by omega) (by omega) (by omega)
  have n14 := congrFun n1_ 4
  have n16 := congrFun n1_ 6
  have n17 := congrFun n1_ 7
  have x1 : nx g1 = nx g := y2.2.2.2.1
  have u1 : us g1 = us g := y2.2.2.2.2.1
  have v1 : cn g1 = cn g := y2.2.2.2.2.2.1
  have w1 : cs g1 = cs g := y2.2.2.2.2.2.2.1
  have y1' : DrT g1 G sa (nx g1) S (N + 1) (D + 4) := by rw [x1]; exact y1
  refine l_tFirst (m := m1) (s := s) (y := y) (K := K) (p := p) (cc := cc) y1' hN (by omega) ⟨by omega, by omega⟩ ⟨by omega, by omega⟩ y4 y6 (by rw [y3 _ (by omega) (by omega) (by omega) (by omega)]; exact ep) (by rw [y3 _ (by omega) (by omega) (by omega) (by omega)]; exact ec) hp ⟨by omega, by omega⟩ (by omega) (by omega) (fun g2 w1 w2 w3 w4 w5 w6 w7 w8 w9 => ?_)
  have w54 := w5 4 (by decide)
  refine wp_mono (fun v h' z => ?_) (fun _ _ z => z) (l_tRest (K := K) hN hK (K - 1).toNat g2 (D + 4) 1 m1 (by omega) (by omega) (by omega) (w1.toS (by omega) (by omega)) (by omega) (by rw [w9 _ (by omega) (by omega), y3 _ (by omega) (by omega) (by omega) (by omega)]; exact eK) w7 (by rw [show (1 : Int) - 1 = 0 from rfl, w8]; exact y12) ⟨by omega, by omega⟩ (by omega))
  obtain ⟨z1, z2, z3, z4, z5, z6⟩ := z
  refine ⟨z1, z2.up (by omega), ((y2.fm.mono (fun a z => ?_) (fun a z => z.elim)).trans w2).trans z3, by omega, by omega, fun k hk => by rw [z6, w5 k hk, n1_], by rw [z6, w6, h7]⟩
  have z : a = G ∨ a = G + 155 ∨ (G + 162 ≤ a ∧ a < G + 192) := z
  show a = G ∨ (G + 2 ≤ a ∧ a ≤ G + 6) ∨ G + 155 ≤ a
  omega
set_option maxRecDepth 100000 in
set_option maxHeartbeats 4000000 in
theorem s_tAddTrip {G sa : Nat} {D : Int} {h : Hp} (q : DrS h G sa (nx h) D) (hD : D ≤ 600000) (h8 : hi h (G + 1 + 1) 7 < 8) (hc : 1 ≤ hi h (G + 1 + 1) 6) (hS1 : 1 ≤ hi h (G + 1 + 1) 4) (r1 : nx h + 5 ≤ cn h) (r2 : us h + 398 ≤ cs h) : wp 104 0 (entL [vR (some G)] (mL 104)) [] h (fun v h' => v = some (vI 1) ∧ DrS h' G sa (nx h') (D + 30) ∧ fm (PB G) (RB G) h h' ∧ nx h' = nx h + 5 ∧ us h' = us h + 398 ∧ (∀ k, k ≠ 7 → hi h' (G + 1 + 1) k = hi h (G + 1 + 1) k) ∧ hi h' (G + 1 + 1) 7 = hi h (G + 1 + 1) 7 + 1) noX := by
  have hX0 := q.1.2.2.2.2.2.2
  have h07 := q.2.2.1.1.1.2.2.1.1
  obtain ⟨⟨tk, tr0, tr1, tr4, tr6, tr8, tr10, tr11, tr12, tr13, tr14, tr15, tr16⟩, ⟨⟨a4, b4⟩, ⟨a6, b6⟩, ⟨a10, b10⟩, ⟨a11, b11⟩, a12, b12⟩, ⟨mz8, mz13, mz14, mz15, mz16⟩, -⟩ := q.toT.1
  obtain ⟨rn3, rn5, rn7, rn9⟩ := q.toT.2.2.1.2.1
  obtain ⟨cn4, cn5, cn6, cn7⟩ := q.toT.2.2.2.1
  refine wp_aload_n d_104_0 (by rfl) ?_
  refine wp_dup d_104_1 (by rfl) ?_
  refine wp_getI (9) d_104_2 fl_12_87 rfl rfl tk (fun x_2 e_2 r_2 => ?_)
  rw [rn9] at e_2
  generalize hNN : hi h (G + 1 + 1) 7 = N at *
  subst x_2
  have hN : 0 ≤ N ∧ N < 8 := ⟨by omega, by omega⟩
  refine wp_dup_x1 d_104_5 (by rfl) (by rfl) ?_
  refine wp_iconst d_104_6 ?_
  refine wp_iadd d_104_7 ?_
  refine wp_putI (9) d_104_8 fl_12_87 rfl rfl (Or.inl (by rfl)) (by first | assumption | (simp only [kd_setI, kd_setR]; assumption)) (by omega) (fun q => nomatch q) ?_
  have D_8 : DrT (setI h G 9 (N + 1)) G sa (nx h) (hi h (G + 1 + 1) 4) (N + 1) D := by
    have e : ∀ k, k ≠ 9 → hi (setI h G 9 (N + 1)) G k = hi h G k := fun k hk => by rw [hi_upF, upF_ne _ hk]
    exact q.toT.same (ch_setI (Or.inl rfl)) (e 5 (by decide)) (e 7 (by decide)) ((e 3 (by decide)).trans rn3) (by rw [hi_upF, upF_same]) (by rw [e 2 (by decide)]; exact q.2.2.2.2)
  have K_8 : ∀ a, a ≠ G → hi (setI h G 9 (N + 1)) a = hi h a := fun a ha => hi_setI_ne ha
  have C_8 : ch (PU G) nP h (setI h G 9 (N + 1)) := ch_setI (Or.inl rfl)
  have n4_8 := congrFun (K_8 (G + 1 + 1) (by omega)) 4
  have n6_8 := congrFun (K_8 (G + 1 + 1) (by omega)) 6
  have n7_8 := congrFun (K_8 (G + 1 + 1) (by omega)) 7
  generalize setI h G 9 (N + 1) = h_8 at D_8 K_8 C_8 n4_8 n6_8 n7_8 ⊢
  clear tk tr0 tr1 tr4 tr6 tr8 tr10 tr11 tr12 tr13 tr14 tr15 tr16 a4 b4 a6 b6 a10 b10 a11 b11 a12 b12 mz8 mz13 mz14 mz15 mz16 rn3 rn5 rn7 rn9 cn4 cn5 cn6 cn7
  obtain ⟨⟨tk, tr0, tr1, tr4, tr6, tr8, tr10, tr11, tr12, tr13, tr14, tr15, tr16⟩, ⟨⟨a4, b4⟩, ⟨a6, b6⟩, ⟨a10, b10⟩, ⟨a11, b11⟩, a12, b12⟩, ⟨mz8, mz13, mz14, mz15, mz16⟩, -⟩ := D_8.1
  obtain ⟨rn3, rn5, rn7, rn9⟩ := D_8.2.2.1.2.1
  obtain ⟨cn4, cn5, cn6, cn7⟩ := D_8.2.2.2.1
  refine wp_istore_n d_104_11 (by decide) ?_
  refine wp_aload_n d_104_12 (by rfl) ?_
  refine wp_getR (10) d_104_13 fl_12_30 rfl rfl (by first | assumption | (simp only [kd_setI, kd_setR]; assumption)) (by first | assumption | (simp only [hr_setI]; assumption)) ?_
  refine wp_iload_n d_104_16 (by rfl) ?_
  refine wp_aload_n d_104_17 (by rfl) ?_
  refine wp_aload_n d_104_18 (by rfl) ?_
  refine wp_getI (7) d_104_19 fl_12_73 rfl rfl (by first | assumption | (simp only [kd_setI, kd_setR]; assumption)) (fun x_19 e_19 r_19 => ?_)
  subst e_19
  refine wp_callV d_104_22 c_104_69 rfl (by rfl) (by rfl) ⟨12, rfl, rfl, by decide⟩ (by first | assumption | (simp only [kd_setI, kd_setR]; assumption)) (by exact Nat.le_of_ble_eq_true rfl) (by exact Nat.le_of_ble_eq_true rfl) (s_drawT D_8 (by omega) (by omega)) (fun v_22 h_22 q_22 => ?_) (fun _ _ q => q.elim)
  have rg7 := rn7
  clear tk tr0 tr1 tr4 tr6 tr8 tr10 tr11 tr12 tr13 tr14 tr15 tr16 a4 b4 a6 b6 a10 b10 a11 b11 a12 b12 mz8 mz13 mz14 mz15 mz16 rn3 rn5 rn7 rn9 cn4 cn5 cn6 cn7
  obtain ⟨z_22, rfl, y_22, D_22, C_22, K_22, M_22⟩ := q_22
  have N_22 := K_22 (G + 1 + 1) (by omega)
  have n4_22 := congrFun N_22 4
  have n6_22 := congrFun N_22 6
  have n7_22 := congrFun N_22 7
  obtain ⟨⟨tk, tr0, tr1, tr4, tr6, tr8, tr10, tr11, tr12, tr13, tr14, tr15, tr16⟩, ⟨⟨a4, b4⟩, ⟨a6, b6⟩, ⟨a10, b10⟩, ⟨a11, b11⟩, a12, b12⟩, ⟨mz8, mz13, mz14, mz15, mz16⟩, -⟩ := D_22.1
  obtain ⟨rn3, rn5, rn7, rn9⟩ := D_22.2.2.1.2.1
  obtain ⟨cn4, cn5, cn6, cn7⟩ := D_22.2.2.2.1
  refine wp_iast d_104_25 a10 (by omega) (by omega) (by omega) ?_
  have D_25 := D_22.cal_ (k := N) (v := z_22) (by omega)
  have K_25 : ∀ a, a ≠ G + 161 → hi (setI h_22 (G + 161) N (z_22)) a = hi h_22 a := fun a ha => hi_setI_ne ha
  have V_25 : hi (setI h_22 (G + 161) N (z_22)) (G + 161) = upF (hi h_22 (G + 161)) N (z_22) := hi_upF _ _ _ _
  have C_25 : ch (PU G) nP h_22 (setI h_22 (G + 161) N (z_22)) := ch_setI (Or.inr ⟨by omega, by omega⟩)
  have n4_25 := congrFun (K_25 (G + 1 + 1) (by omega)) 4
  have n6_25 := congrFun (K_25 (G + 1 + 1) (by omega)) 6
  have n7_25 := congrFun (K_25 (G + 1 + 1) (by omega)) 7
  generalize setI h_22 (G + 161) N (z_22) = h_25 at D_25 K_25 V_25 C_25 n4_25 n6_25 n7_25 ⊢
  clear tk tr0 tr1 tr4 tr6 tr8 tr10 tr11 tr12 tr13 tr14 tr15 tr16 a4 b4 a6 b6 a10 b10 a11 b11 a12 b12 mz8 mz13 mz14 mz15 mz16 rn3 rn5 rn7 rn9 cn4 cn5 cn6 cn7
  obtain ⟨⟨tk, tr0, tr1, tr4, tr6, tr8, tr10, tr11, tr12, tr13, tr14, tr15, tr16⟩, ⟨⟨a4, b4⟩, ⟨a6, b6⟩, ⟨a10, b10⟩, ⟨a11, b11⟩, a12, b12⟩, ⟨mz8, mz13, mz14, mz15, mz16⟩, -⟩ := D_25.1
  obtain ⟨rn3, rn5, rn7, rn9⟩ := D_25.2.2.1.2.1
  obtain ⟨cn4, cn5, cn6, cn7⟩ := D_25.2.2.2.1
  refine wp_aload_n d_104_26 (by rfl) ?_
  refine wp_getR (11) d_104_27 fl_12_33 rfl rfl (by first | assumption | (simp only [kd_setI, kd_setR]; assumption)) (by first | assumption | (simp only [hr_setI]; assumption)) ?_
  refine wp_iload_n d_104_30 (by rfl) ?_
  refine wp_aload_n d_104_31 (by rfl) ?_
  refine wp_bipush d_104_32 (by decide) ?_
  refine wp_callV d_104_34 c_104_69 rfl (by rfl) (by rfl) ⟨12, rfl, rfl, by decide⟩ (by first | assumption | (simp only [kd_setI, kd_setR]; assumption)) (by exact Nat.le_of_ble_eq_true rfl) (by exact Nat.le_of_ble_eq_true rfl) (s_drawT D_25 (by omega) (by omega)) (fun v_34 h_34 q_34 => ?_) (fun _ _ q => q.elim)
  clear tk tr0 tr1 tr4 tr6 tr8 tr10 tr11 tr12 tr13 tr14 tr15 tr16 a4 b4 a6 b6 a10 b10 a11 b11 a12 b12 mz8 mz13 mz14 mz15 mz16 rn3 rn5 rn7 rn9 cn4 cn5 cn6 cn7
  obtain ⟨z_34, rfl, y_34, D_34, C_34, K_34, M_34⟩ := q_34
  have N_34 := K_34 (G + 1 + 1) (by omega)
  have n4_34 := congrFun N_34 4
  have n6_34 := congrFun N_34 6
  have n7_34 := congrFun N_34 7
  obtain ⟨⟨tk, tr0, tr1, tr4, tr6, tr8, tr10, tr11, tr12, tr13, tr14, tr15, tr16⟩, ⟨⟨a4, b4⟩, ⟨a6, b6⟩, ⟨a10, b10⟩, ⟨a11, b11⟩, a12, b12⟩, ⟨mz8, mz13, mz14, mz15, mz16⟩, -⟩ := D_34.1
  obtain ⟨rn3, rn5, rn7, rn9⟩ := D_34.2.2.1.2.1
  obtain ⟨cn4, cn5, cn6, cn7⟩ := D_34.2.2.2.1
  refine wp_iast d_104_37 a11 (by omega) (by omega) (by omega) ?_
  have D_37 := D_34.row (o := G + 162) (k := N) (v := z_34) (by omega)
  have K_37 : ∀ a, a ≠ G + 162 → hi (setI h_34 (G + 162) N (z_34)) a = hi h_34 a := fun a ha => hi_setI_ne ha
  have V_37 : hi (setI h_34 (G + 162) N (z_34)) (G + 162) = upF (hi h_34 (G + 162)) N (z_34) := hi_upF _ _ _ _
  have C_37 : ch (PU G) nP h_34 (setI h_34 (G + 162) N (z_34)) := ch_setI (Or.inr ⟨by omega, by omega⟩)
  have n4_37 := congrFun (K_37 (G + 1 + 1) (by omega)) 4
  have n6_37 := congrFun (K_37 (G + 1 + 1) (by omega)) 6
  have n7_37 := congrFun (K_37 (G + 1 + 1) (by omega)) 7
  generalize setI h_34 (G + 162) N (z_34) = h_37 at D_37 K_37 V_37 C_37 n4_37 n6_37 n7_37 ⊢
  clear tk tr0 tr1 tr4 tr6 tr8 tr10 tr11 tr12 tr13 tr14 tr15 tr16 a4 b4 a6 b6 a10 b10 a11 b11 a12 b12 mz8 mz13 mz14 mz15 mz16 rn3 rn5 rn7 rn9 cn4 cn5 cn6 cn7
  obtain ⟨⟨tk, tr0, tr1, tr4, tr6, tr8, tr10, tr11, tr12, tr13, tr14, tr15, tr16⟩, ⟨⟨a4, b4⟩, ⟨a6, b6⟩, ⟨a10, b10⟩, ⟨a11, b11⟩, a12, b12⟩, ⟨mz8, mz13, mz14, mz15, mz16⟩, -⟩ := D_37.1
  obtain ⟨rn3, rn5, rn7, rn9⟩ := D_37.2.2.1.2.1
  obtain ⟨cn4, cn5, cn6, cn7⟩ := D_37.2.2.2.1
  refine wp_aload_n d_104_38 (by rfl) ?_
  refine wp_getR (12) d_104_39 fl_12_36 rfl rfl (by first | assumption | (simp only [kd_setI, kd_setR]; assumption)) (by first | assumption | (simp only [hr_setI]; assumption)) ?_
  refine wp_iload_n d_104_42 (by rfl) ?_
  refine wp_iconst d_104_43 ?_
  refine wp_aload_n d_104_44 (by rfl) ?_
  refine wp_iconst d_104_45 ?_
  refine wp_callV d_104_46 c_104_69 rfl (by rfl) (by rfl) ⟨12, rfl, rfl, by decide⟩ (by first | assumption | (simp only [kd_setI, kd_setR]; assumption)) (by exact Nat.le_of_ble_eq_true rfl) (by exact Nat.le_of_ble_eq_true rfl) (s_drawT D_37 (by omega) (by omega)) (fun v_46 h_46 q_46 => ?_) (fun _ _ q => q.elim)
  clear tk tr0 tr1 tr4 tr6 tr8 tr10 tr11 tr12 tr13 tr14 tr15 tr16 a4 b4 a6 b6 a10 b10 a11 b11 a12 b12 mz8 mz13 mz14 mz15 mz16 rn3 rn5 rn7 rn9 cn4 cn5 cn6 cn7
  obtain ⟨z_46, rfl, y_46, D_46, C_46, K_46, M_46⟩ := q_46
  have N_46 := K_46 (G + 1 + 1) (by omega)
  have n4_46 := congrFun N_46 4
  have n6_46 := congrFun N_46 6
  have n7_46 := congrFun N_46 7
  obtain ⟨⟨tk, tr0, tr1, tr4, tr6, tr8, tr10, tr11, tr12, tr13, tr14, tr15, tr16⟩, ⟨⟨a4, b4⟩, ⟨a6, b6⟩, ⟨a10, b10⟩, ⟨a11, b11⟩, a12, b12⟩, ⟨mz8, mz13, mz14, mz15, mz16⟩, -⟩ := D_46.1
  obtain ⟨rn3, rn5, rn7, rn9⟩ := D_46.2.2.1.2.1
  obtain ⟨cn4, cn5, cn6, cn7⟩ := D_46.2.2.2.1
  refine wp_iadd d_104_49 ?_
  refine wp_iast d_104_50 a12 (by omega) (by omega) (by omega) ?_
  have D_50 := D_46.row (o := G + 163) (k := N) (v := 1 + z_46) (by omega)
  have K_50 : ∀ a, a ≠ G + 163 → hi (setI h_46 (G + 163) N (1 + z_46)) a = hi h_46 a := fun a ha => hi_setI_ne ha
  have V_50 : hi (setI h_46 (G + 163) N (1 + z_46)) (G + 163) = upF (hi h_46 (G + 163)) N (1 + z_46) := hi_upF _ _ _ _
  have C_50 : ch (PU G) nP h_46 (setI h_46 (G + 163) N (1 + z_46)) := ch_setI (Or.inr ⟨by omega, by omega⟩)
  have n4_50 := congrFun (K_50 (G + 1 + 1) (by omega)) 4
  have n6_50 := congrFun (K_50 (G + 1 + 1) (by omega)) 6
  have n7_50 := congrFun (K_50 (G + 1 + 1) (by omega)) 7
  generalize setI h_46 (G + 163) N (1 + z_46) = h_50 at D_50 K_50 V_50 C_50 n4_50 n6_50 n7_50 ⊢
  clear tk tr0 tr1 tr4 tr6 tr8 tr10 tr11 tr12 tr13 tr14 tr15 tr16 a4 b4 a6 b6 a10 b10 a11 b11 a12 b12 mz8 mz13 mz14 mz15 mz16 rn3 rn5 rn7 rn9 cn4 cn5 cn6 cn7
  obtain ⟨⟨tk, tr0, tr1, tr4, tr6, tr8, tr10, tr11, tr12, tr13, tr14, tr15, tr16⟩, ⟨⟨a4, b4⟩, ⟨a6, b6⟩, ⟨a10, b10⟩, ⟨a11, b11⟩, a12, b12⟩, ⟨mz8, mz13, mz14, mz15, mz16⟩, -⟩ := D_50.1
  obtain ⟨rn3, rn5, rn7, rn9⟩ := D_50.2.2.1.2.1
  obtain ⟨cn4, cn5, cn6, cn7⟩ := D_50.2.2.2.1
  refine wp_aload_n d_104_51 (by rfl) ?_
  refine wp_iconst d_104_52 ?_
  refine wp_callV d_104_53 c_104_69 rfl (by rfl) (by rfl) ⟨12, rfl, rfl, by decide⟩ (by first | assumption | (simp only [kd_setI, kd_setR]; assumption)) (by exact Nat.le_of_ble_eq_true rfl) (by exact Nat.le_of_ble_eq_true rfl) (s_drawT D_50 (by omega) (by omega)) (fun v_53 h_53 q_53 => ?_) (fun _ _ q => q.elim)
  clear tk tr0 tr1 tr4 tr6 tr8 tr10 tr11 tr12 tr13 tr14 tr15 tr16 a4 b4 a6 b6 a10 b10 a11 b11 a12 b12 mz8 mz13 mz14 mz15 mz16 rn3 rn5 rn7 rn9 cn4 cn5 cn6 cn7
  obtain ⟨z_53, rfl, y_53, D_53, C_53, K_53, M_53⟩ := q_53
  have N_53 := K_53 (G + 1 + 1) (by omega)
  have n4_53 := congrFun N_53 4
  have n6_53 := congrFun N_53 6
  have n7_53 := congrFun N_53 7
  obtain ⟨⟨tk, tr0, tr1, tr4, tr6, tr8, tr10, tr11, tr12, tr13, tr14, tr15, tr16⟩, ⟨⟨a4, b4⟩, ⟨a6, b6⟩, ⟨a10, b10⟩, ⟨a11, b11⟩, a12, b12⟩, ⟨mz8, mz13, mz14, mz15, mz16⟩, -⟩ := D_53.1
  obtain ⟨rn3, rn5, rn7, rn9⟩ := D_53.2.2.1.2.1
  obtain ⟨cn4, cn5, cn6, cn7⟩ := D_53.2.2.2.1
  refine wp_if_ne (tgt := 69) d_104_56 (by decide) (by omega) (fun c_56 => ?_) (fun c_56 => ?_)
  · refine wp_sipush d_104_69 (by decide) ?_
    refine wp_aload_n d_104_72 (by rfl) ?_
    refine wp_sipush d_104_73 (by decide) ?_
    refine wp_callV d_104_76 c_104_69 rfl (by rfl) (by rfl) ⟨12, rfl, rfl, by decide⟩ (by first | assumption | (simp only [kd_setI, kd_setR]; assumption)) (by exact Nat.le_of_ble_eq_true rfl) (by exact Nat.le_of_ble_eq_true rfl) (s_drawT D_53 (by omega) (by omega)) (fun v_76 h_76 q_76 => ?_) (fun _ _ q => q.elim)
    clear tk tr0 tr1 tr4 tr6 tr8 tr10 tr11 tr12 tr13 tr14 tr15 tr16 a4 b4 a6 b6 a10 b10 a11 b11 a12 b12 mz8 mz13 mz14 mz15 mz16 rn3 rn5 rn7 rn9 cn4 cn5 cn6 cn7
    obtain ⟨z_76, rfl, y_76, D_76, C_76, K_76, M_76⟩ := q_76
    have N_76 := K_76 (G + 1 + 1) (by omega)
    have n4_76 := congrFun N_76 4
    have n6_76 := congrFun N_76 6
    have n7_76 := congrFun N_76 7
    obtain ⟨⟨tk, tr0, tr1, tr4, tr6, tr8, tr10, tr11, tr12, tr13, tr14, tr15, tr16⟩, ⟨⟨a4, b4⟩, ⟨a6, b6⟩, ⟨a10, b10⟩, ⟨a11, b11⟩, a12, b12⟩, ⟨mz8, mz13, mz14, mz15, mz16⟩, -⟩ := D_76.1
    obtain ⟨rn3, rn5, rn7, rn9⟩ := D_76.2.2.1.2.1
    obtain ⟨cn4, cn5, cn6, cn7⟩ := D_76.2.2.2.1
    refine wp_iadd d_104_79 ?_
    refine wp_istore_n d_104_80 (by decide) ?_
    refine wp_iconst d_104_81 ?_
    refine wp_istore_n d_104_82 (by decide) ?_
    first
      | (
        have CB : ch (PU G) nP h h_63 := ((((((((C_8.trans (C_22.mono (fun a z => Or.inl z) (fun a z => z))).trans C_25).trans (C_34.mono (fun a z => Or.inl z) (fun a z => z))).trans C_37).trans (C_46.mono (fun a z => Or.inl z) (fun a z => z))).trans C_50).trans (C_53.mono (fun a z => Or.inl z) (fun a z => z))).trans (C_63.mono (fun a z => Or.inl z) (fun a z => z)))
        have KB : ∀ a, a ≠ G → a ≠ G + 161 → a ≠ G + 162 → a ≠ G + 163 → hi h_63 a = hi h a := fun a z0 z1 z2 z3 => (K_63 a z0).trans ((K_53 a z0).trans ((K_50 a z3).trans ((K_46 a z0).trans ((K_37 a z2).trans ((K_34 a z0).trans ((K_25 a z1).trans ((K_22 a z0).trans (K_8 a z0))))))))
        have NB := KB (G + 1 + 1) (by omega) (by omega) (by omega) (by omega)
        have nb4 := congrFun NB 4
        have nb6 := congrFun NB 6
        have nb7 := congrFun NB 7
        have eK : hi h_63 (G + 163) N = 1 + z_46 := by rw [K_63 _ (by omega), K_53 _ (by omega), V_50, upF_same]
        have ep : hi h_63 (G + 162) N = z_34 := by rw [K_63 _ (by omega), K_53 _ (by omega), K_50 _ (by omega), K_46 _ (by omega), V_37, upF_same]
        have ec : hi h_63 (G + 161) N = z_22 := by rw [K_63 _ (by omega), K_53 _ (by omega), K_50 _ (by omega), K_46 _ (by omega), K_37 _ (by omega), K_34 _ (by omega), V_25, upF_same]
        have xB : nx h_63 = nx h := CB.2.2.2.1
        have uB : us h_63 = us h := CB.2.2.2.2.1
        have vB : cn h_63 = cn h := CB.2.2.2.2.2.1
        have wB : cs h_63 = cs h := CB.2.2.2.2.2.2.1
        refine wp_to [some (vR (some G)), some (vI N), some (vI z_63), some (vI 0)] ⟨rfl, rfl, rfl, rfl, trivial⟩ ?_
        have DL : DrT h_63 G sa (nx h_63) (hi h (G + 1 + 1) 4) (N + 1) (D + 6) := by rw [xB]; exact D_63.up (by omega)
        refine wp_mono (fun v h' y => ?_) (fun _ _ y => y) (l_tHead (m := z_63) DL (by omega) (by omega) (by omega) hN (by omega) ⟨by omega, by omega⟩ eK ⟨by omega, by omega⟩ ep ⟨by omega, by omega⟩ ec ⟨by omega, by omega⟩ (by omega) (by omega))
        obtain ⟨z1, z2, z3, z4, z5, z6, z7⟩ := y
        refine ⟨z1, z2.up (by omega), (CB.fm.mono (fun a z => ?_) (fun a z => z.elim)).trans z3, by omega, by omega, fun k hk => by rw [z6 k hk, NB], by rw [z7]; omega⟩
        have z : a = G ∨ (G + 155 ≤ a ∧ a < G + 192) := z
        show a = G ∨ (G + 2 ≤ a ∧ a ≤ G + 6) ∨ G + 155 ≤ a
        omega
        )
      | (
        have CB : ch (PU G) nP h h_76 := ((((((((C_8.trans (C_22.mono (fun a z => Or.inl z) (fun a z => z))).trans C_25).trans (C_34.mono (fun a z => Or.inl z) (fun a z => z))).trans C_37).trans (C_46.mono (fun a z => Or.inl z) (fun a z => z))).trans C_50).trans (C_53.mono (fun a z => Or.inl z) (fun a z => z))).trans (C_76.mono (fun a z => Or.inl z) (fun a z => z)))
        have KB : ∀ a, a ≠ G → a ≠ G + 161 → a ≠ G + 162 → a ≠ G + 163 → hi h_76 a = hi h a := fun a z0 z1 z2 z3 => (K_76 a z0).trans ((K_53 a z0).trans ((K_50 a z3).trans ((K_46 a z0).trans ((K_37 a z2).trans ((K_34 a z0).trans ((K_25 a z1).trans ((K_22 a z0).trans (K_8 a z0))))))))
        have NB := KB (G + 1 + 1) (by omega) (by omega) (by omega) (by omega)
        have nb4 := congrFun NB 4
        have nb6 := congrFun NB 6
        have nb7 := congrFun NB 7
        have eK : hi h_76 (G + 163) N = 1 + z_46 := by rw [K_76 _ (by omega), K_53 _ (by omega), V_50, upF_same]
        have ep : hi h_76 (G + 162) N = z_34 := by rw [K_76 _ (by omega), K_53 _ (by omega), K_50 _ (by omega), K_46 _ (by omega), V_37, upF_same]
        have ec : hi h_76 (G + 161) N = z_22 := by rw [K_76 _ (by omega), K_53 _ (by omega), K_50 _ (by omega), K_46 _ (by omega), K_37 _ (by omega), K_34 _ (by omega), V_25, upF_same]
        have xB : nx h_76 = nx h := CB.2.2.2.1
        have uB : us h_76 = us h := CB.2.2.2.2.1
        have vB : cn h_76 = cn h := CB.2.2.2.2.2.1
        have wB : cs h_76 = cs h := CB.2.2.2.2.2.2.1
        refine wp_to [some (vR (some G)), some (vI N), some (vI (360 + z_76)), some (vI 0)] ⟨rfl, rfl, rfl, rfl, trivial⟩ ?_
        have DL : DrT h_76 G sa (nx h_76) (hi h (G + 1 + 1) 4) (N + 1) (D + 6) := by rw [xB]; exact D_76.up (by omega)
        refine wp_mono (fun v h' y => ?_) (fun _ _ y => y) (l_tHead (m := (360 + z_76)) DL (by omega) (by omega) (by omega) hN (by omega) ⟨by omega, by omega⟩ eK ⟨by omega, by omega⟩ ep ⟨by omega, by omega⟩ ec ⟨by omega, by omega⟩ (by omega) (by omega))
        obtain ⟨z1, z2, z3, z4, z5, z6, z7⟩ := y
        refine ⟨z1, z2.up (by omega), (CB.fm.mono (fun a z => ?_) (fun a z => z.elim)).trans z3, by omega, by omega, fun k hk => by rw [z6 k hk, NB], by rw [z7]; omega⟩
        have z : a = G ∨ (G + 155 ≤ a ∧ a < G + 192) := z
        show a = G ∨ (G + 2 ≤ a ∧ a ≤ G + 6) ∨ G + 155 ≤ a
        omega
        )
  · refine wp_aload_n d_104_59 (by rfl) ?_
    refine wp_sipush d_104_60 (by decide) ?_
    refine wp_callV d_104_63 c_104_69 rfl (by rfl) (by rfl) ⟨12, rfl, rfl, by decide⟩ (by first | assumption | (simp only [kd_setI, kd_setR]; assumption)) (by exact Nat.le_of_ble_eq_true rfl) (by exact Nat.le_of_ble_eq_true rfl) (s_drawT D_53 (by omega) (by omega)) (fun v_63 h_63 q_63 => ?_) (fun _ _ q => q.elim)
    clear tk tr0 tr1 tr4 tr6 tr8 tr10 tr11 tr12 tr13 tr14 tr15 tr16 a4 b4 a6 b6 a10 b10 a11 b11 a12 b12 mz8 mz13 mz14 mz15 mz16 rn3 rn5 rn7 rn9 cn4 cn5 cn6 cn7
    obtain ⟨z_63, rfl, y_63, D_63, C_63, K_63, M_63⟩ := q_63
    have N_63 := K_63 (G + 1 + 1) (by omega)
    have n4_63 := congrFun N_63 4
    have n6_63 := congrFun N_63 6
    have n7_63 := congrFun N_63 7
    obtain ⟨⟨tk, tr0, tr1, tr4, tr6, tr8, tr10, tr11, tr12, tr13, tr14, tr15, tr16⟩, ⟨⟨a4, b4⟩, ⟨a6, b6⟩, ⟨a10, b10⟩, ⟨a11, b11⟩, a12, b12⟩, ⟨mz8, mz13, mz14, mz15, mz16⟩, -⟩ := D_63.1
    obtain ⟨rn3, rn5, rn7, rn9⟩ := D_63.2.2.1.2.1
    obtain ⟨cn4, cn5, cn6, cn7⟩ := D_63.2.2.2.1
    refine wp_goto (tgt := 80) d_104_66 (by decide) ?_
    refine wp_istore_n d_104_80 (by decide) ?_
    refine wp_iconst d_104_81 ?_
    refine wp_istore_n d_104_82 (by decide) ?_
    first
      | (
        have CB : ch (PU G) nP h h_63 := ((((((((C_8.trans (C_22.mono (fun a z => Or.inl z) (fun a z => z))).trans C_25).trans (C_34.mono (fun a z => Or.inl z) (fun a z => z))).trans C_37).trans (C_46.mono (fun a z => Or.inl z) (fun a z => z))).trans C_50).trans (C_53.mono (fun a z => Or.inl z) (fun a z => z))).trans (C_63.mono (fun a z => Or.inl z) (fun a z => z)))
        have KB : ∀ a, a ≠ G → a ≠ G + 161 → a ≠ G + 162 → a ≠ G + 163 → hi h_63 a = hi h a := fun a z0 z1 z2 z3 => (K_63 a z0).trans ((K_53 a z0).trans ((K_50 a z3).trans ((K_46 a z0).trans ((K_37 a z2).trans ((K_34 a z0).trans ((K_25 a z1).trans ((K_22 a z0).trans (K_8 a z0))))))))
        have NB := KB (G + 1 + 1) (by omega) (by omega) (by omega) (by omega)
        have nb4 := congrFun NB 4
        have nb6 := congrFun NB 6
        have nb7 := congrFun NB 7
        have eK : hi h_63 (G + 163) N = 1 + z_46 := by rw [K_63 _ (by omega), K_53 _ (by omega), V_50, upF_same]
        have ep : hi h_63 (G + 162) N = z_34 := by rw [K_63 _ (by omega), K_53 _ (by omega), K_50 _ (by omega), K_46 _ (by omega), V_37, upF_same]
        have ec : hi h_63 (G + 161) N = z_22 := by rw [K_63 _ (by omega), K_53 _ (by omega), K_50 _ (by omega), K_46 _ (by omega), K_37 _ (by omega), K_34 _ (by omega), V_25, upF_same]
        have xB : nx h_63 = nx h := CB.2.2.2.1
        have uB : us h_63 = us h := CB.2.2.2.2.1
        have vB : cn h_63 = cn h := CB.2.2.2.2.2.1
        have wB : cs h_63 = cs h := CB.2.2.2.2.2.2.1
        refine wp_to [some (vR (some G)), some (vI N), some (vI z_63), some (vI 0)] ⟨rfl, rfl, rfl, rfl, trivial⟩ ?_
        have DL : DrT h_63 G sa (nx h_63) (hi h (G + 1 + 1) 4) (N + 1) (D + 6) := by rw [xB]; exact D_63.up (by omega)
        refine wp_mono (fun v h' y => ?_) (fun _ _ y => y) (l_tHead (m := z_63) DL (by omega) (by omega) (by omega) hN (by omega) ⟨by omega, by omega⟩ eK ⟨by omega, by omega⟩ ep ⟨by omega, by omega⟩ ec ⟨by omega, by omega⟩ (by omega) (by omega))
        obtain ⟨z1, z2, z3, z4, z5, z6, z7⟩ := y
        refine ⟨z1, z2.up (by omega), (CB.fm.mono (fun a z => ?_) (fun a z => z.elim)).trans z3, by omega, by omega, fun k hk => by rw [z6 k hk, NB], by rw [z7]; omega⟩
        have z : a = G ∨ (G + 155 ≤ a ∧ a < G + 192) := z
        show a = G ∨ (G + 2 ≤ a ∧ a ≤ G + 6) ∨ G + 155 ≤ a
        omega
        )
      | (
        have CB : ch (PU G) nP h h_76 := ((((((((C_8.trans (C_22.mono (fun a z => Or.inl z) (fun a z => z))).trans C_25).trans (C_34.mono (fun a z => Or.inl z) (fun a z => z))).trans C_37).trans (C_46.mono (fun a z => Or.inl z) (fun a z => z))).trans C_50).trans (C_53.mono (fun a z => Or.inl z) (fun a z => z))).trans (C_76.mono (fun a z => Or.inl z) (fun a z => z)))
        have KB : ∀ a, a ≠ G → a ≠ G + 161 → a ≠ G + 162 → a ≠ G + 163 → hi h_76 a = hi h a := fun a z0 z1 z2 z3 => (K_76 a z0).trans ((K_53 a z0).trans ((K_50 a z3).trans ((K_46 a z0).trans ((K_37 a z2).trans ((K_34 a z0).trans ((K_25 a z1).trans ((K_22 a z0).trans (K_8 a z0))))))))
        have NB := KB (G + 1 + 1) (by omega) (by omega) (by omega) (by omega)
        have nb4 := congrFun NB 4
        have nb6 := congrFun NB 6
        have nb7 := congrFun NB 7
        have eK : hi h_76 (G + 163) N = 1 + z_46 := by rw [K_76 _ (by omega), K_53 _ (by omega), V_50, upF_same]
        have ep : hi h_76 (G + 162) N = z_34 := by rw [K_76 _ (by omega), K_53 _ (by omega), K_50 _ (by omega), K_46 _ (by omega), V_37, upF_same]
        have ec : hi h_76 (G + 161) N = z_22 := by rw [K_76 _ (by omega), K_53 _ (by omega), K_50 _ (by omega), K_46 _ (by omega), K_37 _ (by omega), K_34 _ (by omega), V_25, upF_same]
        have xB : nx h_76 = nx h := CB.2.2.2.1
        have uB : us h_76 = us h := CB.2.2.2.2.1
        have vB : cn h_76 = cn h := CB.2.2.2.2.2.1
        have wB : cs h_76 = cs h := CB.2.2.2.2.2.2.1
        refine wp_to [some (vR (some G)), some (vI N), some (vI (360 + z_76)), some (vI 0)] ⟨rfl, rfl, rfl, rfl, trivial⟩ ?_
        have DL : DrT h_76 G sa (nx h_76) (hi h (G + 1 + 1) 4) (N + 1) (D + 6) := by rw [xB]; exact D_76.up (by omega)
        refine wp_mono (fun v h' y => ?_) (fun _ _ y => y) (l_tHead (m := (360 + z_76)) DL (by omega) (by omega) (by omega) hN (by omega) ⟨by omega, by omega⟩ eK ⟨by omega, by omega⟩ ep ⟨by omega, by omega⟩ ec ⟨by omega, by omega⟩ (by omega) (by omega))
        obtain ⟨z1, z2, z3, z4, z5, z6, z7⟩ := y
        refine ⟨z1, z2.up (by omega), (CB.fm.mono (fun a z => ?_) (fun a z => z.elim)).trans z3, by omega, by omega, fun k hk => by rw [z6 k hk, NB], by rw [z7]; omega⟩
        have z : a = G ∨ (G + 155 ≤ a ∧ a < G + 192) := z
        show a = G ∨ (G + 2 ≤ a ∧ a ≤ G + 6) ∨ G + 155 ≤ a
        omega
        )
