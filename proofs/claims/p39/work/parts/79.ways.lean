/-! ===== make ===== -/
theorem DrT.fm {h h' : Hp} {G sa X : Nat} {S T D : Int} (q : DrT h G sa X S T D) (e : fm (fun a => X ≤ a) (fun a => a = G + 156) h h') : DrT h' G sa X S T D := by
  obtain ⟨q1, q2, ⟨g, ⟨n3, n5, n7, n9⟩, rc, rt, rl⟩, q4, q5⟩ := q
  have hX := q1.2.2.2.2.2.2
  have hXn := g.1.2.2.2.2.2.2
  have hXY := g.2.1.2
  have eo : ∀ a, a < X → hi h' a = hi h a := fun a ha => funext fun k => e.2.2.1 a k (by omega) (fun z => by have z : X ≤ a := z; omega)
  have er : ∀ a k, a < X → a ≠ G + 156 → hr h' a k = hr h a k := fun a k z y => e.2.2.2.1 a k (by omega) y
  obtain ⟨g', -, -, g3, g4⟩ := g.eq (EqOn.of e hXn.1 (by omega) (fun a z y => by have z : X ≤ a := z; omega) (fun a z y => by have z : a = G + 156 := z; omega))
  have n1 : hi h' (G + 1 + 1) = hi h (G + 1 + 1) := eo _ (by omega)
  have ca : ∀ c, caA h' (G + 1) c = caA h (G + 1) c := fun c => by unfold caA; rw [er _ _ (by omega) (by omega)]
  have ad : ∀ t, adT h' (G + 1) t = adT h (G + 1) t := fun t => by unfold adT; rw [er _ _ (by omega) (by omega)]
  have eG : hi h' G = hi h G := eo _ (by omega)
  refine ⟨q1.kept e (fun a z => by have z : a = G + 156 := z; omega), q2.kept e (fun a z => by have z : a = G + 156 := z; omega) (by omega), ⟨g', by rw [n1, eG]; exact ⟨n3, n5, n7, n9⟩, fun c d c0 c1 d0 d1 => ?_, fun t t0 t1 => ?_, fun t d t0 t1 d0 d1 => ?_⟩, by unfold CnT; rw [n1]; exact q4, by rw [eG]; exact q5⟩
  · rw [n1] at c1
    have c6 := q4.2.2.1
    rw [eo _ (by omega), ca]
    rcases rc c d c0 c1 d0 d1 with z | z
    · exact Or.inl ⟨z.1, ((g3 c c0 c1).2 d).mpr z.2⟩
    · exact Or.inr ⟨z.1, fun y => z.2 (((g3 c c0 c1).2 d).mp y)⟩
  · rw [n1] at t1
    obtain ⟨c9, x1, x2, x3, -⟩ := adT_of g.1 t0 t1
    have ab := (g.2.2.2.2.2.1 t t0 t1).1
    rw [eo _ (by omega), n1, ad, ca, er _ _ (by omega) (by omega)]
    exact rt t t0 t1
  · rw [n1, eo _ (by omega), ad]
    by_cases ht : t < hi h (G + 1 + 1) 7
    · obtain ⟨c9, x1, x2, x3, -⟩ := adT_of g.1 t0 ht
      rw [eo _ (by omega)]
      exact rl t d t0 t1 d0 d1
    · rw [if_neg ht]
      have := rl t d t0 t1 d0 d1
      rw [if_neg ht] at this
      exact this
theorem tmod_other {S o z : Int} (hS : 3 ≤ S ∧ S ≤ 6) (ho : 0 ≤ o ∧ o < S) (hz : 0 ≤ z ∧ z < S - 1) : (0 ≤ (o + 1 + z).tmod S ∧ (o + 1 + z).tmod S < S) ∧ o ≠ (o + 1 + z).tmod S := by
  have : S = 3 ∨ S = 4 ∨ S = 5 ∨ S = 6 := by omega
  rw [Int.tmod_eq_emod_of_nonneg (by omega)]
  rcases this with rfl | rfl | rfl | rfl <;> omega
set_option maxRecDepth 100000 in
set_option maxHeartbeats 4000000 in
theorem l_mkStops {G sa X : Nat} {S T mo : Int} {Q : Option AV → Hp → Prop} (hS : S ≤ 7) : ∀ (n : Nat) (h : Hp) (k D : Int), 0 ≤ k → k + n = S → D + n ≤ 700000 → DrT h G sa X S T D → hi h (G + 1 + 1) 4 = k → hi h (G + 1 + 1) 5 = 0 → hi h (G + 1 + 1) 6 = 0 → hi h (G + 1 + 1) 7 = 0 →
  (∀ h', DrT h' G sa X S T (D + n) → ch (PB G) nP h h' → hi h' (G + 1 + 1) 4 = S → hi h' (G + 1 + 1) 5 = 0 → hi h' (G + 1 + 1) 6 = 0 → hi h' (G + 1 + 1) 7 = 0 → wp 102 58 [some (vR (some G)), some (vI mo), some (vI S), none, none] [] h' Q noX) → wp 102 13 [some (vR (some G)), some (vI mo), some (vI k), none, none] [] h Q noX := by
  intro n
  induction n with
  | zero =>
    intro h k D hk hn hD q h4 h5 h6 h7 kk
    obtain ⟨⟨tk, tr0, tr1, tr4, tr6, tr8, tr10, tr11, tr12, tr13, tr14, tr15, tr16⟩, ⟨⟨a4, b4⟩, ⟨a6, b6⟩, ⟨a10, b10⟩, ⟨a11, b11⟩, a12, b12⟩, ⟨mz8, mz13, mz14, mz15, mz16⟩, -⟩ := q.1
    obtain ⟨rn3, rn5, rn7, rn9⟩ := q.2.2.1.2.1
    obtain ⟨cn4, cn5, cn6, cn7⟩ := q.2.2.2.1
    refine wp_iload_n d_102_13 (by rfl) ?_
    refine wp_aload_n d_102_14 (by rfl) ?_
    refine wp_getI (3) d_102_15 fl_12_90 rfl rfl (by first | assumption | (simp only [kd_setI, kd_setR]; assumption)) (fun x_15 e_15 r_15 => ?_)
    (try rw [rn3] at e_15)
    replace e_15 := e_15.symm
    subst e_15
    refine wp_icmp_ge (tgt := 58) d_102_18 (by decide) (by omega) (by omega) (fun c_18 => ?_) (fun c_18 => ?_)
    rotate_left
    · exact absurd c_18 (by omega)
    refine wp_to [some (vR (some G)), some (vI mo), some (vI k), none, none] ⟨rfl, rfl, rfl, trivial⟩ ?_
    have ek : k = S := by omega
    subst ek
    exact kk h (q.up (by omega)) ch.rfl h4 h5 h6 h7
  | succ n ih =>
    intro h k D hk hn hD q h4 h5 h6 h7 kk
    obtain ⟨⟨tk, tr0, tr1, tr4, tr6, tr8, tr10, tr11, tr12, tr13, tr14, tr15, tr16⟩, ⟨⟨a4, b4⟩, ⟨a6, b6⟩, ⟨a10, b10⟩, ⟨a11, b11⟩, a12, b12⟩, ⟨mz8, mz13, mz14, mz15, mz16⟩, -⟩ := q.1
    obtain ⟨rn3, rn5, rn7, rn9⟩ := q.2.2.1.2.1
    obtain ⟨cn4, cn5, cn6, cn7⟩ := q.2.2.2.1
    refine wp_iload_n d_102_13 (by rfl) ?_
    refine wp_aload_n d_102_14 (by rfl) ?_
    refine wp_getI (3) d_102_15 fl_12_90 rfl rfl (by first | assumption | (simp only [kd_setI, kd_setR]; assumption)) (fun x_15 e_15 r_15 => ?_)
    (try rw [rn3] at e_15)
    replace e_15 := e_15.symm
    subst e_15
    refine wp_icmp_ge (tgt := 58) d_102_18 (by decide) (by omega) (by omega) (fun c_18 => ?_) (fun c_18 => ?_)
    · exact absurd c_18 (by omega)
    refine wp_aload_n d_102_21 (by rfl) ?_
    refine wp_getR (4) d_102_22 fl_12_16 rfl rfl (by first | assumption | (simp only [kd_setI, kd_setR]; assumption)) (by first | assumption | (simp only [hr_setI]; assumption)) ?_
    refine wp_iload_n d_102_25 (by rfl) ?_
    refine wp_aload_n d_102_26 (by rfl) ?_
    refine wp_bipush d_102_27 (by decide) ?_
    refine wp_callV d_102_29 c_102_69 rfl (by rfl) (by rfl) ⟨12, rfl, rfl, by decide⟩ (by first | assumption | (simp only [kd_setI, kd_setR]; assumption)) (by exact Nat.le_of_ble_eq_true rfl) (by exact Nat.le_of_ble_eq_true rfl) (s_drawT q (by omega) (by omega)) (fun v_29 h_29 q_29 => ?_) (fun _ _ q => q.elim)
    clear tk tr0 tr1 tr4 tr6 tr8 tr10 tr11 tr12 tr13 tr14 tr15 tr16 a4 b4 a6 b6 a10 b10 a11 b11 a12 b12 mz8 mz13 mz14 mz15 mz16 rn3 rn5 rn7 rn9 cn4 cn5 cn6 cn7
    obtain ⟨z_29, rfl, y_29, D_29, C_29, K_29, M_29⟩ := q_29
    have N_29 := K_29 (G + 1 + 1) (by omega)
    have n4_29 := congrFun N_29 4
    have n6_29 := congrFun N_29 6
    have n7_29 := congrFun N_29 7
    obtain ⟨⟨tk, tr0, tr1, tr4, tr6, tr8, tr10, tr11, tr12, tr13, tr14, tr15, tr16⟩, ⟨⟨a4, b4⟩, ⟨a6, b6⟩, ⟨a10, b10⟩, ⟨a11, b11⟩, a12, b12⟩, ⟨mz8, mz13, mz14, mz15, mz16⟩, -⟩ := D_29.1
    obtain ⟨rn3, rn5, rn7, rn9⟩ := D_29.2.2.1.2.1
    obtain ⟨cn4, cn5, cn6, cn7⟩ := D_29.2.2.2.1
    have n5_29 := congrFun N_29 5
    have kS_29 := D_29.2.1.1.1
    refine wp_iast d_102_32 a4 (by omega) (by omega) (by omega) ?_
    have D_32 := D_29.row (o := G + 155) (k := k) (v := z_29) (Or.inl rfl)
    have C_32 : ch (PB G) nP h_29 (setI h_29 (G + 155) k z_29) := ch_setI (Or.inr (Or.inr (by omega)))
    have V_32 : hi (setI h_29 (G + 155) k z_29) (G + 155) k = z_29 := by rw [hi_upF, upF_same]
    have N_32 : hi (setI h_29 (G + 155) k z_29) (G + 1 + 1) = hi h_29 (G + 1 + 1) := hi_setI_ne (by omega)
    generalize setI h_29 (G + 155) k z_29 = h_32 at D_32 C_32 V_32 N_32 ⊢
    have n4_32 := congrFun N_32 4
    have n5_32 := congrFun N_32 5
    have n6_32 := congrFun N_32 6
    have n7_32 := congrFun N_32 7
    have kS_32 := D_32.2.1.1.1
    clear tk tr0 tr1 tr4 tr6 tr8 tr10 tr11 tr12 tr13 tr14 tr15 tr16 a4 b4 a6 b6 a10 b10 a11 b11 a12 b12 mz8 mz13 mz14 mz15 mz16 rn3 rn5 rn7 rn9 cn4 cn5 cn6 cn7
    obtain ⟨⟨tk, tr0, tr1, tr4, tr6, tr8, tr10, tr11, tr12, tr13, tr14, tr15, tr16⟩, ⟨⟨a4, b4⟩, ⟨a6, b6⟩, ⟨a10, b10⟩, ⟨a11, b11⟩, a12, b12⟩, ⟨mz8, mz13, mz14, mz15, mz16⟩, -⟩ := D_32.1
    obtain ⟨rn3, rn5, rn7, rn9⟩ := D_32.2.2.1.2.1
    obtain ⟨cn4, cn5, cn6, cn7⟩ := D_32.2.2.2.1
    refine wp_aload_n d_102_33 (by rfl) ?_
    refine wp_getR (0) d_102_34 fl_12_10 rfl rfl (by first | assumption | (simp only [kd_setI, kd_setR]; assumption)) (by first | assumption | (simp only [hr_setI]; assumption)) ?_
    refine wp_aload_n d_102_37 (by rfl) ?_
    refine wp_getR (4) d_102_38 fl_12_16 rfl rfl (by first | assumption | (simp only [kd_setI, kd_setR]; assumption)) (by first | assumption | (simp only [hr_setI]; assumption)) ?_
    refine wp_iload_n d_102_41 (by rfl) ?_
    refine wp_iald d_102_42 (Or.inl a4) (by omega) (by omega) (fun x_42 e_42 r_42 => ?_)
    rw [V_32] at e_42
    subst x_42
    refine wp_callV d_102_43 c_102_107 rfl (by rfl) (by rfl) ⟨0, rfl, rfl, by decide⟩ (by first | assumption | (simp only [kd_setI, kd_setR]; assumption)) (by exact Nat.le_of_ble_eq_true rfl) (by exact Nat.le_of_ble_eq_true rfl) (s_addStop D_32.2.1 D_32.2.2.1.1 (c := z_29) ⟨by omega, by omega⟩ (by omega)) (fun v_43 h_43 q_43 => ?_) (fun _ _ q => q.elim)
    obtain ⟨rfl, rfl⟩ := q_43
    have r4_ : inR (hi h_32 (G + 1 + 1) 4) := ⟨by omega, by omega⟩
    refine wp_iload_n d_102_46 (by rfl) ?_
    refine wp_icmp_eq (tgt := 52) d_102_47 (by decide) (by omega) (by omega) (fun c_47 => ?_) (fun c_47 => ?_)
    rotate_left
    · exact absurd c_47 (by omega)
    refine wp_iinc d_102_52 (by rfl) (by decide) ?_
    refine wp_goto (tgt := 13) d_102_55 (by decide) ?_
    refine wp_to [some (vR (some G)), some (vI mo), some (vI (k + 1)), none, none] ⟨rfl, rfl, rfl, trivial⟩ ?_
    obtain ⟨T1, T2, T3⟩ := D_32.stop (c := z_29) ⟨by omega, by omega⟩ (by omega) (by omega) (by omega) (by omega)
    have CT : ch (PB G) nP h_32 (setI (setI h_32 (G + 1 + 2) (hi h_32 (G + 1 + 1) 4) z_29) (G + 1 + 1) 4 (hi h_32 (G + 1 + 1) 4 + 1)) := (ch_setI (P := PB G) (R := nP) (Or.inr (Or.inl ⟨by omega, by omega⟩))).trans (ch_setI (P := PB G) (R := nP) (Or.inr (Or.inl ⟨by omega, by omega⟩)))
    generalize setI (setI h_32 (G + 1 + 2) (hi h_32 (G + 1 + 1) 4) z_29) (G + 1 + 1) 4 (hi h_32 (G + 1 + 1) 4 + 1) = h_9 at *
    have t5 := T2 5 (by decide)
    have t6 := T2 6 (by decide)
    have t7 := T2 7 (by decide)
    refine ih h_9 (k + 1) (D + 1) (by omega) (by omega) (by omega) T1 (by omega) (by omega) (by omega) (by omega) (fun h' y1 y2 y3 y4 y5 y6 => kk h' (y1.up (by omega)) ((((C_29.mono (fun a z => Or.inl z) (fun a z => z)).trans C_32).trans CT).trans y2) y3 y4 y5 y6)
set_option maxRecDepth 100000 in
set_option maxHeartbeats 4000000 in
theorem l_mkWays {G sa : Nat} {S T mo : Int} {Q : Option AV → Hp → Prop} (hS : 3 ≤ S ∧ S ≤ 6) : ∀ (n : Nat) (h : Hp) (D : Int), D + 3 * n ≤ 700000 → DrT h G sa (nx h) S T D → hi h (G + 1 + 1) 4 = S → hi h (G + 1 + 1) 5 + n ≤ 8 → hi h (G + 1 + 1) 6 = 0 → hi h (G + 1 + 1) 7 = 0 → nx h + 2 * n ≤ cn h → us h + 6 * n ≤ cs h →
  (∀ h', DrT h' G sa (nx h') S T (D + 3 * n) → fm (PB G) (RB G) h h' → nx h' ≤ nx h + 2 * n → us h' ≤ us h + 6 * n → hi h' (G + 1 + 1) 4 = S → hi h' (G + 1 + 1) 6 = 0 → hi h' (G + 1 + 1) 7 = 0 → wp 102 171 [some (vR (some G)), some (vI mo), some (vI 0), none, none] [] h' Q noX) → wp 102 64 [some (vR (some G)), some (vI mo), some (vI (n : Int)), none, none] [] h Q noX := by
  intro n
  induction n with
  | zero =>
    intro h D hD q h4 h5 h6 h7 r1 r2 kk
    refine wp_iload_n d_102_64 (by rfl) ?_
    refine wp_if_le (tgt := 171) d_102_65 (by decide) (by omega) (fun c_65 => ?_) (fun c_65 => ?_)
    rotate_left
    · exact absurd c_65 (by omega)
    refine wp_to [some (vR (some G)), some (vI mo), some (vI 0), none, none] ⟨rfl, rfl, rfl, trivial⟩ ?_
    exact kk h (q.up (by omega)) fm.rfl (by omega) (by omega) h4 h6 h7
  | succ n ih =>
    intro h D hD q h4 h5 h6 h7 r1 r2 kk
    obtain ⟨⟨tk, tr0, tr1, tr4, tr6, tr8, tr10, tr11, tr12, tr13, tr14, tr15, tr16⟩, ⟨⟨a4, b4⟩, ⟨a6, b6⟩, ⟨a10, b10⟩, ⟨a11, b11⟩, a12, b12⟩, ⟨mz8, mz13, mz14, mz15, mz16⟩, -⟩ := q.1
    obtain ⟨rn3, rn5, rn7, rn9⟩ := q.2.2.1.2.1
    obtain ⟨cn4, cn5, cn6, cn7⟩ := q.2.2.2.1
    have hXg := q.1.2.2.2.2.2.2
    have h50 := q.2.2.1.1.1.2.1.1
    refine wp_iload_n d_102_64 (by rfl) ?_
    refine wp_if_le (tgt := 171) d_102_65 (by decide) (by omega) (fun c_65 => ?_) (fun c_65 => ?_)
    · exact absurd c_65 (by omega)
    refine wp_aload_n d_102_68 (by rfl) ?_
    refine wp_aload_n d_102_69 (by rfl) ?_
    refine wp_getI (3) d_102_70 fl_12_90 rfl rfl (by first | assumption | (simp only [kd_setI, kd_setR]; assumption)) (fun x_70 e_70 r_70 => ?_)
    (try rw [rn3] at e_70)
    replace e_70 := e_70.symm
    subst e_70
    refine wp_callV d_102_73 c_102_69 rfl (by rfl) (by rfl) ⟨12, rfl, rfl, by decide⟩ (by first | assumption | (simp only [kd_setI, kd_setR]; assumption)) (by exact Nat.le_of_ble_eq_true rfl) (by exact Nat.le_of_ble_eq_true rfl) (s_drawT q (by omega) (by omega)) (fun v_73 h_73 q_73 => ?_) (fun _ _ q => q.elim)
    clear tk tr0 tr1 tr4 tr6 tr8 tr10 tr11 tr12 tr13 tr14 tr15 tr16 a4 b4 a6 b6 a10 b10 a11 b11 a12 b12 mz8 mz13 mz14 mz15 mz16 rn3 rn5 rn7 rn9 cn4 cn5 cn6 cn7
    obtain ⟨z_73, rfl, y_73, D_73, C_73, K_73, M_73⟩ := q_73
    have N_73 := K_73 (G + 1 + 1) (by omega)
    have n4_73 := congrFun N_73 4
    have n6_73 := congrFun N_73 6
    have n7_73 := congrFun N_73 7
    obtain ⟨⟨tk, tr0, tr1, tr4, tr6, tr8, tr10, tr11, tr12, tr13, tr14, tr15, tr16⟩, ⟨⟨a4, b4⟩, ⟨a6, b6⟩, ⟨a10, b10⟩, ⟨a11, b11⟩, a12, b12⟩, ⟨mz8, mz13, mz14, mz15, mz16⟩, -⟩ := D_73.1
    obtain ⟨rn3, rn5, rn7, rn9⟩ := D_73.2.2.1.2.1
    obtain ⟨cn4, cn5, cn6, cn7⟩ := D_73.2.2.2.1
    have n5_73 := congrFun N_73 5
    have X_73 : nx h_73 = _ := C_73.2.2.2.1
    have U_73 : us h_73 = _ := C_73.2.2.2.2.1
    have cc_73 := C_73.2.2.2.2.2.1
    have cd_73 := C_73.2.2.2.2.2.2.1
    refine wp_istore_n d_102_76 (by decide) ?_
    refine wp_iconst d_102_77 ?_
    refine wp_newa (K := 100) d_102_78 rfl (by decide) ca_100 rfl (by omega) (by omega) (by decide) (by omega) (by omega) ?_
    refine wp_dup d_102_80 (by rfl) ?_
    refine wp_iconst d_102_81 ?_
    refine wp_iload_n d_102_82 (by rfl) ?_
    refine wp_iast d_102_83 (by rw [kd_mkO, up1_same]) (by omega) (by rw [ln_mkO, up1_same]; decide) (by omega) ?_
    have F_83 : fm (fun a => nx h ≤ a) (fun a => a = G + 156) h_73 (setI (mkO h_73 100 3) (nx h_73) 0 z_73) := (fm_mkO.put (Or.inl (Nat.le_refl _))).mono (fun a z => z.elim) (fun a z => z.elim)
    have D_83 := D_73.fm F_83
    have V_83 : hi (setI (mkO h_73 100 3) (nx h_73) 0 z_73) (nx h_73) 0 = z_73 := by rw [hi_upF, upF_same]
    have N_83 : hi (setI (mkO h_73 100 3) (nx h_73) 0 z_73) (G + 1 + 1) = hi h_73 (G + 1 + 1) := funext fun k => F_83.2.2.1 _ k (by omega) (fun z => by have z : nx h ≤ G + 1 + 1 := z; omega)
    have X_83 : nx (setI (mkO h_73 100 3) (nx h_73) 0 z_73) = nx h_73 + 1 := rfl
    have U_83 : us (setI (mkO h_73 100 3) (nx h_73) 0 z_73) = us h_73 + 3 := rfl
    have kA_ : kd (setI (mkO h_73 100 3) (nx h_73) 0 z_73) (nx h_73) = 100 := by rw [kd_setI, kd_mkO, up1_same]
    have lA_ : ln (setI (mkO h_73 100 3) (nx h_73) 0 z_73) (nx h_73) = 3 := by rw [ln_setI, ln_mkO, up1_same]
    generalize setI (mkO h_73 100 3) (nx h_73) 0 z_73 = h_83 at F_83 D_83 V_83 N_83 X_83 U_83 kA_ lA_ ⊢
    rw [X_73] at V_83 kA_ lA_ ⊢
    have n4_83 := congrFun N_83 4
    have n5_83 := congrFun N_83 5
    have n6_83 := congrFun N_83 6
    have n7_83 := congrFun N_83 7
    have cc_83 := F_83.2.2.2.2.1
    have cd_83 := F_83.2.2.2.2.2
    clear tk tr0 tr1 tr4 tr6 tr8 tr10 tr11 tr12 tr13 tr14 tr15 tr16 a4 b4 a6 b6 a10 b10 a11 b11 a12 b12 mz8 mz13 mz14 mz15 mz16 rn3 rn5 rn7 rn9 cn4 cn5 cn6 cn7
    obtain ⟨⟨tk, tr0, tr1, tr4, tr6, tr8, tr10, tr11, tr12, tr13, tr14, tr15, tr16⟩, ⟨⟨a4, b4⟩, ⟨a6, b6⟩, ⟨a10, b10⟩, ⟨a11, b11⟩, a12, b12⟩, ⟨mz8, mz13, mz14, mz15, mz16⟩, -⟩ := D_83.1
    obtain ⟨rn3, rn5, rn7, rn9⟩ := D_83.2.2.1.2.1
    obtain ⟨cn4, cn5, cn6, cn7⟩ := D_83.2.2.2.1
    refine wp_dup d_102_84 (by rfl) ?_
    refine wp_iconst d_102_85 ?_
    refine wp_iload_n d_102_86 (by rfl) ?_
    refine wp_iconst d_102_87 ?_
    refine wp_iadd d_102_88 ?_
    refine wp_aload_n d_102_89 (by rfl) ?_
    refine wp_aload_n d_102_90 (by rfl) ?_
    refine wp_getI (3) d_102_91 fl_12_90 rfl rfl (by first | assumption | (simp only [kd_setI, kd_setR]; assumption)) (fun x_91 e_91 r_91 => ?_)
    (try rw [rn3] at e_91)
    replace e_91 := e_91.symm
    subst e_91
    refine wp_iconst d_102_94 ?_
    refine wp_isub d_102_95 ?_
    refine wp_callV d_102_96 c_102_69 rfl (by rfl) (by rfl) ⟨12, rfl, rfl, by decide⟩ (by first | assumption | (simp only [kd_setI, kd_setR]; assumption)) (by exact Nat.le_of_ble_eq_true rfl) (by exact Nat.le_of_ble_eq_true rfl) (s_drawT D_83 (by omega) (by omega)) (fun v_96 h_96 q_96 => ?_) (fun _ _ q => q.elim)
    clear tk tr0 tr1 tr4 tr6 tr8 tr10 tr11 tr12 tr13 tr14 tr15 tr16 a4 b4 a6 b6 a10 b10 a11 b11 a12 b12 mz8 mz13 mz14 mz15 mz16 rn3 rn5 rn7 rn9 cn4 cn5 cn6 cn7
    obtain ⟨z_96, rfl, y_96, D_96, C_96, K_96, M_96⟩ := q_96
    have N_96 := K_96 (G + 1 + 1) (by omega)
    have n4_96 := congrFun N_96 4
    have n6_96 := congrFun N_96 6
    have n7_96 := congrFun N_96 7
    obtain ⟨⟨tk, tr0, tr1, tr4, tr6, tr8, tr10, tr11, tr12, tr13, tr14, tr15, tr16⟩, ⟨⟨a4, b4⟩, ⟨a6, b6⟩, ⟨a10, b10⟩, ⟨a11, b11⟩, a12, b12⟩, ⟨mz8, mz13, mz14, mz15, mz16⟩, -⟩ := D_96.1
    obtain ⟨rn3, rn5, rn7, rn9⟩ := D_96.2.2.1.2.1
    obtain ⟨cn4, cn5, cn6, cn7⟩ := D_96.2.2.2.1
    have n5_96 := congrFun N_96 5
    have X_96 : nx h_96 = _ := C_96.2.2.2.1
    have U_96 : us h_96 = _ := C_96.2.2.2.2.1
    have cc_96 := C_96.2.2.2.2.2.1
    have cd_96 := C_96.2.2.2.2.2.2.1
    replace lA_ : ln h_96 (nx h) = 3 := (congrFun C_96.2.1 (nx h)).trans lA_
    replace kA_ : kd h_96 (nx h) = 100 := (congrFun C_96.1 (nx h)).trans kA_
    have eA_96 := K_96 (nx h) (by omega)
    have tm_ := tmod_other (S := S) (o := z_73) (z := z_96) hS (by omega) (by omega)
    refine wp_iadd d_102_99 ?_
    refine wp_aload_n d_102_100 (by rfl) ?_
    refine wp_getI (3) d_102_101 fl_12_90 rfl rfl (by first | assumption | (simp only [kd_setI, kd_setR]; assumption)) (fun x_101 e_101 r_101 => ?_)
    (try rw [rn3] at e_101)
    replace e_101 := e_101.symm
    subst e_101
    refine wp_irem d_102_104 (by omega) (by omega) (by omega) ?_
    refine wp_iast d_102_105 kA_ (by omega) (by omega) (by omega) ?_
    have F_105 : fm (fun a => nx h ≤ a) (fun a => a = G + 156) h_96 (setI h_96 (nx h) 1 ((z_73 + 1 + z_96).tmod S)) := ch.fm (ch_setI (Nat.le_refl _))
    have D_105 := D_96.fm F_105
    have V_105 : hi (setI h_96 (nx h) 1 ((z_73 + 1 + z_96).tmod S)) (nx h) = upF (hi h_96 (nx h)) 1 ((z_73 + 1 + z_96).tmod S) := hi_upF _ _ _ _
    have N_105 : hi (setI h_96 (nx h) 1 ((z_73 + 1 + z_96).tmod S)) (G + 1 + 1) = hi h_96 (G + 1 + 1) := hi_setI_ne (by omega)
    have X_105 : nx (setI h_96 (nx h) 1 ((z_73 + 1 + z_96).tmod S)) = nx h_96 := rfl
    have U_105 : us (setI h_96 (nx h) 1 ((z_73 + 1 + z_96).tmod S)) = us h_96 := rfl
    generalize setI h_96 (nx h) 1 ((z_73 + 1 + z_96).tmod S) = h_105 at F_105 D_105 V_105 N_105 X_105 U_105 ⊢
    have n4_105 := congrFun N_105 4
    have n5_105 := congrFun N_105 5
    have n6_105 := congrFun N_105 6
    have n7_105 := congrFun N_105 7
    have cc_105 := F_105.2.2.2.2.1
    have cd_105 := F_105.2.2.2.2.2
    replace lA_ : ln h_105 (nx h) = 3 := (F_105.2.1 _ (by omega)).2.trans lA_
    replace kA_ : kd h_105 (nx h) = 100 := (F_105.2.1 _ (by omega)).1.trans kA_
    clear tk tr0 tr1 tr4 tr6 tr8 tr10 tr11 tr12 tr13 tr14 tr15 tr16 a4 b4 a6 b6 a10 b10 a11 b11 a12 b12 mz8 mz13 mz14 mz15 mz16 rn3 rn5 rn7 rn9 cn4 cn5 cn6 cn7
    obtain ⟨⟨tk, tr0, tr1, tr4, tr6, tr8, tr10, tr11, tr12, tr13, tr14, tr15, tr16⟩, ⟨⟨a4, b4⟩, ⟨a6, b6⟩, ⟨a10, b10⟩, ⟨a11, b11⟩, a12, b12⟩, ⟨mz8, mz13, mz14, mz15, mz16⟩, -⟩ := D_105.1
    obtain ⟨rn3, rn5, rn7, rn9⟩ := D_105.2.2.1.2.1
    obtain ⟨cn4, cn5, cn6, cn7⟩ := D_105.2.2.2.1
    refine wp_dup d_102_106 (by rfl) ?_
    refine wp_iconst d_102_107 ?_
    refine wp_iconst d_102_108 ?_
    refine wp_aload_n d_102_109 (by rfl) ?_
    refine wp_bipush d_102_110 (by decide) ?_
    refine wp_callV d_102_112 c_102_69 rfl (by rfl) (by rfl) ⟨12, rfl, rfl, by decide⟩ (by first | assumption | (simp only [kd_setI, kd_setR]; assumption)) (by exact Nat.le_of_ble_eq_true rfl) (by exact Nat.le_of_ble_eq_true rfl) (s_drawT D_105 (by omega) (by omega)) (fun v_112 h_112 q_112 => ?_) (fun _ _ q => q.elim)
    clear tk tr0 tr1 tr4 tr6 tr8 tr10 tr11 tr12 tr13 tr14 tr15 tr16 a4 b4 a6 b6 a10 b10 a11 b11 a12 b12 mz8 mz13 mz14 mz15 mz16 rn3 rn5 rn7 rn9 cn4 cn5 cn6 cn7
    obtain ⟨z_112, rfl, y_112, D_112, C_112, K_112, M_112⟩ := q_112
    have N_112 := K_112 (G + 1 + 1) (by omega)
    have n4_112 := congrFun N_112 4
    have n6_112 := congrFun N_112 6
    have n7_112 := congrFun N_112 7
    obtain ⟨⟨tk, tr0, tr1, tr4, tr6, tr8, tr10, tr11, tr12, tr13, tr14, tr15, tr16⟩, ⟨⟨a4, b4⟩, ⟨a6, b6⟩, ⟨a10, b10⟩, ⟨a11, b11⟩, a12, b12⟩, ⟨mz8, mz13, mz14, mz15, mz16⟩, -⟩ := D_112.1
    obtain ⟨rn3, rn5, rn7, rn9⟩ := D_112.2.2.1.2.1
    obtain ⟨cn4, cn5, cn6, cn7⟩ := D_112.2.2.2.1
    have n5_112 := congrFun N_112 5
    have X_112 : nx h_112 = _ := C_112.2.2.2.1
    have U_112 : us h_112 = _ := C_112.2.2.2.2.1
    have cc_112 := C_112.2.2.2.2.2.1
    have cd_112 := C_112.2.2.2.2.2.2.1
    replace lA_ : ln h_112 (nx h) = 3 := (congrFun C_112.2.1 (nx h)).trans lA_
    replace kA_ : kd h_112 (nx h) = 100 := (congrFun C_112.1 (nx h)).trans kA_
    have eA_112 := K_112 (nx h) (by omega)
    refine wp_iadd d_102_115 ?_
    refine wp_iast d_102_116 kA_ (by omega) (by omega) (by omega) ?_
    have F_116 : fm (fun a => nx h ≤ a) (fun a => a = G + 156) h_112 (setI h_112 (nx h) 2 (1 + z_112)) := ch.fm (ch_setI (Nat.le_refl _))
    have D_116 := D_112.fm F_116
    have V_116 : hi (setI h_112 (nx h) 2 (1 + z_112)) (nx h) = upF (hi h_112 (nx h)) 2 (1 + z_112) := hi_upF _ _ _ _
    have N_116 : hi (setI h_112 (nx h) 2 (1 + z_112)) (G + 1 + 1) = hi h_112 (G + 1 + 1) := hi_setI_ne (by omega)
    have X_116 : nx (setI h_112 (nx h) 2 (1 + z_112)) = nx h_112 := rfl
    have U_116 : us (setI h_112 (nx h) 2 (1 + z_112)) = us h_112 := rfl
    generalize setI h_112 (nx h) 2 (1 + z_112) = h_116 at F_116 D_116 V_116 N_116 X_116 U_116 ⊢
    have n4_116 := congrFun N_116 4
    have n5_116 := congrFun N_116 5
    have n6_116 := congrFun N_116 6
    have n7_116 := congrFun N_116 7
    have cc_116 := F_116.2.2.2.2.1
    have cd_116 := F_116.2.2.2.2.2
    replace lA_ : ln h_116 (nx h) = 3 := (F_116.2.1 _ (by omega)).2.trans lA_
    replace kA_ : kd h_116 (nx h) = 100 := (F_116.2.1 _ (by omega)).1.trans kA_
    clear tk tr0 tr1 tr4 tr6 tr8 tr10 tr11 tr12 tr13 tr14 tr15 tr16 a4 b4 a6 b6 a10 b10 a11 b11 a12 b12 mz8 mz13 mz14 mz15 mz16 rn3 rn5 rn7 rn9 cn4 cn5 cn6 cn7
    obtain ⟨⟨tk, tr0, tr1, tr4, tr6, tr8, tr10, tr11, tr12, tr13, tr14, tr15, tr16⟩, ⟨⟨a4, b4⟩, ⟨a6, b6⟩, ⟨a10, b10⟩, ⟨a11, b11⟩, a12, b12⟩, ⟨mz8, mz13, mz14, mz15, mz16⟩, -⟩ := D_116.1
    obtain ⟨rn3, rn5, rn7, rn9⟩ := D_116.2.2.1.2.1
    obtain ⟨cn4, cn5, cn6, cn7⟩ := D_116.2.2.2.1
    refine wp_astore d_102_117 (by decide) ?_
    refine wp_aload_n d_102_119 (by rfl) ?_
    refine wp_getR (6) d_102_120 fl_12_21 rfl rfl (by first | assumption | (simp only [kd_setI, kd_setR]; assumption)) (by first | assumption | (simp only [hr_setI]; assumption)) ?_
    refine wp_aload_n d_102_123 (by rfl) ?_
    refine wp_getI (5) d_102_124 fl_12_110 rfl rfl (by first | assumption | (simp only [kd_setI, kd_setR]; assumption)) (fun x_124 e_124 r_124 => ?_)
    (try rw [rn3] at e_124)
    replace e_124 := e_124.symm
    subst e_124
    refine wp_aload d_102_127 (by rfl) ?_
    refine wp_aastA d_102_129 a6 kA_ (by omega) (by omega) ?_
    have F_129 : fm (fun a => nx h ≤ a) (fun a => a = G + 156) h_116 (setR h_116 (G + 156) (hi h_116 G 5) (some (nx h))) := ch.fm (ch_setR rfl)
    have D_129 := D_116.fm F_129
    have I_129 : hi (setR h_116 (G + 156) (hi h_116 G 5) (some (nx h))) = hi h_116 := rfl
    have X_129 : nx (setR h_116 (G + 156) (hi h_116 G 5) (some (nx h))) = nx h_116 := rfl
    have U_129 : us (setR h_116 (G + 156) (hi h_116 G 5) (some (nx h))) = us h_116 := rfl
    generalize setR h_116 (G + 156) (hi h_116 G 5) (some (nx h)) = h_129 at F_129 D_129 I_129 X_129 U_129 ⊢
    have n4_129 : hi h_129 (G + 1 + 1) 4 = hi h_116 (G + 1 + 1) 4 := by rw [I_129]
    have n5_129 : hi h_129 (G + 1 + 1) 5 = hi h_116 (G + 1 + 1) 5 := by rw [I_129]
    have n6_129 : hi h_129 (G + 1 + 1) 6 = hi h_116 (G + 1 + 1) 6 := by rw [I_129]
    have n7_129 : hi h_129 (G + 1 + 1) 7 = hi h_116 (G + 1 + 1) 7 := by rw [I_129]
    have cc_129 := F_129.2.2.2.2.1
    have cd_129 := F_129.2.2.2.2.2
    replace lA_ : ln h_129 (nx h) = 3 := (F_129.2.1 _ (by omega)).2.trans lA_
    replace kA_ : kd h_129 (nx h) = 100 := (F_129.2.1 _ (by omega)).1.trans kA_
    have kS_ := D_129.2.1.1.1
    have w0 : hi h_129 (nx h) 0 = z_73 := by rw [I_129, V_116, upF_ne _ (by decide), eA_112, V_105, upF_ne _ (by decide), eA_96]; exact V_83
    have w1 : hi h_129 (nx h) 1 = (z_73 + 1 + z_96).tmod S := by rw [I_129, V_116, upF_ne _ (by decide), eA_112, V_105, upF_same]
    have w2 : hi h_129 (nx h) 2 = 1 + z_112 := by rw [I_129, V_116, upF_same]
    clear tk tr0 tr1 tr4 tr6 tr8 tr10 tr11 tr12 tr13 tr14 tr15 tr16 a4 b4 a6 b6 a10 b10 a11 b11 a12 b12 mz8 mz13 mz14 mz15 mz16 rn3 rn5 rn7 rn9 cn4 cn5 cn6 cn7
    obtain ⟨⟨tk, tr0, tr1, tr4, tr6, tr8, tr10, tr11, tr12, tr13, tr14, tr15, tr16⟩, ⟨⟨a4, b4⟩, ⟨a6, b6⟩, ⟨a10, b10⟩, ⟨a11, b11⟩, a12, b12⟩, ⟨mz8, mz13, mz14, mz15, mz16⟩, -⟩ := D_129.1
    obtain ⟨rn3, rn5, rn7, rn9⟩ := D_129.2.2.1.2.1
    obtain ⟨cn4, cn5, cn6, cn7⟩ := D_129.2.2.2.1
    refine wp_aload_n d_102_130 (by rfl) ?_
    refine wp_getR (0) d_102_131 fl_12_10 rfl rfl (by first | assumption | (simp only [kd_setI, kd_setR]; assumption)) (by first | assumption | (simp only [hr_setI]; assumption)) ?_
    refine wp_aload d_102_134 (by rfl) ?_
    refine wp_iconst d_102_136 ?_
    refine wp_iald d_102_137 (Or.inl kA_) (by omega) (by omega) (fun x_137 e_137 r_137 => ?_)
    rw [w0] at e_137
    subst x_137
    refine wp_aload d_102_138 (by rfl) ?_
    refine wp_iconst d_102_140 ?_
    refine wp_iald d_102_141 (Or.inl kA_) (by omega) (by omega) (fun x_141 e_141 r_141 => ?_)
    rw [w1] at e_141
    subst x_141
    refine wp_aload d_102_142 (by rfl) ?_
    refine wp_iconst d_102_144 ?_
    refine wp_iald d_102_145 (Or.inl kA_) (by omega) (by omega) (fun x_145 e_145 r_145 => ?_)
    rw [w2] at e_145
    subst x_145
    refine wp_callV d_102_146 c_102_113 rfl (by rfl) (by rfl) ⟨0, rfl, rfl, by decide⟩ (by first | assumption | (simp only [kd_setI, kd_setR]; assumption)) (by exact Nat.le_of_ble_eq_true rfl) (by exact Nat.le_of_ble_eq_true rfl) (s_addFootway D_129.2.1 D_129.2.2.1.1 (s := z_73) (o := (z_73 + 1 + z_96).tmod S) (m := 1 + z_112) (by omega) (by omega) tm_.2 ⟨by omega, by omega⟩ (by omega) (by omega) (by omega)) (fun v_146 h_146 q_146 => ?_) (fun _ _ q => q.elim)
    obtain ⟨rfl, h1, fC, rfl⟩ := q_146
    have fC0 := fC
    have eG5 : hi (setI (setR h1 (G + 1 + 3) (hi h_129 (G + 1 + 1) 5) (some (nx h_129))) (G + 1 + 1) 5 (hi h_129 (G + 1 + 1) 5 + 1)) G = hi h_129 G := by
      rw [hi_setI_ne (by omega), hi_setR]
      exact funext fun k => fC.1.2.2.1 G k (by omega) (fun z => z)
    have ktk : kd (setI (setR h1 (G + 1 + 3) (hi h_129 (G + 1 + 1) 5) (some (nx h_129))) (G + 1 + 1) 5 (hi h_129 (G + 1 + 1) 5 + 1)) G = 13 := (fC.1.2.1 G (by omega)).1.trans tk
    refine wp_aload_n d_102_149 (by rfl) ?_
    refine wp_dup d_102_150 (by rfl) ?_
    refine wp_getI (5) d_102_151 fl_12_110 rfl rfl ktk (fun x_151 e_151 r_151 => ?_)
    rw [eG5] at e_151
    subst x_151
    refine wp_dup_x1 d_102_154 (by rfl) (by rfl) ?_
    refine wp_iconst d_102_155 ?_
    refine wp_iadd d_102_156 ?_
    refine wp_putI (5) d_102_157 fl_12_110 rfl rfl (Or.inl (by rfl)) (by first | assumption | (simp only [kd_setI, kd_setR]; assumption)) (by omega) (fun q => nomatch q) ?_
    obtain ⟨T1, T2, T3⟩ := D_129.foot fC0 (by omega) (by omega) ⟨by omega, by omega⟩ (by omega) (by omega) (by omega)
    have e8n : nx (setI (setI (setR h1 (G + 1 + 3) (hi h_129 (G + 1 + 1) 5) (some (nx h_129))) (G + 1 + 1) 5 (hi h_129 (G + 1 + 1) 5 + 1)) G 5 (hi h_129 G 5 + 1)) = nx h1 := rfl
    have e8u : us (setI (setI (setR h1 (G + 1 + 3) (hi h_129 (G + 1 + 1) 5) (some (nx h_129))) (G + 1 + 1) 5 (hi h_129 (G + 1 + 1) 5 + 1)) G 5 (hi h_129 G 5 + 1)) = us h1 := rfl
    have fC1 := fC0.1
    have F8 : fm (PB G) (RB G) h_129 (setI (setI (setR h1 (G + 1 + 3) (hi h_129 (G + 1 + 1) 5) (some (nx h_129))) (G + 1 + 1) 5 (hi h_129 (G + 1 + 1) 5 + 1)) G 5 (hi h_129 G 5 + 1)) := (((fC1.mono (fun a z => z.elim) (fun a z => z.elim)).putR (Or.inr (Or.inl ⟨by omega, by omega⟩))).put (Or.inr (Or.inr (Or.inl ⟨by omega, by omega⟩)))).put (Or.inr (Or.inl rfl))
    clear ktk eG5
    generalize setI (setI (setR h1 (G + 1 + 3) (hi h_129 (G + 1 + 1) 5) (some (nx h_129))) (G + 1 + 1) 5 (hi h_129 (G + 1 + 1) 5 + 1)) G 5 (hi h_129 G 5 + 1) = g9 at *
    have fn_ := fC0.2.1
    have fu_ := fC0.2.2.1
    have c8_ := F8.2.2.2.2.1
    have d8_ := F8.2.2.2.2.2
    refine wp_icmp_eq (tgt := 165) d_102_160 (by decide) (by omega) (by omega) (fun c_160 => ?_) (fun c_160 => ?_)
    rotate_left
    · exact absurd c_160 (by omega)
    refine wp_iinc d_102_165 (by rfl) (by decide) ?_
    refine wp_goto (tgt := 64) d_102_168 (by decide) ?_
    refine wp_to [some (vR (some G)), some (vI mo), some (vI (n : Int)), none, none] ⟨rfl, rfl, by show some (vI _) = some (vI _); exact congrArg (fun z => some (vI z)) (by omega), trivial⟩ ?_
    have M1 : fm (PB G) (RB G) h h_116 := by
      have z1 := C_73.fm.mono (P' := PB G) (R' := RB G) (fun a z => Or.inl z) (fun a z => z.elim)
      have z2 := (F_83.mono (P' := PB G) (R' := RB G) (fun a z => Or.inr (Or.inr (by have z : nx h ≤ a := z; omega))) (fun a z => Or.inr z))
      have z3 := C_96.fm.mono (P' := PB G) (R' := RB G) (fun a z => Or.inl z) (fun a z => z.elim)
      have z4 := (F_105.mono (P' := PB G) (R' := RB G) (fun a z => Or.inr (Or.inr (by have z : nx h ≤ a := z; omega))) (fun a z => Or.inr z))
      have z5 := C_112.fm.mono (P' := PB G) (R' := RB G) (fun a z => Or.inl z) (fun a z => z.elim)
      have z6 := (F_116.mono (P' := PB G) (R' := RB G) (fun a z => Or.inr (Or.inr (by have z : nx h ≤ a := z; omega))) (fun a z => Or.inr z))
      exact ((((z1.trans z2).trans z3).trans z4).trans z5).trans z6
    have M2 := F_129.mono (P' := PB G) (R' := RB G) (fun a z => Or.inr (Or.inr (by have z : nx h ≤ a := z; omega))) (fun a z => Or.inr z)
    have T25 := T2 4 (by decide)
    have T26 := T2 6 (by decide)
    have T27 := T2 7 (by decide)
    refine ih g9 (D + 3) (by omega) (by rw [e8n]; exact T1.up (by omega)) (by omega) (by omega) (by omega) (by omega) (by omega) (by omega) (fun h' y1 y2 y3 y4 y5 y6 y7 => kk h' (y1.up (by omega)) (((M1.trans M2).trans F8).trans y2) (by omega) (by omega) y5 y6 y7)
