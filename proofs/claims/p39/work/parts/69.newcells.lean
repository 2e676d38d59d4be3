/-! ===== new footways, calendars, trips ===== -/
set_option maxRecDepth 100000 in
set_option maxHeartbeats 4000000 in
theorem s_FwInit {s o m : Int} {h : Hp} (hs : inR s) (ho : inR o) (hm : inR m) : wp 58 0 (entL [vR (some (nx h)), vI s, vI o, vI m] (mL 58)) [] (mkO h 6 3) (fun v h' => v = none ∧ FwN h h' s o m) noX := by
  have ka : kd (mkO h 6 3) (nx h) = 6 := by rw [kd_mkO, up1_same]
  refine wp_aload_n d_58_0 (by rfl) ?_
  refine wp_objInit d_58_1 oi_5 co_code ⟨Nat.le_of_ble_eq_true rfl, Nat.le_of_ble_eq_true rfl⟩ ?_
  refine wp_aload_n d_58_4 (by rfl) ?_
  refine wp_iload_n d_58_5 (by rfl) ?_
  refine wp_putI (0) d_58_6 fl_5_9 rfl rfl (Or.inr ⟨by rfl, by rfl, by rfl⟩) (by first | assumption | (simp only [kd_setI, kd_setR]; assumption)) (by omega) (fun q => nomatch q) ?_
  refine wp_aload_n d_58_9 (by rfl) ?_
  refine wp_iload_n d_58_10 (by rfl) ?_
  refine wp_putI (1) d_58_11 fl_5_15 rfl rfl (Or.inr ⟨by rfl, by rfl, by rfl⟩) (by first | assumption | (simp only [kd_setI, kd_setR]; assumption)) (by omega) (fun q => nomatch q) ?_
  refine wp_aload_n d_58_14 (by rfl) ?_
  refine wp_iload_n d_58_15 (by rfl) ?_
  refine wp_putI (2) d_58_16 fl_5_18 rfl rfl (Or.inr ⟨by rfl, by rfl, by rfl⟩) (by first | assumption | (simp only [kd_setI, kd_setR]; assumption)) (by omega) (fun q => nomatch q) ?_
  refine wp_vret d_58_19 rfl ?_
  refine ⟨rfl, ((fm_mkO.put (Or.inl (Nat.le_refl _))).put (Or.inl (Nat.le_refl _))).put (Or.inl (Nat.le_refl _)), rfl, rfl, ka, ?_, ?_, ?_⟩
  all_goals (repeat first | rw [hi_upF] | rw [upF_same] | rw [upF_ne _ (by decide)])
set_option maxRecDepth 100000 in
set_option maxHeartbeats 4000000 in
theorem s_CaInit {wd fi la : Int} {h : Hp} (hs : inR wd) (ho : inR fi) (hm : inR la) (r1 : nx h + 2 ≤ cn h) (r2 : us h + 370 ≤ cs h) : wp 50 0 (entL [vR (some (nx h)), vI wd, vI fi, vI la] (mL 50)) [] (mkO h 4 4) (fun v h' => v = none ∧ CaN h h' wd fi la) noX := by
  have ka : kd (mkO h 4 4) (nx h) = 4 := by rw [kd_mkO, up1_same]
  have n0 : nx (mkO h 4 4) = nx h + 1 := rfl
  have u0 : us (mkO h 4 4) = us h + 4 := rfl
  have cn0 : cn (mkO h 4 4) = cn h := rfl
  have cs0 : cs (mkO h 4 4) = cs h := rfl
  refine wp_aload_n d_50_0 (by rfl) ?_
  refine wp_objInit d_50_1 oi_3 co_code ⟨Nat.le_of_ble_eq_true rfl, Nat.le_of_ble_eq_true rfl⟩ ?_
  refine wp_aload_n d_50_4 (by rfl) ?_
  refine wp_sipush d_50_5 (by decide) ?_
  refine wp_newa (K := 100) d_50_8 rfl (by decide) ca_100 rfl (by omega) (by omega) (by decide) (by omega) (by omega) ?_
  refine wp_putR (3) d_50_10 fl_3_9 rfl rfl (Or.inr ⟨by rfl, by rfl, by rfl⟩) (by first | assumption | (rw [kd_mkO, up1_ne _ _ (by omega)]; assumption) | (simp only [kd_setI, kd_setR]; assumption)) ?_
  obtain ⟨F1, N1, U1, Z1, R1, O1⟩ := AnS (h := mkO h 4 4) (a := nx h) (n := 366) (k := 3) (by show nx h < nx h + 1; omega) (by omega)
  generalize setR (mkO (mkO h 4 4) 100 366) (nx h) 3 (some (nx (mkO h 4 4))) = g1 at F1 N1 U1 Z1 R1 O1 ⊢
  rw [n0] at N1 Z1 R1
  have k1 : kd g1 (nx h) = 4 := (F1.2.1 (nx h) (by omega)).1.trans ka
  refine wp_aload_n d_50_13 (by rfl) ?_
  refine wp_iload_n d_50_14 (by rfl) ?_
  refine wp_putI (0) d_50_15 fl_3_15 rfl rfl (Or.inr ⟨by rfl, by rfl, by rfl⟩) (by first | assumption | (rw [kd_mkO, up1_ne _ _ (by omega)]; assumption) | (simp only [kd_setI, kd_setR]; assumption)) (by omega) (fun q => nomatch q) ?_
  refine wp_aload_n d_50_18 (by rfl) ?_
  refine wp_iload_n d_50_19 (by rfl) ?_
  refine wp_putI (1) d_50_20 fl_3_19 rfl rfl (Or.inr ⟨by rfl, by rfl, by rfl⟩) (by first | assumption | (rw [kd_mkO, up1_ne _ _ (by omega)]; assumption) | (simp only [kd_setI, kd_setR]; assumption)) (by omega) (fun q => nomatch q) ?_
  refine wp_aload_n d_50_23 (by rfl) ?_
  refine wp_iload_n d_50_24 (by rfl) ?_
  refine wp_putI (2) d_50_25 fl_3_22 rfl rfl (Or.inr ⟨by rfl, by rfl, by rfl⟩) (by first | assumption | (rw [kd_mkO, up1_ne _ _ (by omega)]; assumption) | (simp only [kd_setI, kd_setR]; assumption)) (by omega) (fun q => nomatch q) ?_
  refine wp_vret d_50_28 rfl ?_
  have e9 : fm nP nP h g1 := by
    obtain ⟨a1, a2, a3, a4, a5, a6⟩ := F1
    rw [n0] at a1 a2 a3 a4
    have m0 := (fm_mkO (h := h) (K := 4) (n := 4))
    refine ⟨by omega, fun x hx => ⟨(a2 x (by omega)).1.trans (m0.2.1 x hx).1, (a2 x (by omega)).2.trans (m0.2.1 x hx).2⟩, fun x k hx _ => (a3 x k (by omega) (fun z => z)).trans (m0.2.2.1 x k hx (fun z => z)), fun x k hx _ => (a4 x k (by omega) (fun z => by have z : x = nx h := z; omega)).trans (m0.2.2.2.1 x k hx (fun z => z)), a5, a6⟩
  refine ⟨rfl, ((e9.put (Or.inl (Nat.le_refl _))).put (Or.inl (Nat.le_refl _))).put (Or.inl (Nat.le_refl _)), by show nx g1 = _; omega, by show us g1 = _; omega, ⟨k1, R1, Z1.1, Z1.2.1⟩, ⟨?_, ?_, ?_⟩, fun k => ?_⟩
  · (repeat first | rw [hi_upF] | rw [upF_same] | rw [upF_ne _ (by decide)])
  · (repeat first | rw [hi_upF] | rw [upF_same] | rw [upF_ne _ (by decide)])
  · (repeat first | rw [hi_upF] | rw [upF_same] | rw [upF_ne _ (by decide)])
  · rw [hi_setI_ne (by omega), hi_setI_ne (by omega), hi_setI_ne (by omega)]
    exact Z1.2.2 k
set_option maxRecDepth 100000 in
set_option maxHeartbeats 4000000 in
theorem s_TrInit {t p : Int} {c : Nat} {h : Hp} (ht : inR t) (hp : inR p) (r1 : nx h + 5 ≤ cn h) (r2 : us h + 398 ≤ cs h) : wp 97 0 (entL [vR (some (nx h)), vI t, vR (some c), vI p] (mL 97)) [] (mkO h 12 8) (fun v h' => v = none ∧ TrN h h' t p c) noX := by
  have k0 : kd (mkO h 12 8) (nx h) = 12 := by rw [kd_mkO, up1_same]
  have N0 : nx (mkO h 12 8) = nx h + 1 := rfl
  have u0 : us (mkO h 12 8) = us h + 8 := rfl
  have cn0 : cn (mkO h 12 8) = cn h := rfl
  have cs0 : cs (mkO h 12 8) = cs h := rfl
  refine wp_aload_n d_97_0 (by rfl) ?_
  refine wp_objInit d_97_1 oi_11 co_code ⟨Nat.le_of_ble_eq_true rfl, Nat.le_of_ble_eq_true rfl⟩ ?_
  refine wp_aload_n d_97_4 (by rfl) ?_
  refine wp_bipush d_97_5 (by decide) ?_
  refine wp_newa (K := 100) d_97_7 rfl (by decide) ca_100 rfl (by omega) (by omega) (by decide) (by omega) (by omega) ?_
  refine wp_putR (3) d_97_9 fl_11_9 rfl rfl (Or.inr ⟨by rfl, by rfl, by rfl⟩) (by first | assumption | (rw [kd_mkO, up1_ne _ _ (by omega)]; assumption) | (simp only [kd_setI, kd_setR]; assumption)) ?_
  obtain ⟨F1, N1, U1, Z1, R1, O1⟩ := AnS (h := mkO h 12 8) (a := nx h) (n := 8) (k := 3) (by omega) (by omega)
  generalize setR (mkO (mkO h 12 8) 100 8) (nx h) 3 (some (nx (mkO h 12 8))) = g1 at F1 N1 U1 Z1 R1 O1 ⊢
  rw [N0] at N1 Z1 R1
  have k1 : kd g1 (nx h) = 12 := (F1.2.1 (nx h) (by omega)).1.trans k0
  have cn1 : cn g1 = cn h := F1.2.2.2.2.1.trans cn0
  have cs1 : cs g1 = cs h := F1.2.2.2.2.2.trans cs0
  refine wp_aload_n d_97_12 (by rfl) ?_
  refine wp_bipush d_97_13 (by decide) ?_
  refine wp_newa (K := 100) d_97_15 rfl (by decide) ca_100 rfl (by omega) (by omega) (by decide) (by omega) (by omega) ?_
  refine wp_putR (4) d_97_17 fl_11_15 rfl rfl (Or.inr ⟨by rfl, by rfl, by rfl⟩) (by first | assumption | (rw [kd_mkO, up1_ne _ _ (by omega)]; assumption) | (simp only [kd_setI, kd_setR]; assumption)) ?_
  obtain ⟨F2, N2, U2, Z2, R2, O2⟩ := AnS (h := g1) (a := nx h) (n := 8) (k := 4) (by omega) (by omega)
  generalize setR (mkO (g1) 100 8) (nx h) 4 (some (nx (g1))) = g2 at F2 N2 U2 Z2 R2 O2 ⊢
  rw [N1] at N2 Z2 R2
  have k2 : kd g2 (nx h) = 12 := (F2.2.1 (nx h) (by omega)).1.trans k1
  have cn2 : cn g2 = cn h := F2.2.2.2.2.1.trans cn1
  have cs2 : cs g2 = cs h := F2.2.2.2.2.2.trans cs1
  refine wp_aload_n d_97_20 (by rfl) ?_
  refine wp_bipush d_97_21 (by decide) ?_
  refine wp_newa (K := 100) d_97_23 rfl (by decide) ca_100 rfl (by omega) (by omega) (by decide) (by omega) (by omega) ?_
  refine wp_putR (5) d_97_25 fl_11_18 rfl rfl (Or.inr ⟨by rfl, by rfl, by rfl⟩) (by first | assumption | (rw [kd_mkO, up1_ne _ _ (by omega)]; assumption) | (simp only [kd_setI, kd_setR]; assumption)) ?_
  obtain ⟨F3, N3, U3, Z3, R3, O3⟩ := AnS (h := g2) (a := nx h) (n := 8) (k := 5) (by omega) (by omega)
  generalize setR (mkO (g2) 100 8) (nx h) 5 (some (nx (g2))) = g3 at F3 N3 U3 Z3 R3 O3 ⊢
  rw [N2] at N3 Z3 R3
  have k3 : kd g3 (nx h) = 12 := (F3.2.1 (nx h) (by omega)).1.trans k2
  have cn3 : cn g3 = cn h := F3.2.2.2.2.1.trans cn2
  have cs3 : cs g3 = cs h := F3.2.2.2.2.2.trans cs2
  refine wp_aload_n d_97_28 (by rfl) ?_
  refine wp_sipush d_97_29 (by decide) ?_
  refine wp_newa (K := 100) d_97_32 rfl (by decide) ca_100 rfl (by omega) (by omega) (by decide) (by omega) (by omega) ?_
  refine wp_putR (6) d_97_34 fl_11_21 rfl rfl (Or.inr ⟨by rfl, by rfl, by rfl⟩) (by first | assumption | (rw [kd_mkO, up1_ne _ _ (by omega)]; assumption) | (simp only [kd_setI, kd_setR]; assumption)) ?_
  obtain ⟨F4, N4, U4, Z4, R4, O4⟩ := AnS (h := g3) (a := nx h) (n := 366) (k := 6) (by omega) (by omega)
  generalize setR (mkO (g3) 100 366) (nx h) 6 (some (nx (g3))) = g4 at F4 N4 U4 Z4 R4 O4 ⊢
  rw [N3] at N4 Z4 R4
  have k4 : kd g4 (nx h) = 12 := (F4.2.1 (nx h) (by omega)).1.trans k3
  have cn4 : cn g4 = cn h := F4.2.2.2.2.1.trans cn3
  have cs4 : cs g4 = cs h := F4.2.2.2.2.2.trans cs3
  refine wp_aload_n d_97_37 (by rfl) ?_
  refine wp_iload_n d_97_38 (by rfl) ?_
  refine wp_putI (0) d_97_39 fl_11_24 rfl rfl (Or.inr ⟨by rfl, by rfl, by rfl⟩) (by first | assumption | (rw [kd_mkO, up1_ne _ _ (by omega)]; assumption) | (simp only [kd_setI, kd_setR]; assumption)) (by omega) (fun q => nomatch q) ?_
  refine wp_aload_n d_97_42 (by rfl) ?_
  refine wp_aload_n d_97_43 (by rfl) ?_
  refine wp_putR (1) d_97_44 fl_11_28 rfl rfl (Or.inr ⟨by rfl, by rfl, by rfl⟩) (by first | assumption | (rw [kd_mkO, up1_ne _ _ (by omega)]; assumption) | (simp only [kd_setI, kd_setR]; assumption)) ?_
  refine wp_aload_n d_97_47 (by rfl) ?_
  refine wp_iload_n d_97_48 (by rfl) ?_
  refine wp_putI (2) d_97_49 fl_11_32 rfl rfl (Or.inr ⟨by rfl, by rfl, by rfl⟩) (by first | assumption | (rw [kd_mkO, up1_ne _ _ (by omega)]; assumption) | (simp only [kd_setI, kd_setR]; assumption)) (by omega) (fun q => nomatch q) ?_
  refine wp_vret d_97_52 rfl ?_
  have m0 := (fm_mkO (h := h) (K := 12) (n := 8))
  have zh : ∀ k, hi (mkO h 12 8) (nx h) k = 0 := fun k => by rw [hi_mkO, up1_same]
  have z7 : hi g4 (nx h) 7 = 0 := by
    rw [F4.2.2.1 _ 7 (by omega) (fun z => z), F3.2.2.1 _ 7 (by omega) (fun z => z), F2.2.2.1 _ 7 (by omega) (fun z => z), F1.2.2.1 _ 7 (by omega) (fun z => z)]
    exact zh 7
  have e9 : fm nP nP h g4 := by
    refine ⟨by omega, fun x hx => ?_, fun x k hx _ => ?_, fun x k hx _ => ?_, cn4, cs4⟩
    · rw [(F4.2.1 x (by omega)).1, (F4.2.1 x (by omega)).2, (F3.2.1 x (by omega)).1, (F3.2.1 x (by omega)).2, (F2.2.1 x (by omega)).1, (F2.2.1 x (by omega)).2, (F1.2.1 x (by omega)).1, (F1.2.1 x (by omega)).2]
      exact m0.2.1 x hx
    · rw [F4.2.2.1 x k (by omega) (fun z => z), F3.2.2.1 x k (by omega) (fun z => z), F2.2.2.1 x k (by omega) (fun z => z), F1.2.2.1 x k (by omega) (fun z => z)]
      exact m0.2.2.1 x k hx (fun z => z)
    · have hne : ¬ x = nx h := by omega
      rw [F4.2.2.2.1 x k (by omega) hne, F3.2.2.2.1 x k (by omega) hne, F2.2.2.2.1 x k (by omega) hne, F1.2.2.2.1 x k (by omega) hne]
      exact m0.2.2.2.1 x k hx (fun z => z)
  have q3 : hr g4 (nx h) 3 = some (nx h + 1) := by rw [O4 3 (by decide), O3 3 (by decide), O2 3 (by decide)]; exact R1
  have q4 : hr g4 (nx h) 4 = some (nx h + 2) := by rw [O4 4 (by decide), O3 4 (by decide)]; exact R2
  have q5 : hr g4 (nx h) 5 = some (nx h + 3) := by rw [O4 5 (by decide)]; exact R3
  have q6 : hr g4 (nx h) 6 = some (nx h + 4) := R4
  have w1 : kd g4 (nx h + 1) = 100 ∧ ln g4 (nx h + 1) = 8 := ⟨((F4.2.1 _ (by omega)).1.trans ((F3.2.1 _ (by omega)).1.trans (F2.2.1 _ (by omega)).1)).trans Z1.1, ((F4.2.1 _ (by omega)).2.trans ((F3.2.1 _ (by omega)).2.trans (F2.2.1 _ (by omega)).2)).trans Z1.2.1⟩
  have w2 : kd g4 (nx h + 2) = 100 ∧ ln g4 (nx h + 2) = 8 := ⟨((F4.2.1 _ (by omega)).1.trans (F3.2.1 _ (by omega)).1).trans Z2.1, ((F4.2.1 _ (by omega)).2.trans (F3.2.1 _ (by omega)).2).trans Z2.2.1⟩
  have w3 : kd g4 (nx h + 3) = 100 ∧ ln g4 (nx h + 3) = 8 := ⟨(F4.2.1 _ (by omega)).1.trans Z3.1, (F4.2.1 _ (by omega)).2.trans Z3.2.1⟩
  refine ⟨rfl, ((e9.put (Or.inl (Nat.le_refl _))).putR (Or.inl (Nat.le_refl _))).put (Or.inl (Nat.le_refl _)), by show nx g4 = _; omega, by show us g4 = _; omega, k4, ⟨?_, ?_, ?_, ?_, ?_⟩, ⟨?_, ?_, ?_⟩, ⟨w1, w2, w3, Z4.1, Z4.2.1⟩, fun k => ?_⟩
  · rw [hr_setI, hr_setR, up2_same]
  · rw [hr_setI, hr_setR, up2_ne _ _ (fun z => by omega), hr_setI]; exact q3
  · rw [hr_setI, hr_setR, up2_ne _ _ (fun z => by omega), hr_setI]; exact q4
  · rw [hr_setI, hr_setR, up2_ne _ _ (fun z => by omega), hr_setI]; exact q5
  · rw [hr_setI, hr_setR, up2_ne _ _ (fun z => by omega), hr_setI]; exact q6
  · rw [hi_upF, upF_ne _ (by decide), hi_setR, hi_upF, upF_same]
  · rw [hi_upF, upF_same]
  · rw [hi_upF, upF_ne _ (by decide), hi_setR, hi_upF, upF_ne _ (by decide)]; exact z7
  · rw [hi_setI_ne (by omega), hi_setR, hi_setI_ne (by omega)]
    exact Z4.2.2 k
set_option maxRecDepth 100000 in
set_option maxHeartbeats 4000000 in
theorem s_append {a : Nat} {s x y : Int} {h : Hp} (ka : kd h a = 12) (hr_ : hr h a 3 = some (a + 1) ∧ hr h a 4 = some (a + 2) ∧ hr h a 5 = some (a + 3)) (hk : (kd h (a + 1) = 100 ∧ ln h (a + 1) = 8) ∧ (kd h (a + 2) = 100 ∧ ln h (a + 2) = 8) ∧ kd h (a + 3) = 100 ∧ ln h (a + 3) = 8) (hz : 0 ≤ hi h a 7 ∧ hi h a 7 < 8) (hs : inR s) (hx : inR x) (hy : inR y) : wp 98 0 (entL [vR (some a), vI s, vI x, vI y] (mL 98)) [] h (fun v h' => v = none ∧ h' = apT h a s x y) noX := by
  obtain ⟨u1, u2, u3⟩ := hr_
  obtain ⟨⟨v1, v2⟩, ⟨v3, v4⟩, v5, v6⟩ := hk
  refine wp_aload_n d_98_0 (by rfl) ?_
  refine wp_getI (7) d_98_1 fl_11_35 rfl rfl (by first | assumption | (simp only [kd_setI, kd_setR]; assumption)) (fun x_1 e_1 r_1 => ?_)
  (repeat first | rw [hi_setI_ne (by omega)] at e_1)
  subst e_1
  refine wp_bipush d_98_4 (by decide) ?_
  refine wp_icmp_ge (tgt := 49) d_98_6 (by decide) (by first | omega | (simp only [ln_setI]; omega)) (by first | omega | (simp only [ln_setI]; omega)) (fun c_6 => ?_) (fun c_6 => ?_)
  · exact absurd c_6 (by omega)
  refine wp_aload_n d_98_9 (by rfl) ?_
  refine wp_getR (3) d_98_10 fl_11_9 rfl rfl (by first | assumption | (simp only [kd_setI, kd_setR]; assumption)) (by first | assumption | (simp only [hr_setI]; assumption)) ?_
  refine wp_aload_n d_98_13 (by rfl) ?_
  refine wp_getI (7) d_98_14 fl_11_35 rfl rfl (by first | assumption | (simp only [kd_setI, kd_setR]; assumption)) (fun x_14 e_14 r_14 => ?_)
  (repeat first | rw [hi_setI_ne (by omega)] at e_14)
  subst e_14
  refine wp_iload_n d_98_17 (by rfl) ?_
  refine wp_iast d_98_18 (by first | assumption | (simp only [kd_setI, kd_setR]; assumption)) (by first | omega | (simp only [ln_setI]; omega)) (by first | omega | (simp only [ln_setI]; omega)) (by first | omega | (simp only [ln_setI]; omega)) ?_
  refine wp_aload_n d_98_19 (by rfl) ?_
  refine wp_getR (4) d_98_20 fl_11_15 rfl rfl (by first | assumption | (simp only [kd_setI, kd_setR]; assumption)) (by first | assumption | (simp only [hr_setI]; assumption)) ?_
  refine wp_aload_n d_98_23 (by rfl) ?_
  refine wp_getI (7) d_98_24 fl_11_35 rfl rfl (by first | assumption | (simp only [kd_setI, kd_setR]; assumption)) (fun x_24 e_24 r_24 => ?_)
  (repeat first | rw [hi_setI_ne (by omega)] at e_24)
  subst e_24
  refine wp_iload_n d_98_27 (by rfl) ?_
  refine wp_iast d_98_28 (by first | assumption | (simp only [kd_setI, kd_setR]; assumption)) (by first | omega | (simp only [ln_setI]; omega)) (by first | omega | (simp only [ln_setI]; omega)) (by first | omega | (simp only [ln_setI]; omega)) ?_
  refine wp_aload_n d_98_29 (by rfl) ?_
  refine wp_getR (5) d_98_30 fl_11_18 rfl rfl (by first | assumption | (simp only [kd_setI, kd_setR]; assumption)) (by first | assumption | (simp only [hr_setI]; assumption)) ?_
  refine wp_aload_n d_98_33 (by rfl) ?_
  refine wp_getI (7) d_98_34 fl_11_35 rfl rfl (by first | assumption | (simp only [kd_setI, kd_setR]; assumption)) (fun x_34 e_34 r_34 => ?_)
  (repeat first | rw [hi_setI_ne (by omega)] at e_34)
  subst e_34
  refine wp_iload_n d_98_37 (by rfl) ?_
  refine wp_iast d_98_38 (by first | assumption | (simp only [kd_setI, kd_setR]; assumption)) (by first | omega | (simp only [ln_setI]; omega)) (by first | omega | (simp only [ln_setI]; omega)) (by first | omega | (simp only [ln_setI]; omega)) ?_
  refine wp_aload_n d_98_39 (by rfl) ?_
  refine wp_dup d_98_40 (by rfl) ?_
  refine wp_getI (7) d_98_41 fl_11_35 rfl rfl (by first | assumption | (simp only [kd_setI, kd_setR]; assumption)) (fun x_41 e_41 r_41 => ?_)
  (repeat first | rw [hi_setI_ne (by omega)] at e_41)
  subst e_41
  refine wp_iconst d_98_44 ?_
  refine wp_iadd d_98_45 ?_
  refine wp_putI (7) d_98_46 fl_11_35 rfl rfl (Or.inl (by rfl)) (by first | assumption | (simp only [kd_setI, kd_setR]; assumption)) (by first | omega | (simp only [ln_setI]; omega)) (fun q => nomatch q) ?_
  refine wp_vret d_98_49 rfl ?_
  exact ⟨rfl, rfl⟩
